def rdN (tn : Nat) (tx : Nat → Nat) : Nat → Nat → List (Nat × Nat × Nat) × (Nat × Bool)
  | 0, sp => ([], (sp, true))
  | m + 1, sp => if (cmdN tn tx sp).2.2 = false ∧ hN tn tx (cmdN tn tx sp).2.1 = 59 then ((cmdN tn tx sp).1 :: (rdN tn tx m ((cmdN tn tx sp).2.1 + 1)).1, (rdN tn tx m ((cmdN tn tx sp).2.1 + 1)).2) else ([(cmdN tn tx sp).1], (cmdN tn tx sp).2)
theorem rd_yes {tn m sp : Nat} {tx : Nat → Nat} (h : (cmdN tn tx sp).2.2 = false ∧ hN tn tx (cmdN tn tx sp).2.1 = 59) : rdN tn tx (m + 1) sp = ((cmdN tn tx sp).1 :: (rdN tn tx m ((cmdN tn tx sp).2.1 + 1)).1, (rdN tn tx m ((cmdN tn tx sp).2.1 + 1)).2) := by show (if _ then _ else _) = _; rw [if_pos h]
theorem rd_no {tn m sp : Nat} {tx : Nat → Nat} (h : ¬((cmdN tn tx sp).2.2 = false ∧ hN tn tx (cmdN tn tx sp).2.1 = 59)) : rdN tn tx (m + 1) sp = ([(cmdN tn tx sp).1], (cmdN tn tx sp).2) := by show (if _ then _ else _) = _; rw [if_neg h]
def rnL : List (Nat × Nat × Nat) → Nat → (Nat → Nat) → Nat × Nat × (Nat → Nat)
  | [], k, V => (0, k, V)
  | c :: cs, k, V => if (opC V c).1 = 0 then rnL cs (k + 1) (opC V c).2.2 else (2, k, V)
theorem rn_yes {c : Nat × Nat × Nat} {cs : List (Nat × Nat × Nat)} {k : Nat} {V : Nat → Nat} (h : (opC V c).1 = 0) : rnL (c :: cs) k V = rnL cs (k + 1) (opC V c).2.2 := by show (if _ then _ else _) = _; rw [if_pos h]
theorem rn_no {c : Nat × Nat × Nat} {cs : List (Nat × Nat × Nat)} {k : Nat} {V : Nat → Nat} (h : (opC V c).1 ≠ 0) : rnL (c :: cs) k V = (2, k, V) := by show (if _ then _ else _) = _; rw [if_neg h]
def fA9 (s : SG) (x : Int32) : SG := (s.1, s.2.1, s.2.2.1, s.2.2.2.1, (s.2.2.2.2.1.1, x), s.2.2.2.2.2)
def eA9 (s : SG) (x : Int32) : SG := (s.1, s.2.1, s.2.2.1, s.2.2.2.1, (x, s.2.2.2.2.1.2), s.2.2.2.2.2)
def emS (s : SG) : SG := (s.1, s.2.1, s.2.2.1, (0, s.2.2.2.1.2), s.2.2.2.2)
def exR (s : SG) (Q : Nat × Nat × (Nat → Nat)) : Nat × Nat × SG := if Q.1 = 0 then (0, Q.2.1, opS s (0, Q.2.1, Q.2.2)) else (2, 0, fA9 s (nI Q.2.1))
def exT (s : SG) (R : List (Nat × Nat × Nat) × (Nat × Bool)) : Nat × Nat × SG := if R.2.2 = true ∨ R.2.1 < s.2.2.2.1.1 then (1, 0, eA9 (emS s) (nI R.2.1)) else exR (emS s) (rnL R.1 0 s.1)
def qExe (s : SG) : Nat × Nat × SG := exT s (rdN s.2.2.2.1.1 s.2.2.2.1.2 61 0)
theorem MR.put9 {I : Nat → Int32} {A : Nat → Nat → Int32} {s : SG} {x : Int32} (h : MR I A s) : MR (va_up I 9 x) A (fA9 s x) := by
  obtain ⟨h1, ⟨h2, h3⟩, ⟨h4, h5⟩, ⟨h6, h7⟩, ⟨h8, h9⟩, h10, h11⟩ := h
  exact ⟨h1, ⟨by rw [up_ne (by decide)]; exact h2, h3⟩, ⟨by rw [up_ne (by decide)]; exact h4, h5⟩, ⟨by rw [up_ne (by decide)]; exact h6, h7⟩, ⟨by rw [up_ne (by decide)]; exact h8, up_self⟩, by rw [up_ne (by decide)]; exact h10, h11⟩
theorem MR.put8 {I : Nat → Int32} {A : Nat → Nat → Int32} {s : SG} {x : Int32} (h : MR I A s) : MR (va_up I 8 x) A (eA9 s x) := by
  obtain ⟨h1, ⟨h2, h3⟩, ⟨h4, h5⟩, ⟨h6, h7⟩, ⟨h8, h9⟩, h10, h11⟩ := h
  exact ⟨h1, ⟨by rw [up_ne (by decide)]; exact h2, h3⟩, ⟨by rw [up_ne (by decide)]; exact h4, h5⟩, ⟨by rw [up_ne (by decide)]; exact h6, h7⟩, ⟨up_self, by rw [up_ne (by decide)]; exact h9⟩, by rw [up_ne (by decide)]; exact h10, h11⟩
theorem MR.put7 {I : Nat → Int32} {A : Nat → Nat → Int32} {s : SG} (h : MR I A s) : MR (va_up I 7 (nI 0)) A (emS s) := by
  obtain ⟨h1, ⟨h2, h3⟩, ⟨h4, h5⟩, ⟨h6, h7⟩, ⟨h8, h9⟩, h10, h11⟩ := h
  exact ⟨h1, ⟨by rw [up_ne (by decide)]; exact h2, h3⟩, ⟨by rw [up_ne (by decide)]; exact h4, h5⟩, ⟨up_self, fun i hi => absurd hi (Nat.not_lt_zero _)⟩, ⟨by rw [up_ne (by decide)]; exact h8, by rw [up_ne (by decide)]; exact h9⟩, by rw [up_ne (by decide)]; exact h10, h11⟩
theorem drop_d {D : List (Nat × Nat × Nat)} {k : Nat} (h : k < D.length) : D.drop k = D.getD k (0, 0, 0) :: D.drop (k + 1) := by
  rw [List.drop_eq_getElem_cons h, List.getD_eq_getElem?_getD, List.getElem?_eq_getElem h]; rfl
/-- the end of every change: kept(..), and return -/
theorem m_fin5 {l : Launch} {G : GT} {M : MT} {f : HT} {o n n0 pc : Nat} {I : Nat → Int32} {A A' : Nat → Nat → Int32} {s : SG} {q : Nat × Nat × (Nat → Nat)} {L : List (Nat × Value)} (hl : Cond.methodLink M.1 69 yX11_kept ∈ Big) (hret : M.2.2.2.1 = some .int) (d1 : decode M.2.1 pc = .ok (.invokevirtual 69, 3)) (d2 : decode M.2.1 (pc + 3) = .ok (.ireturn, 1))
    (h : MR I A s) (hc : s.2.1.1 ≤ 8) (hM : Mok A' q.2.2) (hR : ∀ j, j ≠ 0 → A' j = va_up A 1 (va_cpy (A 0) (A 1) 0 0 48) j) (hz : q.1 ≠ 0 → q.2.1 = 0) (h4 : q.1 < 4) :
    AW l G M 5 300 0 0 (PG f o (nI q.2.1) (opS s q) q.1 n) n0 0 0 pc L [.int (nI q.2.1), .ref o] (mU f o (va_up I 12 (nI q.1)) A') n := by
  have h3 : (va_up I 12 (nI q.1)) 3 = nI s.2.1.1 := (up_ne (by decide)).trans h.2.1.1
  by_cases hq : q.1 = 0
  · have h12 : (va_up I 12 (nI q.1)) 12 = nI 0 := by rw [up_self, hq]
    have hS : opS s q = (q.2.2, pushH s.2.1.1 s.2.1.2 s.1, s.2.2) := by unfold opS; rw [if_pos hq]
    rcases Nat.lt_or_ge s.2.1.1 8 with hc7 | hc8
    · refine aw_vI (as := [Value.int (nI q.2.1)]) (rest := []) mV_X11_kept (m_kept_lt h3 (by omega) h12) hl mU_0 rfl d1 rfl rfl (by decide) (Nat.le_of_ble_eq_true rfl) (by decide) ?_
      refine aw_iret hret (by decide) (by decide) d2 ⟨rfl, rfl, _, _, rfl, ?_, ?_⟩
      · rw [hS]; exact MR_ok h (by omega) hM hR
      · rw [up_ne (by decide)]; exact up_self
    · have e8 : s.2.1.1 = 8 := by omega
      refine aw_vI (as := [Value.int (nI q.2.1)]) (rest := []) mV_X11_kept (m_kept_8 (by rw [h3, e8]) h12) hl mU_0 rfl d1 rfl rfl (by decide) (Nat.le_of_ble_eq_true rfl) (by decide) ?_
      refine aw_iret hret (by decide) (by decide) d2 ⟨rfl, rfl, _, _, rfl, ?_, ?_⟩
      · rw [hS]; exact MR_ok8 h e8 hM hR
      · rw [up_ne (by decide), up_ne (by decide)]; exact up_self
  · have hS : opS s q = s := by unfold opS; rw [if_neg hq]
    refine aw_vI (as := [Value.int (nI q.2.1)]) (rest := []) mV_X11_kept (m_kept_f (d := q.1) up_self hq h4) hl mU_0 rfl d1 rfl rfl (by decide) (Nat.le_of_ble_eq_true rfl) (by decide) ?_
    refine aw_iret hret (by decide) (by decide) d2 ⟨by rw [hz hq], rfl, _, _, rfl, ?_, up_self⟩
    rw [hS]; exact MR_bad h hR
theorem vbc9 {K K' : Nat} {V : Nat → Nat} (h : VB K V) (hK : K + 500 ≤ K') (h2 : K' < 16000000) (c : Nat × Nat × Nat) : VB K' (opC V c).2.2 := VB.mono (K := K + 500) (vq_C h (by omega) c) hK h2
theorem cmd_le {tn sp : Nat} {tx : Nat → Nat} (ht : tn ≤ 60) (hs : sp ≤ 60) : (cmdN tn tx sp).2.1 ≤ 61 := by
  have h0 : ((sp + 1, false) : Nat × Bool).1 ≤ 61 := by show sp + 1 ≤ 61; omega
  unfold cmdN
  split
  · exact dig_le ht (need3_le (by decide) (by decide) (by decide) ht h0)
  · split
    · exact dig_le ht (dig_le ht (need3_le (by decide) (by decide) (by decide) ht h0))
    · split
      · unfold pcN
        split
        · exact dig_le ht (need_le (by decide) ht (need_le (by decide) ht h0))
        · exact dig_le ht (need_le (by decide) ht (need3_le (by decide) (by decide) (by decide) ht h0))
      · split
        · exact dig_le ht (need_le (by decide) ht (need3_le (by decide) (by decide) (by decide) ht (need3_le (by decide) (by decide) (by decide) ht h0)))
        · split
          · exact dig_le ht (need_le (by decide) ht (need_le (by decide) ht h0))
          · split
            · exact dig_le ht (need3_le (by decide) (by decide) (by decide) ht h0)
            · show sp ≤ 61; omega
theorem PK_snoc {D : List (Nat × Nat × Nat)} {c : Nat} {B B' : Nat → Int32} {d : Nat × Nat × Nat} (hl : D.length = c) (hPK : ∀ i, i < c → PK (B) (3 * i) (D.getD i (0, 0, 0)) ∧ isC (D.getD i (0, 0, 0)).1) (hi : ∀ i, i < 3 * c → B' i = B i) (hk : PK B' (3 * c) d) (hC : isC d.1) : ∀ i, i < (D ++ [d]).length → PK B' (3 * i) ((D ++ [d]).getD i (0, 0, 0)) ∧ isC ((D ++ [d]).getD i (0, 0, 0)).1 := by
  intro i h
  rw [List.length_append] at h
  have h' : i < D.length + 1 := h
  by_cases e : i = D.length
  · rw [List.getD_eq_getElem?_getD, e, List.getElem?_append_right (Nat.le_refl _), Nat.sub_self, hl]
    exact ⟨hk, hC⟩
  · have h9 := hPK i (by omega)
    rw [List.getD_eq_getElem?_getD, List.getElem?_append_left (by omega), ← List.getD_eq_getElem?_getD]
    refine ⟨⟨?_, ?_, fun z => ?_⟩, h9.2⟩
    · rw [hi _ (by omega)]; exact h9.1.1
    · rw [hi _ (by omega)]; exact h9.1.2.1
    · rw [hi _ (by omega)]; exact h9.1.2.2 z
theorem TX.of9 {I : Nat → Int32} {A A0 : Nat → Nat → Int32} {tn : Nat} {tx : Nat → Nat} (h : TX I A0 tn tx) (hf : ∀ j, j ≠ 7 → A j = A0 j) : TX I A tn tx := ⟨h.1, h.2.1, fun i hi => by rw [hf 4 (by decide)]; exact h.2.2.1 i hi, h.2.2.2⟩
abbrev MX11_execute : MT := (RX11, cX11_execute, 5, (some .int), [], "execute")
set_option maxHeartbeats 4000000 in
theorem m_exe_run {l : Launch} {G : GT} {n : Nat} {f : HT} {o : Nat} {I1 : Nat → Int32} {A1 : Nat → Nat → Int32} {K : Nat} {s : SG} (hR : MR I1 A1 s) (hc : s.2.1.1 ≤ 8) (D : List (Nat × Nat × Nat)) (hD : D.length ≤ 31) (hK : K + 16000 < 16000000) (hPK : ∀ i, i < D.length → PK (A1 7) (3 * i) (D.getD i (0, 0, 0)) ∧ isC (D.getD i (0, 0, 0)).1) (Q : Nat × Nat × (Nat → Nat)) : ∀ (N : Nat) (k : Nat) (W : Nat → Nat) (I : Nat → Int32) (B : Nat → Nat → Int32), (D.length - k = N) → (k ≤ D.length) → (VB (K + 500 * k) W) → (Mok B W) → (∀ j, j ≠ 0 → B j = (va_up A1 1 (va_cpy (A1 0) (A1 1) 0 0 48)) j) → (∀ j, j ≠ 12 → I j = I1 j) → (rnL (D.drop k) k W = Q) → AW l G MX11_execute 5 300 0 0 (PG f o (nI (exR s Q).2.1) (exR s Q).2.2 (exR s Q).1 n) n 0 0 130 [(3, .int (nI k)), (1, .int (nI D.length)), (0, .ref o)] [] (mU f o I B) n := by
  intro N
  induction N using Nat.strongRecOn with
  | ind N ih =>
    intro k W I B hN hk hW hM hB hI hQ
    have hB7 : B 7 = A1 7 := (hB 7 (by decide)).trans (up_ne (by decide))
    refine aw_iload_n dX11_execute_130 rfl rfl ?_
    refine aw_iload_n dX11_execute_131 rfl rfl ?_
    refine aw_icmp_ge_n (by omega) (by omega) (tgt := 174) dX11_execute_132 (by decide) (fun c_1 => ?_) (fun c_1 => ?_)
    · refine aw_aload_n dX11_execute_174 rfl rfl ?_
      refine aw_aload_n dX11_execute_175 rfl rfl ?_
      refine aw_iload_n dX11_execute_176 rfl rfl ?_
      refine aw_vI (as := [Value.int (nI D.length)]) (rest := [Value.ref o]) mV_X11_done (m_done (nI D.length)) ml_X11_60 mU_0 rfl dX11_execute_177 rfl rfl (by decide) (Nat.le_of_ble_eq_true rfl) (by decide) ?_
      have e : exR s Q = (0, D.length, opS s (0, D.length, W)) := by rw [← hQ, List.drop_eq_nil_of_le (by omega), show k = D.length by omega]; rfl
      rw [e]
      exact m_fin5 (M := MX11_execute) (q := (0, D.length, W)) (pc := 180) (A := A1) ml_X11_69 rfl dX11_execute_180 dX11_execute_183 (hR.keep (fun j h1 _ _ => hI j h1) (fun _ _ _ _ => rfl)) hc hM hB (fun h => absurd rfl h) (by show 0 < 4; decide)
    · refine aw_aload_n dX11_execute_135 rfl rfl ?_
      refine aw_iconst_n 3 dX11_execute_136 (by decide) ?_
      refine aw_iload_n dX11_execute_137 rfl rfl ?_
      refine aw_imul_n dX11_execute_138 ?_
      have hPC := hPK k (by omega)
      refine aw_vP (as := [Value.int (nI (3 * k))]) (rest := []) mV_X11_carriesOut (m_carriesOut hM hW (by omega) (k := 3 * k) (c := (D.getD k (0, 0, 0))) (by omega) (by rw [hB7]; exact hPC.1) hPC.2) ml_X11_214 mU_0 rfl dX11_execute_139 rfl rfl (by decide) (Nat.le_of_ble_eq_true rfl) (by decide) (fun _ _ _ h => by cases h.1) (fun r f9 n9 _ h => ?_)
      obtain ⟨h1, h2, B2, h3, hM2, hf2⟩ := h
      cases h1; subst h2; subst h3
      show AW l G MX11_execute 5 300 0 0 _ _ _ _ 142 [(3, .int (nI k)), (1, .int (nI D.length)), (0, .ref o)] [.int (nI ((opC W (D.getD k (0, 0, 0))).2.1))] (mU f o (va_up I 12 (nI (opC W (D.getD k (0, 0, 0))).1)) B2) _
      have ho4 := opC_4 (V := W) (c := (D.getD k (0, 0, 0)))
      have hB2 : ∀ j, j ≠ 0 → B2 j = (va_up A1 1 (va_cpy (A1 0) (A1 1) 0 0 48)) j := fun j hj => (hf2 j hj).trans (hB j hj)
      refine aw_istore (L' := [(4, .int (nI ((opC W (D.getD k (0, 0, 0))).2.1))), (3, .int (nI k)), (1, .int (nI D.length)), (0, .ref o)]) dX11_execute_142 (by decide) rfl ?_
      refine aw_aload_n dX11_execute_144 rfl rfl ?_
      refine aw_get (v := .int (nI ((opC W (D.getD k (0, 0, 0))).1))) fl_X11_42 mU_0 rfl dX11_execute_145 ?_
      refine aw_if_eq_n (by omega) (tgt := 168) dX11_execute_148 (by decide) (fun c_2 => ?_) (fun c_2 => ?_)
      · refine aw_iinc_n (L' := [(3, .int (nI (k + 1))), (4, .int (nI ((opC W (D.getD k (0, 0, 0))).2.1))), (1, .int (nI D.length)), (0, .ref o)]) 1 dX11_execute_168 rfl (by decide) (by decide) rfl ?_
        refine aw_goto (tgt := 130) dX11_execute_171 (by decide) ?_
        have hz : (opC W (D.getD k (0, 0, 0))).1 = 0 := c_2
        refine aw_sub [(3, .int (nI (k + 1))), (1, .int (nI D.length)), (0, .ref o)] (by simp) ?_
        exact ih _ (by omega) (k + 1) _ _ _ rfl (by omega) (vbc9 hW (by omega) (Nat.lt_of_le_of_lt (Nat.add_le_add_left (Nat.mul_le_mul_left 500 (show k + 1 ≤ 32 by omega)) K) hK) (D.getD k (0, 0, 0))) hM2 hB2 (fun j hj => (up_ne hj).trans (hI j hj)) (by rw [← hQ, drop_d (k := k) (by omega), rn_yes hz])
      · refine aw_aload_n dX11_execute_151 rfl rfl ?_
        refine aw_iload_n dX11_execute_152 rfl rfl ?_
        refine aw_mput fp_X11_30 (by decide) rfl rfl dX11_execute_153 ?_
        refine aw_aload_n dX11_execute_156 rfl rfl ?_
        refine aw_iconst_n 2 dX11_execute_157 (by decide) ?_
        refine aw_mput fp_X11_42 (by decide) rfl rfl dX11_execute_158 ?_
        refine aw_aload_n dX11_execute_161 rfl rfl ?_
        refine aw_iload dX11_execute_162 rfl ?_
        have e : exR s Q = (2, 0, fA9 s (nI k)) := by rw [← hQ, drop_d (by omega), rn_no c_2]; rfl
        rw [e, opC_z c_2]
        exact m_fin5 (M := MX11_execute) (q := (2, 0, (opC W (D.getD k (0, 0, 0))).2.2)) (pc := 164) (s := fA9 s (nI k)) (A := A1) ml_X11_69 rfl dX11_execute_164 dX11_execute_167 (MR.put9 (MR.up12 (hR.keep (fun j h1 _ _ => hI j h1) (fun _ _ _ _ => rfl)))) hc hM2 hB2 (fun _ => rfl) (by show 2 < 4; decide)
set_option maxHeartbeats 4000000 in
theorem m_exe_71 {l : Launch} {G : GT} {n : Nat} {f : HT} {o : Nat} {I0 : Nat → Int32} {A0 : Nat → Nat → Int32} {K : Nat} {s : SG} (hR : MR I0 A0 s) (hc : s.2.1.1 ≤ 8) (ht60 : s.2.2.2.1.1 ≤ 60) (hK : K + 16000 < 16000000) (hB : VB K s.1) : ∀ (N : Nat) (D : List (Nat × Nat × Nat)) (sp : Nat) (w : Bool) (I : Nat → Int32) (A : Nat → Nat → Int32), (0 = N) → (D.length ≤ 31) → (sp ≤ 61) → (PS I I0 (sp, w)) → (∀ j, j ≠ 7 → A j = A0 j) → (w = false → ∀ i, i < D.length → PK (A 7) (3 * i) (D.getD i (0, 0, 0)) ∧ isC (D.getD i (0, 0, 0)).1) → AW l G MX11_execute 5 300 0 0 (PG f o (nI (exT s (D, (sp, w))).2.1) (exT s (D, (sp, w))).2.2 (exT s (D, (sp, w))).1 n) n 0 0 71 [(1, .int (nI D.length)), (0, .ref o)] [] (mU f o I A) n := by
  intro N
  induction N using Nat.strongRecOn with
  | ind N ih =>
    intro D sp w I A hN hD hsp hP hf hPK
    refine aw_aload_n dX11_execute_71 rfl rfl ?_
    refine aw_aload_n dX11_execute_72 rfl rfl ?_
    refine aw_get (v := .int (bI w)) fl_X11_191 mU_0 (congrArg (fun z => some (Value.int z)) hP.2.1) dX11_execute_73 ?_
    refine aw_if_ne_b (tgt := 90) dX11_execute_76 (by decide) (fun c_1 => ?_) (fun c_1 => ?_)
    · refine aw_iconst_n 1 dX11_execute_90 (by decide) ?_
      refine aw_goto (tgt := 95) dX11_execute_91 (by decide) ?_
      refine aw_mput fp_X11_191 (by decide) rfl rfl dX11_execute_95 ?_
      refine aw_aload_n dX11_execute_98 rfl rfl ?_
      refine aw_iconst_n 0 dX11_execute_99 (by decide) ?_
      refine aw_mput fp_X11_185 (by decide) rfl rfl dX11_execute_100 ?_
      refine aw_aload_n dX11_execute_103 rfl rfl ?_
      refine aw_get (v := .int (nI 1)) fl_X11_191 mU_0 rfl dX11_execute_104 ?_
      refine aw_if_eq_n (by omega) (tgt := 124) dX11_execute_107 (by decide) (fun c_2 => by exfalso; omega) (fun c_2 => ?_)
      refine aw_aload_n dX11_execute_110 rfl rfl ?_
      refine aw_aload_n dX11_execute_111 rfl rfl ?_
      refine aw_get (v := .int (nI sp)) fl_X11_188 mU_0 (congrArg (fun z => some (Value.int z)) hP.1) dX11_execute_112 ?_
      refine aw_mput fp_X11_26 (by decide) rfl rfl dX11_execute_115 ?_
      refine aw_aload_n dX11_execute_118 rfl rfl ?_
      refine aw_iconst_n 1 dX11_execute_119 (by decide) ?_
      refine aw_vI (as := [Value.int (nI 1)]) (rest := []) mV_X11_fails (m_fails 1) ml_X11_56 mU_0 rfl dX11_execute_120 rfl rfl (by decide) (Nat.le_of_ble_eq_true rfl) (by decide) ?_
      have e : exT s (D, (sp, w)) = (1, 0, eA9 (emS s) (nI sp)) := by unfold exT; rw [if_pos (by show w = true ∨ sp < s.2.2.2.1.1; first | exact Or.inl (by assumption) | exact Or.inr (by omega))]
      rw [e]
      exact aw_iret rfl (by decide) (by decide) dX11_execute_123 ⟨rfl, rfl, _, _, rfl, MR.up12 (MR.put8 (MR.put7 (hR.keep (fun j h1 h2 h3 => by rw [up_ne h3]; exact hP.2.2 j h2 h3) (fun j _ _ h => hf j h)))), up_self⟩
    · refine aw_aload_n dX11_execute_79 rfl rfl ?_
      refine aw_get (v := .int (nI sp)) fl_X11_188 mU_0 (congrArg (fun z => some (Value.int z)) hP.1) dX11_execute_80 ?_
      refine aw_aload_n dX11_execute_83 rfl rfl ?_
      refine aw_get (v := .int (nI s.2.2.2.1.1)) fl_X11_185 mU_0 (congrArg (fun z => some (Value.int z)) ((hP.2.2 7 (by decide) (by decide)).trans hR.2.2.2.1.1)) dX11_execute_84 ?_
      refine aw_icmp_ge_n (by omega) (by omega) (tgt := 94) dX11_execute_87 (by decide) (fun c_3 => ?_) (fun c_3 => ?_)
      · refine aw_iconst_n 0 dX11_execute_94 (by decide) ?_
        refine aw_mput fp_X11_191 (by decide) rfl rfl dX11_execute_95 ?_
        refine aw_aload_n dX11_execute_98 rfl rfl ?_
        refine aw_iconst_n 0 dX11_execute_99 (by decide) ?_
        refine aw_mput fp_X11_185 (by decide) rfl rfl dX11_execute_100 ?_
        refine aw_aload_n dX11_execute_103 rfl rfl ?_
        refine aw_get (v := .int (nI 0)) fl_X11_191 mU_0 rfl dX11_execute_104 ?_
        refine aw_if_eq_n (by omega) (tgt := 124) dX11_execute_107 (by decide) (fun c_4 => ?_) (fun c_4 => by exfalso; omega)
        refine aw_aload_n dX11_execute_124 rfl rfl ?_
        have hw : w = false := by cases w with
          | false => rfl
          | true => simp_all
        have e : exT s (D, (sp, w)) = exR (emS s) (rnL D 0 s.1) := by unfold exT; rw [if_neg (by show ¬(w = true ∨ sp < s.2.2.2.1.1); rw [hw]; simp; omega)]
        rw [e]
        refine aw_vV (as := []) (rest := []) mV_X11_begin m_begin ml_X11_63 mU_0 rfl dX11_execute_125 rfl rfl (by decide) (Nat.le_of_ble_eq_true rfl) (by decide) ?_
        refine aw_iconst_n 0 dX11_execute_128 (by decide) ?_
        refine aw_istore_n (L' := [(3, .int (nI 0)), (1, .int (nI D.length)), (0, .ref o)]) dX11_execute_129 rfl (by decide) rfl ?_
        exact aw_sub [(3, .int (nI 0)), (1, .int (nI D.length)), (0, .ref o)] (by simp) (m_exe_run (I1 := va_up (va_up I 15 (nI 0)) 7 (nI 0)) (A1 := A) (s := emS s) (MR.put7 ((hR.keep (fun j h1 h2 h3 => by rw [up_ne h3]; exact hP.2.2 j h2 h3) (fun j _ _ h => hf j h)))) hc D hD hK (hPK hw) _ _ 0 s.1 _ _ rfl (Nat.zero_le _) hB (fun i hi => by rw [up_ne (by decide), hf 0 (by decide)]; exact hR.1 i hi) (fun _ _ => rfl) (fun _ _ => rfl) rfl)
      · refine aw_iconst_n 1 dX11_execute_90 (by decide) ?_
        refine aw_goto (tgt := 95) dX11_execute_91 (by decide) ?_
        refine aw_mput fp_X11_191 (by decide) rfl rfl dX11_execute_95 ?_
        refine aw_aload_n dX11_execute_98 rfl rfl ?_
        refine aw_iconst_n 0 dX11_execute_99 (by decide) ?_
        refine aw_mput fp_X11_185 (by decide) rfl rfl dX11_execute_100 ?_
        refine aw_aload_n dX11_execute_103 rfl rfl ?_
        refine aw_get (v := .int (nI 1)) fl_X11_191 mU_0 rfl dX11_execute_104 ?_
        refine aw_if_eq_n (by omega) (tgt := 124) dX11_execute_107 (by decide) (fun c_5 => by exfalso; omega) (fun c_5 => ?_)
        refine aw_aload_n dX11_execute_110 rfl rfl ?_
        refine aw_aload_n dX11_execute_111 rfl rfl ?_
        refine aw_get (v := .int (nI sp)) fl_X11_188 mU_0 (congrArg (fun z => some (Value.int z)) hP.1) dX11_execute_112 ?_
        refine aw_mput fp_X11_26 (by decide) rfl rfl dX11_execute_115 ?_
        refine aw_aload_n dX11_execute_118 rfl rfl ?_
        refine aw_iconst_n 1 dX11_execute_119 (by decide) ?_
        refine aw_vI (as := [Value.int (nI 1)]) (rest := []) mV_X11_fails (m_fails 1) ml_X11_56 mU_0 rfl dX11_execute_120 rfl rfl (by decide) (Nat.le_of_ble_eq_true rfl) (by decide) ?_
        have e : exT s (D, (sp, w)) = (1, 0, eA9 (emS s) (nI sp)) := by unfold exT; rw [if_pos (by show w = true ∨ sp < s.2.2.2.1.1; first | exact Or.inl (by assumption) | exact Or.inr (by omega))]
        rw [e]
        exact aw_iret rfl (by decide) (by decide) dX11_execute_123 ⟨rfl, rfl, _, _, rfl, MR.up12 (MR.put8 (MR.put7 (hR.keep (fun j h1 h2 h3 => by rw [up_ne h3]; exact hP.2.2 j h2 h3) (fun j _ _ h => hf j h)))), up_self⟩
set_option maxHeartbeats 4000000 in
theorem m_exe_loop {l : Launch} {G : GT} {n : Nat} {f : HT} {o : Nat} {I0 : Nat → Int32} {A0 : Nat → Nat → Int32} {K : Nat} {s : SG} (hR : MR I0 A0 s) (hc : s.2.1.1 ≤ 8) (ht60 : s.2.2.2.1.1 ≤ 60) (hK : K + 16000 < 16000000) (hB : VB K s.1) (hX : TX I0 A0 s.2.2.2.1.1 s.2.2.2.1.2) (R : List (Nat × Nat × Nat) × (Nat × Bool)) : ∀ (N : Nat) (c sp m9 : Nat) (D : List (Nat × Nat × Nat)) (I : Nat → Int32) (A : Nat → Nat → Int32), (m9 = N) → (m9 + c = 61) → (2 * c ≤ sp) → (sp ≤ s.2.2.2.1.1) → (D.length = c) → (PS I I0 (sp, false)) → (∀ j, j ≠ 7 → A j = A0 j) → (∀ i, i < c → PK (A 7) (3 * i) (D.getD i (0, 0, 0)) ∧ isC (D.getD i (0, 0, 0)).1) → ((D ++ (rdN s.2.2.2.1.1 s.2.2.2.1.2 m9 sp).1, (rdN s.2.2.2.1.1 s.2.2.2.1.2 m9 sp).2) = R) → AW l G MX11_execute 5 300 0 0 (PG f o (nI (exT s R).2.1) (exT s R).2.2 (exT s R).1 n) n 0 0 14 [(2, .int (nI 1)), (1, .int (nI c)), (0, .ref o)] [] (mU f o I A) n := by
  intro N
  induction N using Nat.strongRecOn with
  | ind N ih =>
    intro c sp m9 D I A hN hm hc2 hsp hDl hP hf hPK hR9
    obtain ⟨m, rfl⟩ : ∃ m, m9 = m + 1 := ⟨m9 - 1, by omega⟩
    refine aw_iload_n dX11_execute_14 rfl rfl ?_
    refine aw_if_eq_n (by omega) (tgt := 71) dX11_execute_15 (by decide) (fun c_1 => by exfalso; omega) (fun c_1 => ?_)
    refine aw_aload_n dX11_execute_18 rfl rfl ?_
    refine aw_iconst_n 3 dX11_execute_19 (by decide) ?_
    refine aw_iload_n dX11_execute_20 rfl rfl ?_
    refine aw_imul_n dX11_execute_21 ?_
    refine aw_vP (as := [Value.int (nI (3 * c))]) (rest := []) mV_X11_parsesCommand (m_parsesCommand (hX.of9 hf) hP (by omega) (k := 3 * c) (by omega)) ml_X11_211 mU_0 rfl dX11_execute_22 rfl rfl (by decide) (Nat.le_of_ble_eq_true rfl) (by decide) (fun _ _ _ h => by cases h.1) (fun r f9 n9 _ h => ?_)
    obtain ⟨h1, h2, I2, A3, h3, hP2, hf2, hi2, hk2⟩ := h
    cases h1; subst h2; subst h3
    have hf3 : ∀ j, j ≠ 7 → A3 j = A0 j := fun j hj => (hf2 j hj).trans (hf j hj)
    have hcl := cmd_le (tn := s.2.2.2.1.1) (tx := s.2.2.2.1.2) (sp := sp) (by omega) (by omega)
    have hl1 : (D ++ [(cmdN s.2.2.2.1.1 s.2.2.2.1.2 sp).1]).length = c + 1 := by rw [List.length_append, hDl]; rfl
    show AW l G MX11_execute 5 300 0 0 _ _ _ _ 25 [(2, .int (nI 1)), (1, .int (nI c)), (0, .ref o)] [] (mU f o I2 A3) _
    refine aw_iinc_n (L' := [(1, .int (nI (c + 1))), (2, .int (nI 1)), (0, .ref o)]) 1 dX11_execute_25 rfl (by decide) (by decide) rfl ?_
    refine aw_aload_n dX11_execute_28 rfl rfl ?_
    refine aw_get (v := .int (bI ((cmdN s.2.2.2.1.1 s.2.2.2.1.2 sp).2.2))) fl_X11_191 mU_0 (congrArg (fun z => some (Value.int z)) hP2.2.1) dX11_execute_29 ?_
    refine aw_if_ne_b (tgt := 48) dX11_execute_32 (by decide) (fun c_2 => ?_) (fun c_2 => ?_)
    · refine aw_iconst_n 0 dX11_execute_48 (by decide) ?_
      refine aw_istore_n (L' := [(2, .int (nI 0)), (1, .int (nI (c + 1))), (0, .ref o)]) dX11_execute_49 rfl (by decide) rfl ?_
      refine aw_aload_n dX11_execute_50 rfl rfl ?_
      refine aw_dup dX11_execute_51 rfl ?_
      refine aw_get (v := .int (nI ((cmdN s.2.2.2.1.1 s.2.2.2.1.2 sp).2.1))) fl_X11_188 mU_0 (congrArg (fun z => some (Value.int z)) hP2.1) dX11_execute_52 ?_
      refine aw_iload_n dX11_execute_55 rfl rfl ?_
      refine aw_if_eq_n (by omega) (tgt := 63) dX11_execute_56 (by decide) (fun c_3 => ?_) (fun c_3 => by exfalso; omega)
      refine aw_iconst_n 0 dX11_execute_63 (by decide) ?_
      refine aw_iadd_n dX11_execute_64 ?_
      refine aw_mput fp_X11_188 (by decide) rfl rfl dX11_execute_65 ?_
      refine aw_goto (tgt := 14) dX11_execute_68 (by decide) ?_
      rw [rd_no (fun z => by have := z.1; simp_all)] at hR9
      refine aw_iload_n dX11_execute_14 rfl rfl ?_
      refine aw_if_eq_n (by omega) (tgt := 71) dX11_execute_15 (by decide) (fun _ => ?_) (fun z => absurd rfl z)
      rw [← hR9]
      exact aw_sub [(1, .int (nI (D ++ [(cmdN s.2.2.2.1.1 s.2.2.2.1.2 sp).1]).length)), (0, .ref o)] (by rw [hl1]; simp) (m_exe_71 hR hc ht60 hK hB _ (D ++ [(cmdN s.2.2.2.1.1 s.2.2.2.1.2 sp).1]) _ _ _ _ rfl (by rw [hl1]; omega) hcl (hP2.put14 (q := (cmdN s.2.2.2.1.1 s.2.2.2.1.2 sp).2.1 + 0)) hf3 (fun hw => PK_snoc hDl hPK hi2 (hk2 hw) (cmd_ge hw).2))
    · refine aw_aload_n dX11_execute_35 rfl rfl ?_
      refine aw_vI (as := []) (rest := []) mV_X11_here (m_here (hX.of9 hf3) hP2 hcl) ml_X11_195 mU_0 rfl dX11_execute_36 rfl rfl (by decide) (Nat.le_of_ble_eq_true rfl) (by decide) ?_
      refine aw_bipush_n 59 dX11_execute_39 (by decide) ?_
      refine aw_icmp_ne (tgt := 48) dX11_execute_41 (by decide) (fun c_4 => ?_) (fun c_4 => ?_)
      · have hq := fun z => c_4 ((hI_eq (hX.of9 hf3) (c := 59) (by omega)).mpr z)
        refine aw_iconst_n 0 dX11_execute_48 (by decide) ?_
        refine aw_istore_n (L' := [(2, .int (nI 0)), (1, .int (nI (c + 1))), (0, .ref o)]) dX11_execute_49 rfl (by decide) rfl ?_
        refine aw_aload_n dX11_execute_50 rfl rfl ?_
        refine aw_dup dX11_execute_51 rfl ?_
        refine aw_get (v := .int (nI ((cmdN s.2.2.2.1.1 s.2.2.2.1.2 sp).2.1))) fl_X11_188 mU_0 (congrArg (fun z => some (Value.int z)) hP2.1) dX11_execute_52 ?_
        refine aw_iload_n dX11_execute_55 rfl rfl ?_
        refine aw_if_eq_n (by omega) (tgt := 63) dX11_execute_56 (by decide) (fun c_5 => ?_) (fun c_5 => by exfalso; omega)
        refine aw_iconst_n 0 dX11_execute_63 (by decide) ?_
        refine aw_iadd_n dX11_execute_64 ?_
        refine aw_mput fp_X11_188 (by decide) rfl rfl dX11_execute_65 ?_
        refine aw_goto (tgt := 14) dX11_execute_68 (by decide) ?_
        rw [rd_no (fun z => hq z.2)] at hR9
        refine aw_iload_n dX11_execute_14 rfl rfl ?_
        refine aw_if_eq_n (by omega) (tgt := 71) dX11_execute_15 (by decide) (fun _ => ?_) (fun z => absurd rfl z)
        rw [← hR9]
        exact aw_sub [(1, .int (nI (D ++ [(cmdN s.2.2.2.1.1 s.2.2.2.1.2 sp).1]).length)), (0, .ref o)] (by rw [hl1]; simp) (m_exe_71 hR hc ht60 hK hB _ (D ++ [(cmdN s.2.2.2.1.1 s.2.2.2.1.2 sp).1]) _ _ _ _ rfl (by rw [hl1]; omega) hcl (hP2.put14 (q := (cmdN s.2.2.2.1.1 s.2.2.2.1.2 sp).2.1 + 0)) hf3 (fun hw => PK_snoc hDl hPK hi2 (hk2 hw) (cmd_ge hw).2))
      · have hq := (hI_eq (hX.of9 hf3) (c := 59) (by omega)).mp (by simpa using c_4)
        refine aw_iconst_n 1 dX11_execute_44 (by decide) ?_
        refine aw_goto (tgt := 49) dX11_execute_45 (by decide) ?_
        refine aw_istore_n (L' := [(2, .int (nI 1)), (1, .int (nI (c + 1))), (0, .ref o)]) dX11_execute_49 rfl (by decide) rfl ?_
        refine aw_aload_n dX11_execute_50 rfl rfl ?_
        refine aw_dup dX11_execute_51 rfl ?_
        refine aw_get (v := .int (nI ((cmdN s.2.2.2.1.1 s.2.2.2.1.2 sp).2.1))) fl_X11_188 mU_0 (congrArg (fun z => some (Value.int z)) hP2.1) dX11_execute_52 ?_
        refine aw_iload_n dX11_execute_55 rfl rfl ?_
        refine aw_if_eq_n (by omega) (tgt := 63) dX11_execute_56 (by decide) (fun c_6 => by exfalso; omega) (fun c_6 => ?_)
        refine aw_iconst_n 1 dX11_execute_59 (by decide) ?_
        refine aw_goto (tgt := 64) dX11_execute_60 (by decide) ?_
        refine aw_iadd_n dX11_execute_64 ?_
        refine aw_mput fp_X11_188 (by decide) rfl rfl dX11_execute_65 ?_
        refine aw_goto (tgt := 14) dX11_execute_68 (by decide) ?_
        have hge := cmd_ge c_2
        have hlt := hN_lt (tn := s.2.2.2.1.1) (tx := s.2.2.2.1.2) (sp := (cmdN s.2.2.2.1.1 s.2.2.2.1.2 sp).2.1) (by omega)
        rw [rd_yes ⟨c_2, hq⟩] at hR9
        refine aw_sub [(2, .int (nI 1)), (1, .int (nI (c + 1))), (0, .ref o)] (by simp) ?_
        exact ih _ (by omega) (c + 1) ((cmdN s.2.2.2.1.1 s.2.2.2.1.2 sp).2.1 + 1) m (D ++ [(cmdN s.2.2.2.1.1 s.2.2.2.1.2 sp).1]) _ _ rfl (by omega) (by omega) (by omega) hl1 (by have e := hP2.put14 (q := (cmdN s.2.2.2.1.1 s.2.2.2.1.2 sp).2.1 + 1); rw [c_2] at e; exact e) hf3 (by rw [← hl1]; exact (fun hw => PK_snoc hDl hPK hi2 (hk2 hw) (cmd_ge hw).2) c_2) (by rw [← hR9, List.append_assoc]; rfl)
set_option maxHeartbeats 4000000 in
theorem m_execute {l : Launch} {G : GT} {n : Nat} {f : HT} {o : Nat} {I : Nat → Int32} {A : Nat → Nat → Int32} {K : Nat} {s : SG} (hR : MR I A s) (hc : s.2.1.1 ≤ 8) (ht60 : s.2.2.2.1.1 ≤ 60) (htx : ∀ i, i < s.2.2.2.1.1 → 32 ≤ s.2.2.2.1.2 i ∧ s.2.2.2.1.2 i ≤ 126) (hK : K + 16000 < 16000000) (hB : VB K s.1) : AM l G yX11_execute (.code yX11_execute cX11_execute 5 (some .int)) 5 300 0 0 [.ref o] (mU f o I A) n (PG f o (nI (qExe s).2.1) (qExe s).2.2 (qExe s).1 n) := by
  refine aw_enter (M := MX11_execute) rfl rfl (by decide +kernel) rfl (Nat.le_of_ble_eq_true rfl) ?_
  show AW l G MX11_execute 5 300 0 0 _ n 0 0 0 [(0, .ref o)] [] _ n
  refine aw_aload_n dX11_execute_0 rfl rfl ?_
  refine aw_iconst_n 0 dX11_execute_1 (by decide) ?_
  refine aw_mput fp_X11_188 (by decide) rfl rfl dX11_execute_2 ?_
  refine aw_aload_n dX11_execute_5 rfl rfl ?_
  refine aw_iconst_n 0 dX11_execute_6 (by decide) ?_
  refine aw_mput fp_X11_191 (by decide) rfl rfl dX11_execute_7 ?_
  refine aw_iconst_n 0 dX11_execute_10 (by decide) ?_
  refine aw_istore_n (L' := [(1, .int (nI 0)), (0, .ref o)]) dX11_execute_11 rfl (by decide) rfl ?_
  refine aw_iconst_n 1 dX11_execute_12 (by decide) ?_
  refine aw_istore_n (L' := [(2, .int (nI 1)), (1, .int (nI 0)), (0, .ref o)]) dX11_execute_13 rfl (by decide) rfl ?_
  exact aw_sub [(2, .int (nI 1)), (1, .int (nI 0)), (0, .ref o)] (by simp) (m_exe_loop hR hc ht60 hK hB ⟨hR.2.2.2.1.1, ht60, hR.2.2.2.1.2, htx⟩ _ _ 0 0 61 [] _ _ rfl rfl (Nat.zero_le _) (Nat.zero_le _) rfl ⟨by rw [up_ne (by decide)]; exact up_self, up_self, fun k h1 h2 => by rw [up_ne h2, up_ne h1]⟩ (fun _ _ => rfl) (fun i hi => absurd hi (Nat.not_lt_zero _)) rfl)
