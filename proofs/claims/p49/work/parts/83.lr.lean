abbrev ML (hh : List ExceptionTableEntry) (nm : String) : MT := (RL, cL_law, 8, some .boolean, hh, nm)
def LPo : PT := fun r _ _ => r = .inl (some (.int 1))
theorem k_252 : Cond.constantDouble RL 252 4611686018427387904 ∈ Big := b6 223 (by decide +kernel)
section RWD
variable {l : Launch} {G : GT} {M : MT} {fr lo mc ms : Nat} {Post : PT} {n0 nc ns pc : Nat} {L : List (Nat × Value)} {S : List Value} {f : HT} {n : Nat}
theorem aw_ldc2d {ix : Nat} {v : UInt64} (hw : Cond.constantDouble M.1 ix v ∈ Big) (hdg : decode M.2.1 pc = .ok (.ldc2_w ix, 3)) (k : AW l G M fr lo mc ms Post n0 nc ns (pc + 3) L (.double v :: S) f n) : AW l G M fr lo mc ms Post n0 nc ns pc L S f n := by
  intro p e s m args below meth c C ρ0 ρ H locs ls R
  exact lv_ldc2d C.hx C.hb C.own (C.ts _ hw) hdg (k C (R.pos trivial R.okS))
theorem aw_new4 {ix : Nat} (hF : FN M.1 ix 0 [.null, .int 0, .int 0, .int 0]) (hc : nc + 1 ≤ mc) (hs : ns + 4 ≤ ms) (hdg : decode M.2.1 pc = .ok (.new ix, 3)) (k : AW l G M fr lo mc ms Post n0 (nc + 1) (ns + 4) (pc + 3) L (.ref n :: S) (va_up f n (.inr (0, [.null, .int 0, .int 0, .int 0]))) (n + 1)) : AW l G M fr lo mc ms Post n0 nc ns pc L S f n := aw_new hF (zv_all rfl) hc hs hdg k
theorem aw_new11 {ix : Nat} (hF : FN M.1 ix 6 [.null, .null, .null, .null, .null, .null, .null, .null, .int 0, .int 0, .int 0]) (hc : nc + 1 ≤ mc) (hs : ns + 11 ≤ ms) (hdg : decode M.2.1 pc = .ok (.new ix, 3)) (k : AW l G M fr lo mc ms Post n0 (nc + 1) (ns + 11) (pc + 3) L (.ref n :: S) (va_up f n (.inr (6, [.null, .null, .null, .null, .null, .null, .null, .null, .int 0, .int 0, .int 0]))) (n + 1)) : AW l G M fr lo mc ms Post n0 nc ns pc L S f n := aw_new hF (zv_all rfl) hc hs hdg k
end RWD
section GAV
variable {l : Launch} {G : GT} {y9 : MethodName} {w9 : Cond} {fr lo mc ms : Nat} {as : List Value} {H : HT} {n x bp : Nat} {s' s : SG} {es : List String}
theorem GA.v {v v' : Option Value} (h : AM l G y9 w9 fr lo mc ms as H n (GA v x bp H n s')) (e : v = v') : AM l G y9 w9 fr lo mc ms as H n (GA v' x bp H n s') := by rw [← e]; exact h
theorem GA.st9 {v : Option Value} {s2 : SG} (h : AM l G y9 w9 fr lo mc ms as H n (GA v x bp H n s')) (e : s' = s2) : AM l G y9 w9 fr lo mc ms as H n (GA v x bp H n s2) := by rw [← e]; exact h
/-- a question answered with k; an operation done; a program run -/
theorem GX.gq {q : Nat × Nat} {k : Nat} (hq : q = (0, k)) (h : AM l G y9 w9 fr lo mc ms as H n (GX es q.1 (.int (nI q.2)) x bp H n s')) : AM l G y9 w9 fr lo mc ms as H n (GA (some (.int (nI k))) x bp H n s') := by
  rw [hq] at h; exact GX.ga rfl h
theorem GX.go {q : Nat × Nat × (Nat → Nat)} {k : Nat} {W : Nat → Nat} (hq : q = (0, k, W)) (h : AM l G y9 w9 fr lo mc ms as H n (GX es q.1 (.int (nI q.2.1)) x bp H n (opS s q))) : AM l G y9 w9 fr lo mc ms as H n (GA (some (.int (nI k))) x bp H n (opS s (0, k, W))) := by
  rw [hq] at h; exact GX.ga rfl h
theorem GX.ge {k : Nat} {s2 : SG} (hq : qExe s = (0, k, s2)) (h : AM l G y9 w9 fr lo mc ms as H n (GX es (qExe s).1 (.int (nI (qExe s).2.1)) x bp H n ((qExe s).2.2))) : AM l G y9 w9 fr lo mc ms as H n (GA (some (.int (nI k))) x bp H n s2) := by
  rw [hq] at h; exact GX.ga rfl h
theorem GX.gf {e k : Nat} (hk : k < 100) {s2 : SG} (he : s.2.2.2.2.1.2 = nI k) (h : AM l G y9 w9 fr lo mc ms as H n (GX es (qE s.2.2.2.2.1.2).1 (.int (qE s.2.2.2.2.1.2).2) x bp H n s')) : AM l G y9 w9 fr lo mc ms as H n (GA (some (.int (nI k))) x bp H n s') := by
  rw [he, qE_nI hk] at h; exact GX.ga rfl h
theorem GX.gr {c k : Nat} {s2 : SG} {js : List Int32} {v : Int32} (hq : qExe s = (c, k, s2)) (hv : acI js c (nI k) = v) (h : AM l G y9 w9 fr lo mc ms as H n (GA (some (.int (acI js (qExe s).1 (nI (qExe s).2.1)))) x bp H n ((qExe s).2.2))) : AM l G y9 w9 fr lo mc ms as H n (GA (some (.int v)) x bp H n s2) := by
  rw [hq] at h
  rw [← hv]
  exact h
theorem GX.gc {q : Nat × List Nat} {T : List Nat} (hq : q = (0, T)) (h : AM l G y9 w9 fr lo mc ms as H n (GX es q.1 (.int (nI q.2.length)) x bp H n (cardS s q))) : AM l G y9 w9 fr lo mc ms as H n (GA (some (.int (nI T.length))) x bp H n (cardS s (0, T))) := by
  rw [hq] at h; exact GX.ga rfl h
theorem GX.gm {q : Nat × UInt64} {d : UInt64} (hq : q = (0, d)) (h : AM l G y9 w9 fr lo mc ms as H n (GX es q.1 (.double q.2) x bp H n s')) : AM l G y9 w9 fr lo mc ms as H n (GA (some (.double d)) x bp H n s') := by
  rw [hq] at h; exact GX.ga rfl h
end GAV
theorem opS0 {s : SG} {k : Nat} {W : Nat → Nat} : opS s (0, k, W) = (W, pushH s.2.1.1 s.2.1.2 s.1, s.2.2) := if_pos rfl
/-- the third gym: bounds, numbers -/
def ZO (K : Nat) (s : SG) (L : List Nat) : Prop := SB K s ∧ s.1 = lv L
theorem ZO.op {K k : Nat} {s : SG} {L L' : List Nat} {q : Nat × Nat × (Nat → Nat)} (h : ZO K s L) (hq : q = (0, k, lv L')) (hv : VBq K q) : ZO (K + 500) (opS s (0, k, lv L')) L' := by
  rw [hq] at hv
  exact ⟨h.1.op hv (by omega), by rw [opS0]⟩
theorem qUndo_le (s : SG) : (qUndo s).2 ≤ s.2.1.1 := by
  unfold qUndo
  split
  · exact Nat.zero_le _
  · show s.2.1.1 - 1 ≤ _; omega
theorem fric_le (V : Nat → Nat) (a : Int32) : (opFric V a).2.1 ≤ V 1 := by
  unfold opFric
  split
  · exact Nat.zero_le _
  · exact Nat.le_refl _
theorem pass_le {V : Nat → Nat} {k : Nat} (h : V 2 ≤ 8) (hk : k < 1000) : (opPass V (nI k)).2.1 < 2 ^ 31 := by
  unfold opPass
  split
  · exact (by decide : 0 < 2 ^ 31)
  · have h9 := tkcs_le k h
    show tkcs (nI k).toNatClampNeg V < _
    rw [nIc (by omega)]
    omega
theorem und_card {s : SG} {q : Nat × List Nat} : (undS (cardS s q)).1 = (undS s).1 ∧ (cardS s q).2.1 = s.2.1 ∧ (cardS s q).1 = s.1 := by
  unfold cardS
  split
  · refine ⟨?_, rfl, rfl⟩
    unfold undS
    by_cases z : s.2.1.1 = 0
    · rw [if_pos z, if_pos z]
    · rw [if_neg z, if_neg z]
  · exact ⟨rfl, rfl, rfl⟩
theorem two_d : FP.i2d (nI 2) = 4611686018427387904 := by decide +kernel
theorem am_le : ∀ t, t < 32 → am (20 + t) + 8 ≤ 480 ∧ am (20 + t) < 10 ^ 8 ∧ max 1 ((20 + t) / 20) ≤ 20 + t := by decide +kernel
theorem W2.one {f : HT} {n x bx : Nat} {s : SG} (h : GW f x bx n s) (hx : x + 112 ≤ n) {f' : HT} {n' : Nat} {t : SG} {cy : Nat} (hn : n ≤ n') (e : ∀ a, a < n → f' a = f a) (h2 : GW f' n cy n' t) (h3 : n + 112 ≤ n') : W2 f' n' x s n t := by
  have hbx := h.bn
  have hcy := h2.bn
  have hc2 : n + 112 ≤ cy := by
    obtain ⟨-, -, -, -, -, -, -, -, -, -, h⟩ := h2
    exact h
  exact ⟨bx, cy, h.fr (fun a z1 z2 => e a (by omega)) (e bx hbx) hn, h2, by omega, h3, by omega, hcy, Or.inl hx, Or.inl hbx, Or.inr (by omega), by omega⟩
theorem W2.fst {f : HT} {n x y : Nat} {s t : SG} (h : W2 f n x s y t) : ∃ bx, GW f x bx n s ∧ x + 112 ≤ n := by
  obtain ⟨bx, cy, h1, -, h3, -⟩ := h
  exact ⟨bx, h1, h3⟩
