theorem k_acNat : Cond.native arraycopyName ∈ Big := b2 126 (by decide +kernel)
theorem k_acStat : Cond.static arraycopyName ∈ Big := b2 125 (by decide +kernel)
theorem k_sysIni : Cond.initialized "java/lang/System" ∈ Big := b1 18 (by decide +kernel)
theorem y_max : yJ9_max_7cf53 = Lib.Math.max.name := rfl
theorem y_min : yJ9_min_7cf53 = Lib.Math.min.name := rfl
theorem y_abs : yJ9_abs_0f7a4 = Lib.Math.abs.name := rfl
theorem kc_max : Cond.code Lib.Math.max.name Lib.Math.max.code 2 (some .int) ∈ Big := by
  have h := mS_J9_max_7cf53.1
  have e : cJ9_max_7cf53 = Lib.Math.max.code := by decide +kernel
  rw [e] at h; exact h
theorem kc_min : Cond.code Lib.Math.min.name Lib.Math.min.code 2 (some .int) ∈ Big := by
  have h := mS_J9_min_7cf53.1
  have e : cJ9_min_7cf53 = Lib.Math.min.code := by decide +kernel
  rw [e] at h; exact h
theorem kc_abs : Cond.code Lib.Math.abs.name Lib.Math.abs.code 1 (some .int) ∈ Big := by
  have h := mS_J9_abs_0f7a4.1
  have e : cJ9_abs_0f7a4 = Lib.Math.abs.code := by decide +kernel
  rw [e] at h; exact h
section RW2
variable {l : Launch} {G : GT} {M : MT} {fr lo mc ms : Nat} {Post : PT} {n0 nc ns pc : Nat} {L : List (Nat × Value)} {S : List Value} {f : HT} {n : Nat}
theorem cat2 (ρ : Nat → Nat) (S : List Value) : ((S.map (cv ρ)).map fun v => v.category).sum = (S.map fun v => v.category).sum := by rw [cat_map]

theorem aw_mmax {ix : Nat} {x y : Int32} (hl : Cond.methodLink M.1 ix yJ9_max_7cf53 ∈ Big) (hfr : 1 ≤ fr) (hlo : (S.map fun v => v.category).sum + 13 ≤ lo) (hc : nc ≤ mc) (hs : ns ≤ ms) (hdg : decode M.2.1 pc = .ok (.invokestatic ix, 3)) (k : AW l G M fr lo mc ms Post n0 nc ns (pc + 3) L (.int (if x < y then y else x) :: S) f n) : AW l G M fr lo mc ms Post n0 nc ns pc L (.int y :: .int x :: S) f n := by
  intro p e s m args below meth c C ρ0 ρ H locs ls R
  exact va_mmax C.hx C.hb (by rw [C.hml]; exact R.lv.1.symm) C.own (C.ts _ hl) (C.ts _ mS_J9_max_7cf53.2.1) (C.ts _ mS_J9_max_7cf53.2.2.1) (C.ts _ kc_max) hfr (by rw [cat2]; exact hlo) hc hs hdg (k C (R.pos trivial (ok_tl (ok_tl R.okS))))
theorem aw_mmin {ix : Nat} {x y : Int32} (hl : Cond.methodLink M.1 ix yJ9_min_7cf53 ∈ Big) (hfr : 1 ≤ fr) (hlo : (S.map fun v => v.category).sum + 13 ≤ lo) (hc : nc ≤ mc) (hs : ns ≤ ms) (hdg : decode M.2.1 pc = .ok (.invokestatic ix, 3)) (k : AW l G M fr lo mc ms Post n0 nc ns (pc + 3) L (.int (if y < x then y else x) :: S) f n) : AW l G M fr lo mc ms Post n0 nc ns pc L (.int y :: .int x :: S) f n := by
  intro p e s m args below meth c C ρ0 ρ H locs ls R
  exact va_mmin C.hx C.hb (by rw [C.hml]; exact R.lv.1.symm) C.own (C.ts _ hl) (C.ts _ mS_J9_min_7cf53.2.1) (C.ts _ mS_J9_min_7cf53.2.2.1) (C.ts _ kc_min) hfr (by rw [cat2]; exact hlo) hc hs hdg (k C (R.pos trivial (ok_tl (ok_tl R.okS))))
theorem aw_mabs {ix : Nat} {x : Int32} (hl : Cond.methodLink M.1 ix yJ9_abs_0f7a4 ∈ Big) (hfr : 1 ≤ fr) (hlo : (S.map fun v => v.category).sum + 13 ≤ lo) (hc : nc ≤ mc) (hs : ns ≤ ms) (hdg : decode M.2.1 pc = .ok (.invokestatic ix, 3)) (k : AW l G M fr lo mc ms Post n0 nc ns (pc + 3) L (.int (if 0 ≤ x then x else 0 - x) :: S) f n) : AW l G M fr lo mc ms Post n0 nc ns pc L (.int x :: S) f n := by
  intro p e s m args below meth c C ρ0 ρ H locs ls R
  exact va_mabs C.hx C.hb (by rw [C.hml]; exact R.lv.1.symm) C.own (C.ts _ hl) (C.ts _ mS_J9_abs_0f7a4.2.1) (C.ts _ mS_J9_abs_0f7a4.2.2.1) (C.ts _ kc_abs) hfr (by rw [cat2]; exact hlo) hc hs hdg (k C (R.pos trivial (ok_tl R.okS)))
theorem nI_lt' {a b : Nat} (ha : a < 2 ^ 31) (hb : b < 2 ^ 31) : nI a < nI b ↔ a < b := by
  rw [Int32.lt_iff_toInt_lt, nI_toInt ha, nI_toInt hb]; omega
theorem aw_mmax_n {ix a b : Nat} (ha : a < 2 ^ 31) (hb : b < 2 ^ 31) (hl : Cond.methodLink M.1 ix yJ9_max_7cf53 ∈ Big) (hfr : 1 ≤ fr) (hlo : (S.map fun v => v.category).sum + 13 ≤ lo) (hc : nc ≤ mc) (hs : ns ≤ ms) (hdg : decode M.2.1 pc = .ok (.invokestatic ix, 3)) (k : AW l G M fr lo mc ms Post n0 nc ns (pc + 3) L (.int (nI (max a b)) :: S) f n) : AW l G M fr lo mc ms Post n0 nc ns pc L (.int (nI b) :: .int (nI a) :: S) f n := by
  refine aw_mmax hl hfr hlo hc hs hdg ?_
  have e : (if nI a < nI b then nI b else nI a) = nI (max a b) := by
    by_cases h : a < b
    · rw [if_pos ((nI_lt' ha hb).mpr h), Nat.max_eq_right (Nat.le_of_lt h)]
    · rw [if_neg (fun z => h ((nI_lt' ha hb).mp z)), Nat.max_eq_left (by omega)]
  rw [e]; exact k
theorem aw_mmin_n {ix a b : Nat} (ha : a < 2 ^ 31) (hb : b < 2 ^ 31) (hl : Cond.methodLink M.1 ix yJ9_min_7cf53 ∈ Big) (hfr : 1 ≤ fr) (hlo : (S.map fun v => v.category).sum + 13 ≤ lo) (hc : nc ≤ mc) (hs : ns ≤ ms) (hdg : decode M.2.1 pc = .ok (.invokestatic ix, 3)) (k : AW l G M fr lo mc ms Post n0 nc ns (pc + 3) L (.int (nI (min a b)) :: S) f n) : AW l G M fr lo mc ms Post n0 nc ns pc L (.int (nI b) :: .int (nI a) :: S) f n := by
  refine aw_mmin hl hfr hlo hc hs hdg ?_
  have e : (if nI b < nI a then nI b else nI a) = nI (min a b) := by
    by_cases h : b < a
    · rw [if_pos ((nI_lt' hb ha).mpr h), Nat.min_eq_right (Nat.le_of_lt h)]
    · rw [if_neg (fun z => h ((nI_lt' hb ha).mp z)), Nat.min_eq_left (by omega)]
  rw [e]; exact k
theorem aw_mabs_n {ix a b : Nat} (ha : a < 2 ^ 30) (hb : b < 2 ^ 30) (hl : Cond.methodLink M.1 ix yJ9_abs_0f7a4 ∈ Big) (hfr : 1 ≤ fr) (hlo : (S.map fun v => v.category).sum + 13 ≤ lo) (hc : nc ≤ mc) (hs : ns ≤ ms) (hdg : decode M.2.1 pc = .ok (.invokestatic ix, 3)) (k : AW l G M fr lo mc ms Post n0 nc ns (pc + 3) L (.int (nI (apart a b)) :: S) f n) : AW l G M fr lo mc ms Post n0 nc ns pc L (.int (nI a - nI b) :: S) f n := by
  refine aw_mabs hl hfr hlo hc hs hdg ?_
  have e : (if 0 ≤ nI a - nI b then nI a - nI b else 0 - (nI a - nI b)) = nI (apart a b) := by
    rw [← abs_nI ha hb]
    by_cases h : nI a - nI b < 0
    · rw [if_neg (by rw [Int32.not_le]; exact h), if_pos h, Int32.zero_sub]
    · rw [if_pos (Int32.not_lt.mp h), if_neg h]
  rw [e]; exact k
theorem aw_copyi {ix a b N N' k : Nat} {g h : Nat → Int32} (hl : Cond.methodLink M.1 ix arraycopyName ∈ Big) (hf : f a = .inl (0, (N, .inl g))) (hf2 : f b = .inl (0, (N', .inl h))) (hk : k < 2 ^ 31) (h1 : k ≤ N) (h2 : k ≤ N') (hfr : 1 ≤ fr) (hlo : (S.map fun v => v.category).sum + (nativeFrameWords "java/lang/System" "arraycopy" 5 + 11) ≤ lo) (hdg : decode M.2.1 pc = .ok (.invokestatic ix, 3))
    (kk : AW l G M fr lo mc ms Post n0 nc ns (pc + 3) L S (va_up f b (.inl (0, (N', .inl (va_cpy g h 0 0 k))))) n) : AW l G M fr lo mc ms Post n0 nc ns pc L (.int (nI k) :: .int (nI 0) :: .ref b :: .int (nI 0) :: .ref a :: S) f n := by
  intro p e s m args below meth c C ρ0 ρ H locs ls R
  have c0 : (nI 0).toNatClampNeg = 0 := nIc (by decide)
  have ck : (nI k).toNatClampNeg = k := nIc hk
  have n0' : ∀ j, j < 2 ^ 31 → ¬ nI j < 0 := fun j hj => by rw [Int32.lt_iff_toInt_lt, nI_toInt hj, Int32.toInt_zero]; omega
  refine va_copyi C.hx C.hb (by rw [C.hml]; exact R.lv.1.symm) C.own (C.ts _ hl) (C.ts _ k_acNat) (C.ts _ k_acStat) (C.ts _ k_sysIni) C.hK R.wd.1 R.wd.2.1 R.hS (a - o0) (b - o0) 0 0 (wl_get R.wd hf nilc_a) (wl_get R.wd hf2 nilc_a) rfl rfl rfl (n0' 0 (by decide)) (n0' 0 (by decide)) (n0' k hk) (by rw [c0, ck]; omega) (by rw [c0, ck]; omega) (fun _ _ => rfl) hfr (by rw [cat2]; exact hlo) hdg (fun H1 locs1 hP hD hS => ?_)
  rw [c0, ck] at hP hD
  exact kk C (R.heap (R.wd.set hf2 nilc_a (c := .inl (0, (N', .inl (va_cpy g h 0 0 k)))) trivial hP hD) hS (ok_tl (ok_tl (ok_tl (ok_tl (ok_tl R.okS))))))
theorem vx_ofWF {y : MethodName} {ws ws' : List Cond} {rm : Room} {Pc : Array Value → State → Prop} {Qc : Array Value → State → Outcome → State → Prop} {XC : String → State → State → Prop} {free : Addr → Prop} {cc : ByteArray} {maxL : Nat} {ret : Option FieldType}
    (hy : plainFor y = true) (hw : ws = Cond.code y cc maxL ret :: ws')
    (body : ∀ p e s m args below meth c s₁, BodyLoose p l y (headSpec ws rm) cc maxL ret e s m args below meth c s₁ → c.maxLocals = maxL → c.exceptionTable.toList = [] → Pc args s →
      W p l e (headSpec ws rm).room s m args below meth c s.heap [] 0 0 (vx_MQ below Qc XC args s mc ms free) (entryFrame m args maxL)) : vx_Met l y ws rm Pc Qc XC mc ms free := by
  refine MetFree.of_bodySF (code := cc) (maxLocals := maxL) (ret := ret) hy (fun args s m h hn => ?_) (fun p e s m args below meth c s₁ B hml hP _ => ?_)
  · obtain ⟨meth, c, h1, h2, h3, h4, h5, h6, -, -⟩ := Cond.code_spec hn (atoms_spec (ws := ws) h _ (by rw [hw]; exact List.mem_cons_self))
    exact ⟨meth, c, h1, h2, h3, h4, h5, h6⟩
  · have hh0 : s₁.heap = s.heap := by rw [B.state]; rfl
    obtain ⟨meth9, c9, h1, h2, -, -, -, -, h7, -⟩ := Cond.code_spec B.named (atoms_spec (ws := ws) B.pre _ (by rw [hw]; exact List.mem_cons_self))
    cases Option.some.inj (h1.symm.trans B.method)
    cases Option.some.inj (h2.symm.trans (Stand.of_body B).code)
    obtain ⟨t, a1, o, b1, b2, b3⟩ := body p e s m args below meth c s₁ B hml (by rw [Array.isEmpty_iff.mp h7]) hP s₁ hh0 (Stand.of_body B)
    exact ⟨t, o, a1, b1, b2, b3⟩
theorem aw_enterF {y : MethodName} {as : List Value} (hcls : y.cls = M.1) (hnm : y.name = M.2.2.2.2.2) (hpl : plainFor y = true) (hh : M.2.2.2.2.1 = []) (hl : (lg_sl as).length ≤ M.2.2.1) (h : AW l G M fr lo mc ms Post n 0 0 0 (lv_args 0 as) [] f n) : AM l G y (.code y M.2.1 M.2.2.1 M.2.2.2.1) fr lo mc ms as f n Post := by
  intro htr ρ
  refine vx_ofWF (cc := M.2.1) (maxL := M.2.2.1) (ret := M.2.2.2.1) hpl rfl ?_
  intro p e s m args below meth c s₁ B hml ht hv
  have C : MC l G M p s m args meth c := aw_ctx htr hcls hnm B hml (ht.trans hh.symm) hv
  have hv9 := hv.1
  subst hv9
  rw [lg_entry_eq]
  exact h C (aw_rel hv hl)
end RW2
