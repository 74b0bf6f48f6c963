section RWL
variable {l : Launch} {G : GT} {M : MT} {fr lo mc ms : Nat} {Post : PT} {n0 nc ns pc : Nat} {L : List (Nat × Value)} {S : List Value} {f : HT} {n : Nat}
theorem aw_enterW {y : MethodName} {as : List Value} {hh : List (Nat × Nat × Nat × Nat)} (hcls : y.cls = M.1) (hnm : y.name = M.2.2.2.2.2) (hpl : plainName y.cls = true) (hh9 : M.2.2.2.2.1 = tableOf hh) (hl : (lg_sl as).length ≤ M.2.2.1) (h : AW l G M fr lo mc ms Post n 0 0 0 (lv_args 0 as) [] f n) : AM l G y (.codeWith y M.2.1 M.2.2.1 M.2.2.2.1 hh) fr lo mc ms as f n Post := by
  intro htr ρ
  refine vx_ofWH (cc := M.2.1) (maxL := M.2.2.1) (ret := M.2.2.2.1) (hh := hh) hpl rfl ?_
  intro p e s m args below meth c s₁ B hml hv
  have htab : c.exceptionTable.toList = M.2.2.2.2.1 := by
    rw [hh9]
    exact vx_table (x := y) B (atoms_spec (ws := Cond.codeWith y M.2.1 M.2.2.1 M.2.2.2.1 hh :: Big) B.pre _ List.mem_cons_self)
  have C : MC l G M p s m args meth c := aw_ctx (hw := Cond.codeWith y M.2.1 M.2.2.1 M.2.2.2.1 hh) htr hcls hnm B hml htab hv
  have hv9 := hv.1
  subst hv9
  rw [lg_entry_eq]
  exact h C (aw_rel hv hl)
theorem cr_SX {y : MethodName} {cc' : ByteArray} {nL' kk ix fr' lo' mc' ms' : Nat} {ret' : Option FieldType} {hh : List (Nat × Nat × Nat × Nat)} {as rest : List Value} {Post' : PT} (hMW : MW y cc' nL' ret' hh kk) (hA : AM l G y (.codeWith y cc' nL' ret' hh) fr' lo' mc' ms' as f n Post') (hl : Cond.methodLink M.1 ix y ∈ Big)
    (hdg : decode M.2.1 pc = .ok (.invokestatic ix, 3)) (hk : as.length = kk) (hR : fr' + 1 ≤ fr ∧ 8 + (nL' + 11) + lo' ≤ lo) (hcat : (rest.map fun v => v.category).sum ≤ 8) (hc : nc + mc' ≤ mc ∧ ns + ms' ≤ ms) : CR l G M fr lo mc ms n0 nc ns pc L (as.reverse ++ rest) rest f n mc' ms' Post' := by
  intro p e s m args below meth c C ρ0 ρ H locs ls R
  obtain ⟨h1, h2, h4, h5⟩ := hMW
  have hpre : PreS s H (PcA G ρ as f n) (as.map (cv ρ)) := ⟨PcA.blind, fun U hU hW => pc_in (y := y) C R (fun v hv => List.mem_append_left _ (List.mem_reverse.mpr hv)) hU hW⟩
  refine ⟨_, vx_runSX ⟨C.hx, C.hb, C.hml, C.own, C.ts⟩ (hA C.tr ρ) ⟨⟨rfl, rfl, hR.1, hR.2, pay_in C.ts (big_goodIn h1), List.mem_cons_self⟩, C.ts _ h1, C.ts _ h4, ⟨h5.1, h5.2.1⟩, fun sig h => by
    have h9 := h5.2.2
    rw [h] at h9; exact (Option.some.inj h9).symm, C.ts _ hl, C.ts _ h2⟩ hpre rfl (by rw [List.length_map]; exact hk) R.lv.1 ?_ (lv_room (by rw [cat_map]; exact hcat)) hdg hc⟩
  show ((as.reverse ++ rest).map (cv ρ)) = _
  rw [List.map_append, List.map_reverse]
theorem aw_sW {y : MethodName} {cc' : ByteArray} {nL' kk ix fr' lo' mc' ms' : Nat} {ret' : Option FieldType} {hh : List (Nat × Nat × Nat × Nat)} {as rest st : List Value} {P' : PT} (hMW : MW y cc' nL' ret' hh kk) (hA : AM l G y (.codeWith y cc' nL' ret' hh) fr' lo' mc' ms' as f n P') (hl : Cond.methodLink M.1 ix y ∈ Big)
    (hdg : decode M.2.1 pc = .ok (.invokestatic ix, 3)) (hst : as.reverse ++ rest = st) (hk : as.length = kk) (hR : fr' + 1 ≤ fr ∧ 8 + (nL' + 11) + lo' ≤ lo) (hcat : (rest.map fun v => v.category).sum ≤ 8) (hc : nc + mc' ≤ mc ∧ ns + ms' ≤ ms) (hno : ∀ (E : String) (f' : HT) (n' : Nat), ¬ P' (.inr E) f' n')
    (k : ∀ (r : Option Value) (f' : HT) (n' : Nat), n ≤ n' → P' (.inl r) f' n' → AW l G M fr lo mc ms Post n0 (nc + mc') (ns + ms') (pc + 3) L (r.toList ++ rest) f' n') : AW l G M fr lo mc ms Post n0 nc ns pc L st f n := by
  subst hst
  exact aw_crP (cr_SX hMW hA hl hdg hk hR hcat hc) sub_app2 hno k
/-- a call whose exceptions are looked at -/
theorem aw_cC {C9 : String} {y : MethodName} {cc' : ByteArray} {nL' kk ix a fr' lo' mc' ms' : Nat} {ret' : Option FieldType} {as rest st : List Value} {P' : PT} (hMV : MVC y cc' nL' ret' kk C9) (hA : AM l G y (.code y cc' nL' ret') fr' lo' mc' ms' (.ref a :: as) f n P') (hl : Cond.methodLink M.1 ix y ∈ Big) (hf : RC f C9 a)
    (hdg : decode M.2.1 pc = .ok (.invokevirtual ix, 3)) (hst : as.reverse ++ .ref a :: rest = st) (hk : as.length = kk) (hR : fr' + 1 ≤ fr ∧ 8 + (nL' + 11) + lo' ≤ lo) (hcat : (rest.map fun v => v.category).sum ≤ 8) (hc : nc + mc' ≤ mc ∧ ns + ms' ≤ ms)
    (hx : ∀ (E : String) (f' : HT) (n' : Nat), n ≤ n' → P' (.inr E) f' n' → AX l G M fr lo mc ms Post n0 (nc + mc') (ns + ms') pc L E f' n')
    (k : ∀ (r : Option Value) (f' : HT) (n' : Nat), n ≤ n' → P' (.inl r) f' n' → AW l G M fr lo mc ms Post n0 (nc + mc') (ns + ms') (pc + 3) L (r.toList ++ rest) f' n') : AW l G M fr lo mc ms Post n0 nc ns pc L st f n := by
  subst hst
  exact aw_call (cr_VC hMV hA hl hf hdg hk hR hcat hc) sub_app hx k
/-- caught; the handler puts it away in local j -/
theorem ax_catch {E : String} {j w : Nat} (pre : List ExceptionTableEntry) (x : ExceptionTableEntry) (suf : List ExceptionTableEntry) (hsplit : M.2.2.2.2.1 = pre ++ x :: suf)
    (hpass : ∀ z ∈ pre, z.catchType ≠ 0 ∧ ∃ nm : String, Cond.classLink M.1 z.catchType nm ∈ Big ∧ (E, nm) ∈ wNc) (hx : covers x pc = true) (h0 : x.catchType ≠ 0) (hlink : Cond.classLink M.1 x.catchType E ∈ Big) (hcast : Cond.castable E E ∈ lw_nest)
    (hdg : (∃ k : Fin 4, (k : Nat) = j ∧ decode M.2.1 x.handlerPc = .ok (.astore_n k, 1) ∧ w = 1) ∨ (decode M.2.1 x.handlerPc = .ok (.astore j, 2) ∧ w = 2)) (hj : j < M.2.2.1) (hL : ∀ q ∈ L, q.1 ≠ j ∧ (q.1 + 1 = j → q.2.category ≠ 2))
    (k : AW l G M fr lo mc ms Post n0 nc ns (x.handlerPc + w) L [] f n) : AX l G M fr lo mc ms Post n0 nc ns pc L E f n := by
  intro p e s m args below meth c C ρ0 ρ H locs ls R q ce rest hq hv hcl
  refine vx_catch C.own pre x suf (by rw [C.tab]; exact hsplit) (fun z hz => Or.inr ⟨(hpass z hz).1, ?_⟩) hx h0 (C.ts _ hlink) (va_Nw.use rfl (C.old.2.2.2.2.2.2.2.2.2.1 _ hcast)) hq hv hcl ?_
  · obtain ⟨nm, h1, h2⟩ := (hpass z hz).2
    exact ⟨nm, C.ts _ h1, C.old.2.2.2.2.2.2.1 _ h2⟩
  have hgo : ∀ ls9 : Array Slot, lv_has ls9 M.2.2.1 ((j, Value.ref q) :: (L.map fun q => (q.1, cv ρ q.2)).filter (fun q => !(q.1 == j) && !(q.1 + 1 == j && q.2.category == 2))) → W p l e (rmA fr lo mc ms) s m args below meth c H locs nc ns (vx_MQ below (QcA G n0 ρ0 Post) (XCA G n0 ρ0 Post) args s mc ms (gF G)) (F0 m (x.handlerPc + w) ls9 []) := by
    intro ls9 h9
    have hR : Rel G M n0 ρ0 ρ L [] f n s H locs ls9 := by
      refine ⟨R.1, R.2.1, R.wd, R.okL, fun _ h => (by cases h), R.hS, h9.1, h9.2.1, fun z hz => h9.2.2 z (List.mem_cons_of_mem _ (List.mem_filter.mpr ⟨hz, ?_⟩))⟩
      obtain ⟨z0, hz0, rfl⟩ := List.mem_map.mp hz
      obtain ⟨a1, a2⟩ := hL z0 hz0
      simp only [Bool.and_eq_true, Bool.not_eq_true', beq_eq_false_iff_ne, ne_eq, Bool.and_eq_false_imp, beq_iff_eq]
      exact ⟨a1, fun h => by rw [cv_cat]; exact a2 h⟩
    exact k C hR
  rcases hdg with ⟨k9, hk9, hd9, hw9⟩ | ⟨hd9, hw9⟩
  · subst hw9
    exact lv_astore_n C.hx C.hb hd9 hk9 R.lv hj rfl hgo
  · subst hw9
    exact lv_astore C.hx C.hb hd9 R.lv hj rfl hgo
end RWL
theorem xA_inl {es : List String} {c : Nat} {v : Value} {r : Option Value} (h : .inl r = xA es c v) : c = 0 ∧ r = some v := by
  unfold xA at h
  split at h
  · next z => exact ⟨z, Sum.inl.inj h⟩
  · cases h
theorem xA_inr {es : List String} {c : Nat} {v : Value} {E : String} (h : .inr E = xA es c v) : c ≠ 0 ∧ E = es.getD (c - 1) "" := by
  unfold xA at h
  split at h
  · cases h
  · next z => exact ⟨z, Sum.inr.inj h⟩
abbrev lcell (o : Nat → Int64) : va_E := .inl (2, (1, .inr (.inl o)))
abbrev dcell (o : Nat → UInt64) : va_E := .inl (3, (1, .inr (.inr (.inr (.inl o)))))
/-- a wrapper's end: the code, the world behind, the answer in the array u -/
def LW9 (x bp u : Nat) (H : HT) (n : Nat) (s' : SG) (c : Nat) (v : Int32) : PT := fun r f' n' => r = .inl (some (.int (nI c))) ∧ n ≤ n' ∧ ∃ (bp' : Nat) (o' : Nat → Int64), (bp' = bp ∨ n ≤ bp') ∧ GW f' x bp' n' s' ∧ f' u = lcell o' ∧ (c = 0 → o' 0 = v.toInt64) ∧ ∀ a, a < n → (a < x ∨ x + 112 ≤ a) → a ≠ bp → a ≠ u → f' a = H a
def DW9 (x bp u : Nat) (H : HT) (n : Nat) (s' : SG) (c : Nat) (v : UInt64) : PT := fun r f' n' => r = .inl (some (.int (nI c))) ∧ n ≤ n' ∧ ∃ (bp' : Nat) (o' : Nat → UInt64), (bp' = bp ∨ n ≤ bp') ∧ GW f' x bp' n' s' ∧ f' u = dcell o' ∧ (c = 0 → o' 0 = v) ∧ ∀ a, a < n → (a < x ∨ x + 112 ≤ a) → a ≠ bp → a ≠ u → f' a = H a
theorem HQ.gx {l : Launch} {G : GT} {y : MethodName} {w : Cond} {fr lo mc ms : Nat} {as : List Value} {H : HT} {n x bp : Nat} {s : SG} {es : List String} {c : Nat} {v : Value} (hW : GW H x bp n s) (h : AM l G y w fr lo mc ms as H n (HQ (xA es c v) H n)) : AM l G y w fr lo mc ms as H n (GX es c v x bp H n s) :=
  AM.post h fun r f' n' hr => by
    obtain ⟨h1, h2, h3⟩ := hr
    subst h2; subst h3
    exact GX.bad hW h1
theorem GW.k1 {H : HT} {x bp n : Nat} {s : SG} {T : Nat → Int32} (h : GW H x bp n s) : GW (kU 1 61 H (x + 102) T) x bp n s :=
  h.mk9 (lo := x + 102) (hi := x + 104) (by omega) (by omega) (fun a ha => rU_out (by omega)) ((rU_out (by omega)).trans h.1) (Or.inr ⟨rfl, by omega⟩) (Or.inr (by omega)) (Or.inr ⟨rfl, by omega⟩) (Or.inr ⟨rfl, by omega⟩) (Or.inl ⟨T, kAt.new⟩) (Or.inr (by omega)) (Or.inr ⟨rfl, by omega⟩) ⟨rfl, by omega⟩
theorem GW.k4 {H : HT} {x bp n : Nat} {s : SG} {T : Nat → Int32} (h : GW H x bp n s) : GW (kU 4 256 H (x + 104) T) x bp n s :=
  h.mk9 (lo := x + 104) (hi := x + 106) (by omega) (by omega) (fun a ha => rU_out (by omega)) ((rU_out (by omega)).trans h.1) (Or.inr ⟨rfl, by omega⟩) (Or.inr (by omega)) (Or.inr ⟨rfl, by omega⟩) (Or.inr ⟨rfl, by omega⟩) (Or.inr (by omega)) (Or.inl ⟨T, kAt.new⟩) (Or.inr ⟨rfl, by omega⟩) ⟨rfl, by omega⟩
theorem TQ.gx1 {l : Launch} {G : GT} {y : MethodName} {w : Cond} {fr lo mc ms : Nat} {as : List Value} {H : HT} {n x bp : Nat} {s : SG} {es : List String} {c : Nat} {v : Value} (hW : GW H x bp n s) (h : AM l G y w fr lo mc ms as H n (TQ 1 61 (x + 102) (xA es c v) H n)) : AM l G y w fr lo mc ms as H n (GX es c v x bp H n s) :=
  AM.post h fun r f' n' hr => by
    obtain ⟨h1, h3, h2 | ⟨T', h2⟩⟩ := hr
    · subst h2; subst h3
      exact GX.bad hW h1
    · subst h2; subst h3
      exact ⟨h1, Nat.le_refl _, bp, Or.inl rfl, hW.k1, fun a z1 z2 z3 => rU_out (by omega)⟩
theorem TQ.gx4 {l : Launch} {G : GT} {y : MethodName} {w : Cond} {fr lo mc ms : Nat} {as : List Value} {H : HT} {n x bp : Nat} {s : SG} {es : List String} {c : Nat} {v : Value} (hW : GW H x bp n s) (h : AM l G y w fr lo mc ms as H n (TQ 4 256 (x + 104) (xA es c v) H n)) : AM l G y w fr lo mc ms as H n (GX es c v x bp H n s) :=
  AM.post h fun r f' n' hr => by
    obtain ⟨h1, h3, h2 | ⟨T', h2⟩⟩ := hr
    · subst h2; subst h3
      exact GX.bad hW h1
    · subst h2; subst h3
      exact ⟨h1, Nat.le_refl _, bp, Or.inl rfl, hW.k4, fun a z1 z2 z3 => rU_out (by omega)⟩
theorem updL_0 {g : Nat → Int64} {x : Int64} : vp_updL g (nI 0).toNatClampNeg x 0 = x := by
  rw [nIc (by decide)]
  simp [vp_updL]
