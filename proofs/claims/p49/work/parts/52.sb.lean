/-! digits as the JDK writes them -/
theorem lenD_is {v i : Nat} (h1 : 1 ≤ i) (h2 : i = 1 ∨ 10 ^ (i - 1) ≤ v) (h3 : v < 10 ^ i) : ∀ e, i ≤ e → lenD v e = i := by
  intro e
  induction e with
  | zero => intro h; omega
  | succ e ih =>
    intro h
    unfold lenD
    by_cases z : i = e + 1
    · subst z
      rw [if_neg]
      intro ⟨a, b⟩
      have b : v < 10 ^ e := b
      rcases h2 with y | y
      · omega
      · rw [Nat.add_sub_cancel] at y; omega
    · have hp : 10 ^ i ≤ 10 ^ e := Nat.pow_le_pow_right (by decide) (by omega)
      rw [if_pos ⟨by omega, by show v < 10 ^ e; omega⟩]
      exact ih (by omega)
theorem len9 {v i : Nat} (h1 : 1 ≤ i) (h9 : i ≤ 9) (h2 : i = 1 ∨ 10 ^ (i - 1) ≤ v) (h3 : v < 10 ^ i) : lenD v 9 = i := lenD_is h1 h2 h3 9 h9
/-- every number below 10^8 has such an i -/
theorem len_ex {v : Nat} (h : v < 10 ^ 8) : 1 ≤ lenD v 9 ∧ lenD v 9 ≤ 8 ∧ (lenD v 9 = 1 ∨ 10 ^ (lenD v 9 - 1) ≤ v) ∧ v < 10 ^ lenD v 9 := by
  have key : ∀ i, 1 ≤ i → i ≤ 8 → (i = 1 ∨ 10 ^ (i - 1) ≤ v) → v < 10 ^ i → 1 ≤ lenD v 9 ∧ lenD v 9 ≤ 8 ∧ (lenD v 9 = 1 ∨ 10 ^ (lenD v 9 - 1) ≤ v) ∧ v < 10 ^ lenD v 9 := fun i a b c d => by
    rw [len9 a (by omega) c d]; exact ⟨a, b, c, d⟩
  by_cases c1 : v < 10 ^ 1
  · exact key 1 (by decide) (by decide) (Or.inl rfl) c1
  · by_cases c2 : v < 10 ^ 2
    · exact key 2 (by decide) (by decide) (Or.inr (Nat.not_lt.mp c1)) c2
    · by_cases c3 : v < 10 ^ 3
      · exact key 3 (by decide) (by decide) (Or.inr (Nat.not_lt.mp c2)) c3
      · by_cases c4 : v < 10 ^ 4
        · exact key 4 (by decide) (by decide) (Or.inr (Nat.not_lt.mp c3)) c4
        · by_cases c5 : v < 10 ^ 5
          · exact key 5 (by decide) (by decide) (Or.inr (Nat.not_lt.mp c4)) c5
          · by_cases c6 : v < 10 ^ 6
            · exact key 6 (by decide) (by decide) (Or.inr (Nat.not_lt.mp c5)) c6
            · by_cases c7 : v < 10 ^ 7
              · exact key 7 (by decide) (by decide) (Or.inr (Nat.not_lt.mp c6)) c7
              · exact key 8 (by decide) (by decide) (Or.inr (Nat.not_lt.mp c7)) h
theorem len_100 {w : Nat} (h : w < 10 ^ 8) (h1 : 100 ≤ w) : lenD w 9 = lenD (w / 100) 9 + 2 := by
  obtain ⟨a, b, c, d⟩ := len_ex (v := w / 100) (by omega)
  have hp : 10 ^ (lenD (w / 100) 9 + 2) = 100 * 10 ^ lenD (w / 100) 9 := by rw [Nat.pow_add, Nat.mul_comm]
  have hq : lenD (w / 100) 9 = 1 ∨ 10 ^ (lenD (w / 100) 9 + 2 - 1) = 100 * 10 ^ (lenD (w / 100) 9 - 1) := by
    rcases c with c | c
    · exact Or.inl c
    · refine Or.inr ?_
      rw [show lenD (w / 100) 9 + 2 - 1 = 2 + (lenD (w / 100) 9 - 1) by omega, Nat.pow_add]
  have h7 : lenD (w / 100) 9 ≤ 6 := by
    rcases c with c | c
    · omega
    · apply Classical.byContradiction
      intro z
      have : 10 ^ 6 ≤ 10 ^ (lenD (w / 100) 9 - 1) := Nat.pow_le_pow_right (by decide) (by omega)
      omega
  refine len9 (by omega) (by omega) (Or.inr ?_) (by rw [hp]; omega)
  rcases hq with q | q
  · rw [q]; exact h1
  · rcases c with c | c
    · rw [c]; exact h1
    · rw [q]; omega
theorem len_1 {w : Nat} (h : w < 10) : lenD w 9 = 1 := len9 (by decide) (by decide) (Or.inl rfl) h
theorem len_2 {w : Nat} (h1 : 10 ≤ w) (h : w < 100) : lenD w 9 = 2 := len9 (by decide) (by decide) (Or.inr h1) h
/-- the digit at i -/
theorem dgs_at {v : Nat} : ∀ e i, i < e → (dgs v e).getD i 0 = 48 + v / 10 ^ (e - 1 - i) % 10 := by
  intro e
  induction e with
  | zero => intro i h; omega
  | succ e ih =>
    intro i h
    cases i with
    | zero => show 48 + v / uN (e + 1) % 10 = _; rfl
    | succ i =>
      show (dgs v e).getD i 0 = _
      rw [ih i (by omega), show e - 1 - i = e + 1 - 1 - (i + 1) by omega]
theorem dgs_lt {v : Nat} : ∀ e i, i < e → (dgs v e).getD i 0 < 128 := by
  intro e i h
  rw [dgs_at e i h]
  have := Nat.mod_lt (v / 10 ^ (e - 1 - i)) (show 0 < 10 by decide)
  omega
/-- the bytes B hold v's digits j < k behind place p -/
def DW (B B0 : Nat → Int32) (v p k : Nat) : Prop := (∀ j, j < k → B (p - 1 - j) = nI (48 + v / 10 ^ j % 10)) ∧ ∀ i, i < p - k ∨ p ≤ i → B i = B0 i
theorem DW.one {B B0 : Nat → Int32} {v p k : Nat} (h : DW B B0 v p k) (hk : k + 1 ≤ p) : DW (upd B (p - 1 - k) (nI (48 + v / 10 ^ k % 10))) B0 v p (k + 1) := by
  refine ⟨fun j hj => ?_, fun i hi => ?_⟩
  · by_cases z : j = k
    · rw [z, pk_us]
    · rw [pk_un (by omega)]; exact h.1 j (by omega)
  · rw [pk_un (by omega)]; exact h.2 i (by omega)
theorem dig2 {v k : Nat} : v / 10 ^ k / 10 % 10 = v / 10 ^ (k + 1) % 10 := by rw [Nat.div_div_eq_div_mul, ← Nat.pow_succ]
theorem div100 {v k : Nat} : v / 10 ^ k / 100 = v / 10 ^ (k + 2) := by rw [Nat.div_div_eq_div_mul]; congr 1; rw [Nat.pow_add]
theorem mC_J5_isLatin1_aae02 : MVC yJ5_isLatin1_aae02 cJ5_isLatin1_aae02 1 (some .boolean) 0 "java/lang/StringBuilder" := ⟨b4 205 (by decide +kernel), b4 202 (by decide +kernel), b4 204 (by decide +kernel), b1 7 (by decide +kernel), ⟨by decide +kernel, by decide +kernel, by decide +kernel⟩⟩
/-- a private method of a class above -/
def MVP (y : MethodName) (cc : ByteArray) (nL : Nat) (ret : Option FieldType) (k : Nat) (C : String) (n9 : Nat) : Prop := Cond.code y cc nL ret ∈ Big ∧ Cond.instanceMethod y ∈ Big ∧ Cond.privateMethod y ∈ lw_nest ∧ Cond.instantiable C n9 ∈ Big ∧ Cond.initialized y.cls ∈ Big ∧ (y.cls ≠ "java/lang/invoke/MethodHandle" ∧ y.cls ≠ "java/lang/invoke/VarHandle" ∧ (parseMethodDescriptor y.desc).map (fun d => d.parameters.length) = some k)
theorem sel_priv {C : String} {y : MethodName} {s : State} {args : Array Value} {n : Nat} (hy : y.cls ≠ "java/lang/invoke/MethodHandle" ∧ y.cls ≠ "java/lang/invoke/VarHandle")
    (hins : (Cond.instantiable C n).before args s = true) (hpriv : (Cond.privateMethod y).before args s = true) (hinst : (Cond.instanceMethod y).before args s = true) {y0 : MethodName} (hcy : y0.cls = y.cls) (h0 : (Cond.selects C y0 y0).before args s = true) :
    (Cond.selects C y y).before args s = true := by
  obtain ⟨c, k, hc, hk, -, hniab, -, -⟩ := Cond.instantiable_spec hins
  have hni : k.isInterface = false := (Bool.or_eq_false_iff.mp hniab).1
  obtain ⟨mk, methM, hnamed, hmethM, -, -⟩ := Cond.instanceMethod_spec hinst
  have hfound : s.methodFound? y.cls y.name y.desc = some mk := State.methodFound?_of_named hnamed hy
  have hsel : selectMethod {} s.vm c mk = .method mk := selectMethod_private hmethM (Cond.privateMethod_at hpriv mk methM hnamed hmethM)
  have hcm := findClass_of_methodNamed hnamed
  obtain ⟨c0, r0, m0, -, -, hn0, -, k0, hk0, hif0⟩ := Cond.selects_spec h0
  have hc0 := findClass_of_methodNamed hn0
  rw [hcy, hcm] at hc0
  have e := Option.some.inj hc0
  have hif : Option.any (fun x => !x.isInterface) s.vm.classes[mk.cls]? = true := by
    rw [e, hk0]
    show (!k0.isInterface) = true
    rw [hif0]; rfl
  simp only [Cond.before, Cond.holds, Cond.value, hc, hfound, hnamed, hsel, hk]
  simp; exact hif
section RW7
variable {l : Launch} {G : GT} {M : MT} {fr lo mc ms : Nat} {Post : PT} {n0 nc ns pc : Nat} {L : List (Nat × Value)} {f : HT} {n : Nat}
theorem cr_VP {C9 : String} {y : MethodName} {cc' : ByteArray} {nL' kk ix a n9 fr' lo' mc' ms' : Nat} {ret' : Option FieldType} {as rest : List Value} {Post' : PT} (hMV : MVP y cc' nL' ret' kk C9 n9) {y0 : MethodName} (hcy : y0.cls = y.cls) (h0 : Cond.selects C9 y0 y0 ∈ Big) (hA : AM l G y (.code y cc' nL' ret') fr' lo' mc' ms' (.ref a :: as) f n Post') (hl : Cond.methodLink M.1 ix y ∈ Big) (hf : RC f C9 a)
    (hdg : decode M.2.1 pc = .ok (.invokevirtual ix, 3)) (hk : as.length = kk) (hR : fr' + 1 ≤ fr ∧ 8 + (nL' + 11) + lo' ≤ lo) (hcat : (rest.map fun v => v.category).sum ≤ 8) (hc : nc + mc' ≤ mc ∧ ns + ms' ≤ ms) : CR l G M fr lo mc ms n0 nc ns pc L (as.reverse ++ .ref a :: rest) rest f n mc' ms' Post' := by
  intro p e s m args below meth c C ρ0 ρ H locs ls R
  obtain ⟨h1, h2, h3, h3', h4, h5⟩ := hMV
  have hcw : CallW (rmA fr lo mc ms) s args M.1 C9 ix y cc' nL' ret' (Cond.code y cc' nL' ret' :: Big) (rmA fr' lo' mc' ms') mc' ms' kk :=
    ⟨callB_of kk C.ts (big_goodIn h1) rfl rfl rfl (C.ts _ h4) (C.ts _ hl) h5 hR, C.ts _ h2, sel_priv ⟨h5.1, h5.2.1⟩ (C.ts _ h3') (va_Nw.use rfl (C.old.2.2.2.2.2.2.2.2.2.1 _ h3)) (C.ts _ h2) hcy (C.ts _ h0)⟩
  have hpre : PreV s H C9 (ρ a) (PcA G ρ (.ref a :: as) f n) (as.map (cv ρ)) := ⟨PcA.blind, rc_cell hf C R, fun U hU hW => pc_in (y := y) C R (fun v hv => by
    rcases List.mem_cons.mp hv with rfl | hv
    · exact List.mem_append_right _ List.mem_cons_self
    · exact List.mem_append_left _ (List.mem_reverse.mpr hv)) hU hW⟩
  refine ⟨_, vx_runV ⟨C.hx, C.hb, C.hml, C.own, C.ts⟩ (hA C.tr ρ) hcw hpre rfl (by rw [List.length_map]; exact hk) R.lv.1 ?_ (lv_room (by rw [cat_map]; exact hcat)) hdg hc⟩
  show ((as.reverse ++ .ref a :: rest).map (cv ρ)) = _
  rw [List.map_append, List.map_reverse]
  rfl
theorem aw_pcI {C9 : String} {y : MethodName} {cc' : ByteArray} {nL' kk ix a n9 fr' lo' mc' ms' : Nat} {ret' : Option FieldType} {as rest st : List Value} {x : Int32} {f2 : HT} {n2 : Nat} (hMV : MVP y cc' nL' ret' kk C9 n9) {y0 : MethodName} (hcy : y0.cls = y.cls) (h0 : Cond.selects C9 y0 y0 ∈ Big) (hA : AM l G y (.code y cc' nL' ret') fr' lo' mc' ms' (.ref a :: as) f n (rI x f2 n2)) (hl : Cond.methodLink M.1 ix y ∈ Big) (hf : RC f C9 a)
    (hdg : decode M.2.1 pc = .ok (.invokevirtual ix, 3)) (hst : as.reverse ++ .ref a :: rest = st) (hk : as.length = kk) (hR : fr' + 1 ≤ fr ∧ 8 + (nL' + 11) + lo' ≤ lo) (hcat : (rest.map fun v => v.category).sum ≤ 8) (hc : nc + mc' ≤ mc ∧ ns + ms' ≤ ms) (k : AW l G M fr lo mc ms Post n0 (nc + mc') (ns + ms') (pc + 3) L (.int x :: rest) f2 n2) : AW l G M fr lo mc ms Post n0 nc ns pc L st f n := by
  subst hst
  exact aw_crI (cr_VP hMV hcy h0 hA hl hf hdg hk hR hcat hc) sub_app k
theorem aw_pcV {C9 : String} {y : MethodName} {cc' : ByteArray} {nL' kk ix a n9 fr' lo' mc' ms' : Nat} {ret' : Option FieldType} {as rest st : List Value} {f2 : HT} {n2 : Nat} (hMV : MVP y cc' nL' ret' kk C9 n9) {y0 : MethodName} (hcy : y0.cls = y.cls) (h0 : Cond.selects C9 y0 y0 ∈ Big) (hA : AM l G y (.code y cc' nL' ret') fr' lo' mc' ms' (.ref a :: as) f n (rV f2 n2)) (hl : Cond.methodLink M.1 ix y ∈ Big) (hf : RC f C9 a)
    (hdg : decode M.2.1 pc = .ok (.invokevirtual ix, 3)) (hst : as.reverse ++ .ref a :: rest = st) (hk : as.length = kk) (hR : fr' + 1 ≤ fr ∧ 8 + (nL' + 11) + lo' ≤ lo) (hcat : (rest.map fun v => v.category).sum ≤ 8) (hc : nc + mc' ≤ mc ∧ ns + ms' ≤ ms) (k : AW l G M fr lo mc ms Post n0 (nc + mc') (ns + ms') (pc + 3) L (rest) f2 n2) : AW l G M fr lo mc ms Post n0 nc ns pc L st f n := by
  subst hst
  exact aw_crV (cr_VP hMV hcy h0 hA hl hf hdg hk hR hcat hc) sub_app k
theorem aw_pcP {C9 : String} {y : MethodName} {cc' : ByteArray} {nL' kk ix a n9 fr' lo' mc' ms' : Nat} {ret' : Option FieldType} {as rest st : List Value} {P' : PT} (hMV : MVP y cc' nL' ret' kk C9 n9) {y0 : MethodName} (hcy : y0.cls = y.cls) (h0 : Cond.selects C9 y0 y0 ∈ Big) (hA : AM l G y (.code y cc' nL' ret') fr' lo' mc' ms' (.ref a :: as) f n P') (hl : Cond.methodLink M.1 ix y ∈ Big) (hf : RC f C9 a)
    (hdg : decode M.2.1 pc = .ok (.invokevirtual ix, 3)) (hst : as.reverse ++ .ref a :: rest = st) (hk : as.length = kk) (hR : fr' + 1 ≤ fr ∧ 8 + (nL' + 11) + lo' ≤ lo) (hcat : (rest.map fun v => v.category).sum ≤ 8) (hc : nc + mc' ≤ mc ∧ ns + ms' ≤ ms) (hno : ∀ (E : String) (f' : HT) (n' : Nat), ¬ P' (.inr E) f' n')
    (k : ∀ (r : Option Value) (f' : HT) (n' : Nat), n ≤ n' → P' (.inl r) f' n' → AW l G M fr lo mc ms Post n0 (nc + mc') (ns + ms') (pc + 3) L (r.toList ++ rest) f' n') : AW l G M fr lo mc ms Post n0 nc ns pc L st f n := by
  subst hst
  exact aw_crP (cr_VP hMV hcy h0 hA hl hf hdg hk hR hcat hc) sub_app hno k
end RW7
theorem neg_toInt {k : Nat} (h : k < 2 ^ 31) : (-nI k).toInt = -(k : Int) := by
  rw [Int32.toInt_neg, nI_toInt h]
  exact Int.bmod_eq_of_le (by omega) (by omega)
theorem neg_le {a b : Nat} (ha : a < 2 ^ 31) (hb : b < 2 ^ 31) : -nI a ≤ -nI b ↔ b ≤ a := by
  rw [Int32.le_iff_toInt_le, neg_toInt ha, neg_toInt hb]; omega
theorem neg_lt {a b : Nat} (ha : a < 2 ^ 31) (hb : b < 2 ^ 31) : -nI a < -nI b ↔ b < a := by
  rw [Int32.lt_iff_toInt_lt, neg_toInt ha, neg_toInt hb]; omega
theorem ten_neg {i : Nat} (h : i < 9) : nI 10 * -nI (10 ^ i) = -nI (10 ^ (i + 1)) := by
  have key : ∀ i, i < 9 → nI 10 * -nI (10 ^ i) = -nI (10 ^ (i + 1)) := by decide +kernel
  exact key i h
theorem neg_div {w : Nat} (h : w < 2 ^ 30) : -nI w / nI 100 = -nI (w / 100) := by
  rw [← Int32.toInt_inj, div_toInt (by decide) (by rw [neg_toInt (by omega)]; omega), neg_toInt (by omega), neg_toInt (by omega), Int.neg_tdiv]
  rfl
theorem neg_rem {w : Nat} (h : w < 2 ^ 30) : -nI (w / 100) * nI 100 - -nI w = nI (w % 100) := by
  rw [← Int32.toInt_inj, Int32.toInt_sub, Int32.toInt_mul, neg_toInt (by omega), neg_toInt (by omega), nI_toInt (by decide), nI_toInt (by omega)]
  rw [Int.bmod_eq_of_le (n := -((w / 100 : Nat) : Int) * ((100 : Nat) : Int)) (by omega) (by omega)]
  rw [Int.bmod_eq_of_le (by omega) (by omega)]
  omega
theorem shl_0 (x : Int32) : x <<< (nI 0 &&& 31) = x := by
  show x <<< (0 : Int32) = x
  exact Int32.shiftLeft_zero
theorem shr_0 (x : Int32) : x >>> (nI 0 &&& 31) = x := by
  show x >>> (0 : Int32) = x
  exact Int32.shiftRight_zero
theorem sI_le0 {a b : Nat} (ha : a < 2 ^ 30) (hb : b < 2 ^ 30) : nI a - nI b ≤ 0 ↔ a ≤ b := by
  rw [Int32.le_iff_toInt_le, pk_sub_toInt ha hb, Int32.toInt_zero]; omega
abbrev bcell (bp : Nat) (ml : Int32) (k : Nat) : va_E := .inr (0, [.ref bp, .int (nI 0), .int ml, .int (nI k)])
abbrev bbyt (N : Nat) (B : Nat → Int32) : va_E := .inl (4, (N, .inl B))
theorem mP_J5_newCapacity_0f7a4 : MVP yJ5_newCapacity_0f7a4 cJ5_newCapacity_0f7a4 6 (some .int) 1 "java/lang/StringBuilder" 4 := ⟨b4 179 (by decide +kernel), b4 178 (by decide +kernel), (by simp [lw_nest]), b1 168 (by decide +kernel), b1 7 (by decide +kernel), ⟨by decide +kernel, by decide +kernel, by decide +kernel⟩⟩
theorem mP_J5_ensureCapacityInternal_d00df : MVP yJ5_ensureCapacityInternal_d00df cJ5_ensureCapacityInternal_d00df 3 none 1 "java/lang/StringBuilder" 4 := ⟨b4 175 (by decide +kernel), b4 174 (by decide +kernel), (by simp [lw_nest]), b1 168 (by decide +kernel), b1 7 (by decide +kernel), ⟨by decide +kernel, by decide +kernel, by decide +kernel⟩⟩
theorem mP_J5_inflateIfNeededFor_a7421 : MVP yJ5_inflateIfNeededFor_a7421 cJ5_inflateIfNeededFor_a7421 2 none 1 "java/lang/StringBuilder" 4 := ⟨b5 8 (by decide +kernel), b5 7 (by decide +kernel), (by simp [lw_nest]), b1 168 (by decide +kernel), b1 7 (by decide +kernel), ⟨by decide +kernel, by decide +kernel, by decide +kernel⟩⟩
theorem mP_J5_putStringAt_47b60 : MVP yJ5_putStringAt_47b60 cJ5_putStringAt_47b60 3 none 2 "java/lang/StringBuilder" 4 := ⟨b5 4 (by decide +kernel), b5 3 (by decide +kernel), (by simp [lw_nest]), b1 168 (by decide +kernel), b1 7 (by decide +kernel), ⟨by decide +kernel, by decide +kernel, by decide +kernel⟩⟩
section RW6
variable {l : Launch} {G : GT} {M : MT} {fr lo mc ms : Nat} {Post : PT} {n0 nc ns pc : Nat} {L : List (Nat × Value)} {f : HT} {n : Nat}
theorem aw_sR {y : MethodName} {cc' : ByteArray} {nL' kk ix fr' lo' mc' ms' : Nat} {ret' : Option FieldType} {as rest st : List Value} {x : Value} {f2 : HT} {n2 : Nat} (hMS : MS y cc' nL' ret' kk) (hA : AM l G y (.code y cc' nL' ret') fr' lo' mc' ms' as f n (rR x f2 n2)) (hl : Cond.methodLink M.1 ix y ∈ Big)
    (hdg : decode M.2.1 pc = .ok (.invokestatic ix, 3)) (hst : as.reverse ++ rest = st) (hk : as.length = kk) (hR : fr' + 1 ≤ fr ∧ 8 + (nL' + 11) + lo' ≤ lo) (hcat : (rest.map fun v => v.category).sum ≤ 8) (hc : nc + mc' ≤ mc ∧ ns + ms' ≤ ms) (k : AW l G M fr lo mc ms Post n0 (nc + mc') (ns + ms') (pc + 3) L (x :: rest) f2 n2) : AW l G M fr lo mc ms Post n0 nc ns pc L st f n := by
  subst hst
  exact aw_crR (cr_S hMS hA hl hdg hk hR.1 hR.2 hcat hc.1 hc.2) sub_app2 k
theorem aw_sP {y : MethodName} {cc' : ByteArray} {nL' kk ix fr' lo' mc' ms' : Nat} {ret' : Option FieldType} {as rest st : List Value} {P' : PT} (hMS : MS y cc' nL' ret' kk) (hA : AM l G y (.code y cc' nL' ret') fr' lo' mc' ms' as f n P') (hl : Cond.methodLink M.1 ix y ∈ Big)
    (hdg : decode M.2.1 pc = .ok (.invokestatic ix, 3)) (hst : as.reverse ++ rest = st) (hk : as.length = kk) (hR : fr' + 1 ≤ fr ∧ 8 + (nL' + 11) + lo' ≤ lo) (hcat : (rest.map fun v => v.category).sum ≤ 8) (hc : nc + mc' ≤ mc ∧ ns + ms' ≤ ms) (hno : ∀ (E : String) (f' : HT) (n' : Nat), ¬ P' (.inr E) f' n')
    (k : ∀ (r : Option Value) (f' : HT) (n' : Nat), n ≤ n' → P' (.inl r) f' n' → AW l G M fr lo mc ms Post n0 (nc + mc') (ns + ms') (pc + 3) L (r.toList ++ rest) f' n') : AW l G M fr lo mc ms Post n0 nc ns pc L st f n := by
  subst hst
  exact aw_crP (cr_S hMS hA hl hdg hk hR.1 hR.2 hcat hc.1 hc.2) sub_app2 hno k
end RW6
def GCo (H : HT) (bp N v e : Nat) (B0 : Nat → Int32) (n : Nat) : PT := fun r f' n' => r = .inl (some (.int (nI (e - lenD v 9)))) ∧ n' = n ∧ ∃ B', f' = va_up H bp (bbyt N B') ∧ DW B' B0 v e (lenD v 9)
abbrev MJ6_stringSize_0f7a4 : MT := (RJ6, cJ6_stringSize_0f7a4, 4, (some .int), [], "stringSize")
set_option maxHeartbeats 4000000 in
theorem i_size_loop {l : Launch} {G : GT} {n : Nat} {f : HT} {v : Nat} (hv : v < 10 ^ 8) : ∀ (N : Nat) (i : Nat), (lenD v 9 - i = N) → (1 ≤ i) → (i ≤ lenD v 9) → AW l G MJ6_stringSize_0f7a4 0 0 0 0 (rI (nI (lenD v 9)) f n) n 0 0 16 [(3, .int (nI i)), (2, .int (-nI (10 ^ i))), (0, .int (-nI v)), (1, .int (nI 0))] [] (f) n := by
  intro N
  induction N using Nat.strongRecOn with
  | ind N ih =>
    intro i hNN hi1 hi
    obtain ⟨hl1, hl2, hl3, hl4⟩ := len_ex hv
    have hp9 : 10 ^ i ≤ 10 ^ 8 := Nat.pow_le_pow_right (by decide) (by omega)
    refine aw_iload_n dJ6_stringSize_0f7a4_16 rfl rfl ?_
    refine aw_bipush_n 10 dJ6_stringSize_0f7a4_17 (by decide) ?_
    refine aw_icmp_ge_n (by omega) (by omega) (tgt := 42) dJ6_stringSize_0f7a4_19 (by decide) (fun c_1 => by exfalso; omega) (fun c_1 => ?_)
    refine aw_iload_n dJ6_stringSize_0f7a4_22 rfl rfl ?_
    refine aw_iload_n dJ6_stringSize_0f7a4_23 rfl rfl ?_
    refine aw_icmp_le (tgt := 31) dJ6_stringSize_0f7a4_24 (by decide) (fun c_2 => ?_) (fun c_2 => ?_)
    · have d_0 := (neg_le (by omega) (by omega)).mp c_2
      refine aw_bipush_n 10 dJ6_stringSize_0f7a4_31 (by decide) ?_
      refine aw_iload_n dJ6_stringSize_0f7a4_33 rfl rfl ?_
      refine aw_imul dJ6_stringSize_0f7a4_34 ?_
      rw [ten_neg (by omega)]
      refine aw_istore_n (L' := [(2, .int (-nI (10 ^ (i + 1)))), (3, .int (nI i)), (0, .int (-nI v)), (1, .int (nI 0))]) dJ6_stringSize_0f7a4_35 rfl (by decide) rfl ?_
      refine aw_iinc_n (L' := [(3, .int (nI (i + 1))), (2, .int (-nI (10 ^ (i + 1)))), (0, .int (-nI v)), (1, .int (nI 0))]) 1 dJ6_stringSize_0f7a4_36 rfl (by decide) (by decide) rfl ?_
      refine aw_goto (tgt := 16) dJ6_stringSize_0f7a4_39 (by decide) ?_
      refine aw_sub [(3, .int (nI (i + 1))), (2, .int (-nI (10 ^ (i + 1)))), (0, .int (-nI v)), (1, .int (nI 0))] (by simp) ?_
      have hlt : i < lenD v 9 := by
        apply Classical.byContradiction
        intro z
        have e : i = lenD v 9 := by omega
        rw [e] at d_0; omega
      exact ih _ (by omega) (i + 1) rfl (by omega) (by omega)
    · have d_0 := mt (neg_le (a := v) (b := 10 ^ i) (by omega) (by omega)).mpr c_2
      refine aw_iload_n dJ6_stringSize_0f7a4_27 rfl rfl ?_
      refine aw_iload_n dJ6_stringSize_0f7a4_28 rfl rfl ?_
      refine aw_iadd_n dJ6_stringSize_0f7a4_29 ?_
      have e : i + 0 = lenD v 9 := by
        rcases Nat.lt_or_ge i (lenD v 9) with z | z
        · have : 10 ^ i ≤ 10 ^ (lenD v 9 - 1) := Nat.pow_le_pow_right (by decide) (by omega)
          rcases hl3 with y | y <;> omega
        · omega
      rw [e]
      exact aw_iret rfl (by decide) (by decide) dJ6_stringSize_0f7a4_30 (rI_of rfl)
set_option maxHeartbeats 4000000 in
theorem i_size {l : Launch} {G : GT} {n : Nat} {f : HT} {v : Nat} (hv : v < 10 ^ 8) : AM l G yJ6_stringSize_0f7a4 (.code yJ6_stringSize_0f7a4 cJ6_stringSize_0f7a4 4 (some .int)) 0 0 0 0 [.int (nI v)] (f) n (rI (nI (lenD v 9)) f n) := by
  refine aw_enter (M := MJ6_stringSize_0f7a4) rfl rfl (by decide +kernel) rfl (Nat.le_of_ble_eq_true rfl) ?_
  show AW l G MJ6_stringSize_0f7a4 0 0 0 0 _ n 0 0 0 [(0, .int (nI v))] [] _ n
  refine aw_iconst_n 1 dJ6_stringSize_0f7a4_0 (by decide) ?_
  refine aw_istore_n (L' := [(1, .int (nI 1)), (0, .int (nI v))]) dJ6_stringSize_0f7a4_1 rfl (by decide) rfl ?_
  refine aw_iload_n dJ6_stringSize_0f7a4_2 rfl rfl ?_
  refine aw_if_lt_n (by omega) (tgt := 11) dJ6_stringSize_0f7a4_3 (by decide) ?_
  refine aw_iconst_n 0 dJ6_stringSize_0f7a4_6 (by decide) ?_
  refine aw_istore_n (L' := [(1, .int (nI 0)), (0, .int (nI v))]) dJ6_stringSize_0f7a4_7 rfl (by decide) rfl ?_
  refine aw_iload_n dJ6_stringSize_0f7a4_8 rfl rfl ?_
  refine aw_ineg dJ6_stringSize_0f7a4_9 ?_
  refine aw_istore_n (L' := [(0, .int (-(nI v))), (1, .int (nI 0))]) dJ6_stringSize_0f7a4_10 rfl (by decide) rfl ?_
  refine aw_bipush (v := -10) dJ6_stringSize_0f7a4_11 (by decide) ?_
  refine aw_istore_n (L' := [(2, .int (-10)), (0, .int (-(nI v))), (1, .int (nI 0))]) dJ6_stringSize_0f7a4_13 rfl (by decide) rfl ?_
  refine aw_iconst_n 1 dJ6_stringSize_0f7a4_14 (by decide) ?_
  refine aw_istore_n (L' := [(3, .int (nI 1)), (2, .int (-10)), (0, .int (-(nI v))), (1, .int (nI 0))]) dJ6_stringSize_0f7a4_15 rfl (by decide) rfl ?_
  rw [show (-10 : Int32) = -nI (10 ^ 1) from by decide]
  exact i_size_loop hv _ 1 rfl (by decide) (len_ex hv).1
abbrev MJ6_getChars_ba4f3 : MT := (RJ6, cJ6_getChars_ba4f3, 7, (some .int), [], "getChars")
set_option maxHeartbeats 4000000 in
theorem i_gc_loop {l : Launch} {G : GT} {n : Nat} {H : HT} {v e N bp : Nat} {B0 : Nat → Int32} (hv : v < 10 ^ 8) (he : e ≤ N) (hN : N ≤ 34) (hl : lenD v 9 ≤ e) : ∀ (N9 : Nat) (k w p : Nat) (B : Nat → Int32), (w = N9) → (w = v / 10 ^ k) → (k + lenD w 9 = lenD v 9) → (p + k = e) → (w < 10 ^ 8) → (1 ≤ lenD w 9) → (DW B B0 v e k) → AW l G MJ6_getChars_ba4f3 0 0 0 0 (GCo H bp N v e B0 n) n 0 0 22 [(5, .int (nI p)), (6, .int (nI 0)), (0, .int (-nI w)), (2, .ref bp)] [] (va_up H bp (bbyt N B)) n := by
  intro N9
  induction N9 using Nat.strongRecOn with
  | ind N9 ih =>
    intro k w p B hNN hw hk hp hw8 hw0 hDW
    refine aw_iload_n dJ6_getChars_ba4f3_22 rfl rfl ?_
    refine aw_bipush (v := -100) dJ6_getChars_ba4f3_23 (by decide) ?_
    refine aw_icmp_gt (tgt := 72) dJ6_getChars_ba4f3_25 (by decide) (fun c_1 => ?_) (fun c_1 => ?_)
    · have d_0 : w < 100 := (neg_lt (a := 100) (b := w) (by decide) (by omega)).mp c_1
      refine aw_aload_n dJ6_getChars_ba4f3_72 rfl rfl ?_
      refine aw_idec_n (L' := [(5, .int (nI (p - 1))), (6, .int (nI 0)), (0, .int (-nI w)), (2, .ref bp)]) (by omega) dJ6_getChars_ba4f3_73 rfl (by decide) (by decide) rfl ?_
      refine aw_iload dJ6_getChars_ba4f3_76 rfl ?_
      refine aw_gets (v := .ref 28) (List.mem_of_getElem? (i := 3) rfl) (show 28 < o0 by decide) sl_J6_83 dJ6_getChars_ba4f3_78 ?_
      refine aw_iload_n dJ6_getChars_ba4f3_81 rfl rfl ?_
      refine aw_ineg dJ6_getChars_ba4f3_82 ?_
      rw [Int32.neg_neg]
      refine aw_obald (v := .int (nI (48 + w % 10))) (List.mem_of_getElem? (i := 11) rfl) (by decide) (vp_in_nI (by omega) (by decide)) (by show Value.int (Int32.ofNat (48 + (nI w).toNatClampNeg % 10)) = _; rw [nIc (by omega)]; rfl) trivial dJ6_getChars_ba4f3_83 ?_
      refine aw_bast_n (k := p - 1) up_self (by omega) (by omega) (b128_nar (by omega)) dJ6_getChars_ba4f3_84 ?_
      rw [bx_uu]
      refine aw_iload_n dJ6_getChars_ba4f3_85 rfl rfl ?_
      refine aw_bipush (v := -9) dJ6_getChars_ba4f3_86 (by decide) ?_
      refine aw_icmp_ge (tgt := 104) dJ6_getChars_ba4f3_88 (by decide) (fun c_2 => ?_) (fun c_2 => ?_)
      · have d_1 : w ≤ 9 := (neg_le (a := 9) (b := w) (by decide) (by omega)).mp c_2
        refine aw_iload dJ6_getChars_ba4f3_104 rfl ?_
        refine aw_if_eq_n (by omega) (tgt := 118) dJ6_getChars_ba4f3_106 (by decide) (fun c_3 => ?_) (fun c_3 => by exfalso; omega)
        refine aw_iload dJ6_getChars_ba4f3_118 rfl ?_
        have s1 : DW (upd B (p - 1) (nI (48 + w % 10))) B0 v e (k + 1) := by
          have h9 := hDW.one (by omega)
          rw [← hw, show e - 1 - k = p - 1 by omega] at h9
          exact h9
        have hl9 := len_1 (w := w) (by omega)
        have ek : k + 1 = lenD v 9 := by omega
        rw [ek] at s1
        exact aw_iret rfl (by decide) (by decide) dJ6_getChars_ba4f3_120 ⟨by rw [show p - 1 = e - lenD v 9 by omega], rfl, _, rfl, s1⟩
      · have d_1 : ¬ w ≤ 9 := mt (neg_le (a := 9) (b := w) (by decide) (by omega)).mpr c_2
        have hl7 := len_2 (w := w) (by omega) d_0
        refine aw_aload_n dJ6_getChars_ba4f3_91 rfl rfl ?_
        refine aw_idec_n (L' := [(5, .int (nI ((p - 1) - 1))), (6, .int (nI 0)), (0, .int (-nI w)), (2, .ref bp)]) (by omega) dJ6_getChars_ba4f3_92 rfl (by decide) (by decide) rfl ?_
        refine aw_iload dJ6_getChars_ba4f3_95 rfl ?_
        refine aw_gets (v := .ref 29) (List.mem_of_getElem? (i := 4) rfl) (show 29 < o0 by decide) sl_J6_87 dJ6_getChars_ba4f3_97 ?_
        refine aw_iload_n dJ6_getChars_ba4f3_100 rfl rfl ?_
        refine aw_ineg dJ6_getChars_ba4f3_101 ?_
        rw [Int32.neg_neg]
        refine aw_obald (v := .int (nI (48 + w / 10))) (List.mem_of_getElem? (i := 12) rfl) (by decide) (vp_in_nI (by omega) (by decide)) (by show Value.int (Int32.ofNat (48 + (nI w).toNatClampNeg / 10)) = _; rw [nIc (by omega)]; rfl) trivial dJ6_getChars_ba4f3_102 ?_
        refine aw_bast_n (k := (p - 1) - 1) up_self (by omega) (by omega) (b128_nar (by omega)) dJ6_getChars_ba4f3_103 ?_
        rw [bx_uu]
        refine aw_iload dJ6_getChars_ba4f3_104 rfl ?_
        refine aw_if_eq_n (by omega) (tgt := 118) dJ6_getChars_ba4f3_106 (by decide) (fun c_4 => ?_) (fun c_4 => by exfalso; omega)
        refine aw_iload dJ6_getChars_ba4f3_118 rfl ?_
        have s1 : DW (upd B (p - 1) (nI (48 + w % 10))) B0 v e (k + 1) := by
          have h9 := hDW.one (by omega)
          rw [← hw, show e - 1 - k = p - 1 by omega] at h9
          exact h9
        have s2 : DW (upd (upd B (p - 1) (nI (48 + w % 10))) (p - 1 - 1) (nI (48 + w / 10 % 10))) B0 v e (k + 2) := by
          have h9 := s1.one (by omega)
          rw [← dig2, ← hw, show e - 1 - (k + 1) = p - 1 - 1 by omega] at h9
          exact h9
        have hl9 := len_2 (w := w) (by omega) (by omega)
        have ek : k + 2 = lenD v 9 := by omega
        rw [ek] at s2
        rw [show w / 10 = w / 10 % 10 by omega]
        exact aw_iret rfl (by decide) (by decide) dJ6_getChars_ba4f3_120 ⟨by rw [show p - 1 - 1 = e - lenD v 9 by omega], rfl, _, rfl, s2⟩
    · have d_0 : 100 ≤ w := Nat.not_lt.mp (mt (neg_lt (a := 100) (b := w) (by decide) (by omega)).mpr c_1)
      have hl8 := len_100 (w := w) (by omega) d_0
      refine aw_iload_n dJ6_getChars_ba4f3_28 rfl rfl ?_
      refine aw_bipush_n 100 dJ6_getChars_ba4f3_29 (by decide) ?_
      refine aw_idiv (by decide) dJ6_getChars_ba4f3_31 ?_
      rw [neg_div (by omega)]
      refine aw_istore_n (L' := [(3, .int (-nI (w / 100))), (5, .int (nI p)), (6, .int (nI 0)), (0, .int (-nI w)), (2, .ref bp)]) dJ6_getChars_ba4f3_32 rfl (by decide) rfl ?_
      refine aw_iload_n dJ6_getChars_ba4f3_33 rfl rfl ?_
      refine aw_bipush_n 100 dJ6_getChars_ba4f3_34 (by decide) ?_
      refine aw_imul dJ6_getChars_ba4f3_36 ?_
      refine aw_iload_n dJ6_getChars_ba4f3_37 rfl rfl ?_
      refine aw_isub dJ6_getChars_ba4f3_38 ?_
      rw [neg_rem (by omega)]
      refine aw_istore (L' := [(4, .int (nI (w % 100))), (3, .int (-nI (w / 100))), (5, .int (nI p)), (6, .int (nI 0)), (0, .int (-nI w)), (2, .ref bp)]) dJ6_getChars_ba4f3_39 (by decide) rfl ?_
      refine aw_iload_n dJ6_getChars_ba4f3_41 rfl rfl ?_
      refine aw_istore_n (L' := [(0, .int (-nI (w / 100))), (4, .int (nI (w % 100))), (3, .int (-nI (w / 100))), (5, .int (nI p)), (6, .int (nI 0)), (2, .ref bp)]) dJ6_getChars_ba4f3_42 rfl (by decide) rfl ?_
      refine aw_aload_n dJ6_getChars_ba4f3_43 rfl rfl ?_
      refine aw_idec_n (L' := [(5, .int (nI (p - 1))), (0, .int (-nI (w / 100))), (4, .int (nI (w % 100))), (3, .int (-nI (w / 100))), (6, .int (nI 0)), (2, .ref bp)]) (by omega) dJ6_getChars_ba4f3_44 rfl (by decide) (by decide) rfl ?_
      refine aw_iload dJ6_getChars_ba4f3_47 rfl ?_
      refine aw_gets (v := .ref 28) (List.mem_of_getElem? (i := 3) rfl) (show 28 < o0 by decide) sl_J6_83 dJ6_getChars_ba4f3_49 ?_
      refine aw_iload dJ6_getChars_ba4f3_52 rfl ?_
      refine aw_obald (v := .int (nI (48 + (w % 100) % 10))) (List.mem_of_getElem? (i := 11) rfl) (by decide) (vp_in_nI (by omega) (by decide)) (by show Value.int (Int32.ofNat (48 + (nI (w % 100)).toNatClampNeg % 10)) = _; rw [nIc (by omega)]; rfl) trivial dJ6_getChars_ba4f3_54 ?_
      refine aw_bast_n (k := p - 1) up_self (by omega) (by omega) (b128_nar (by omega)) dJ6_getChars_ba4f3_55 ?_
      rw [bx_uu]
      refine aw_aload_n dJ6_getChars_ba4f3_56 rfl rfl ?_
      refine aw_idec_n (L' := [(5, .int (nI ((p - 1) - 1))), (0, .int (-nI (w / 100))), (4, .int (nI (w % 100))), (3, .int (-nI (w / 100))), (6, .int (nI 0)), (2, .ref bp)]) (by omega) dJ6_getChars_ba4f3_57 rfl (by decide) (by decide) rfl ?_
      refine aw_iload dJ6_getChars_ba4f3_60 rfl ?_
      refine aw_gets (v := .ref 29) (List.mem_of_getElem? (i := 4) rfl) (show 29 < o0 by decide) sl_J6_87 dJ6_getChars_ba4f3_62 ?_
      refine aw_iload dJ6_getChars_ba4f3_65 rfl ?_
      refine aw_obald (v := .int (nI (48 + (w % 100) / 10))) (List.mem_of_getElem? (i := 12) rfl) (by decide) (vp_in_nI (by omega) (by decide)) (by show Value.int (Int32.ofNat (48 + (nI (w % 100)).toNatClampNeg / 10)) = _; rw [nIc (by omega)]; rfl) trivial dJ6_getChars_ba4f3_67 ?_
      refine aw_bast_n (k := (p - 1) - 1) up_self (by omega) (by omega) (b128_nar (by omega)) dJ6_getChars_ba4f3_68 ?_
      rw [bx_uu]
      refine aw_goto (tgt := 22) dJ6_getChars_ba4f3_69 (by decide) ?_
      have s1 : DW (upd B (p - 1) (nI (48 + w % 10))) B0 v e (k + 1) := by
        have h9 := hDW.one (by omega)
        rw [← hw, show e - 1 - k = p - 1 by omega] at h9
        exact h9
      have s2 : DW (upd (upd B (p - 1) (nI (48 + w % 10))) (p - 1 - 1) (nI (48 + w / 10 % 10))) B0 v e (k + 2) := by
        have h9 := s1.one (by omega)
        rw [← dig2, ← hw, show e - 1 - (k + 1) = p - 1 - 1 by omega] at h9
        exact h9
      have hl9 := len_100 (w := w) (by omega) (by omega)
      obtain ⟨hl91, -⟩ := len_ex (v := w / 100) (by omega)
      rw [show (48 + w % 100 % 10 : Nat) = 48 + w % 10 by omega, show (48 + w % 100 / 10 : Nat) = 48 + w / 10 % 10 by omega]
      refine aw_sub [(5, .int (nI (p - 1 - 1))), (6, .int (nI 0)), (0, .int (-nI (w / 100))), (2, .ref bp)] (by simp) ?_
      exact ih _ (by omega) (k + 2) (w / 100) (p - 1 - 1) _ rfl (by rw [hw, div100]) (by omega) (by omega) (by omega) (by omega) s2
set_option maxHeartbeats 4000000 in
theorem i_gc {l : Launch} {G : GT} {n : Nat} {H : HT} {v e N bp : Nat} {B0 : Nat → Int32} (hv : v < 10 ^ 8) (he : e ≤ N) (hN : N ≤ 34) (hl : lenD v 9 ≤ e) (b1 : H bp = bbyt N B0) : AM l G yJ6_getChars_ba4f3 (.code yJ6_getChars_ba4f3 cJ6_getChars_ba4f3 7 (some .int)) 0 0 0 0 [.int (nI v), .int (nI e), .ref bp] (H) n (GCo H bp N v e B0 n) := by
  refine aw_enter (M := MJ6_getChars_ba4f3) rfl rfl (by decide +kernel) rfl (Nat.le_of_ble_eq_true rfl) ?_
  show AW l G MJ6_getChars_ba4f3 0 0 0 0 _ n 0 0 0 [(0, .int (nI v)), (1, .int (nI e)), (2, .ref bp)] [] _ n
  refine aw_iload_n dJ6_getChars_ba4f3_0 rfl rfl ?_
  refine aw_istore (L' := [(5, .int (nI e)), (0, .int (nI v)), (1, .int (nI e)), (2, .ref bp)]) dJ6_getChars_ba4f3_1 (by decide) rfl ?_
  refine aw_iload_n dJ6_getChars_ba4f3_3 rfl rfl ?_
  refine aw_if_ge_n (by omega) (tgt := 11) dJ6_getChars_ba4f3_4 (by decide) ?_
  refine aw_iconst_n 0 dJ6_getChars_ba4f3_11 (by decide) ?_
  refine aw_istore (L' := [(6, .int (nI 0)), (5, .int (nI e)), (0, .int (nI v)), (1, .int (nI e)), (2, .ref bp)]) dJ6_getChars_ba4f3_12 (by decide) rfl ?_
  refine aw_iload dJ6_getChars_ba4f3_14 rfl ?_
  refine aw_if_ne_n (by omega) (tgt := 22) dJ6_getChars_ba4f3_16 (by decide) (fun c_2 => by exfalso; omega) (fun c_2 => ?_)
  refine aw_iload_n dJ6_getChars_ba4f3_19 rfl rfl ?_
  refine aw_ineg dJ6_getChars_ba4f3_20 ?_
  refine aw_istore_n (L' := [(0, .int (-(nI v))), (6, .int (nI 0)), (5, .int (nI e)), (1, .int (nI e)), (2, .ref bp)]) dJ6_getChars_ba4f3_21 rfl (by decide) rfl ?_
  have h9 := i_gc_loop (l := l) (G := G) (n := n) (H := H) (B0 := B0) (bp := bp) hv he hN hl _ 0 v e B0 rfl (by rw [Nat.pow_zero, Nat.div_one]) (Nat.zero_add _) rfl hv (len_ex hv).1 ⟨fun j hj => absurd hj (Nat.not_lt_zero _), fun _ _ => rfl⟩
  rw [show va_up H bp (bbyt N B0) = H from by rw [← b1, up_A]] at h9
  exact aw_sub [(5, .int (nI e)), (6, .int (nI 0)), (0, .int (-nI v)), (2, .ref bp)] (by simp) h9
