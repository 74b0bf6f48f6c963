/-- a method of the class above, called by super -/
def MSU (y : MethodName) (cc : ByteArray) (nL : Nat) (ret : Option FieldType) (k : Nat) (C : String) : Prop := Cond.code y cc nL ret ∈ Big ∧ Cond.sameMethod y.cls y.cls y.name y.desc ∈ Big ∧ Cond.superclass C y.cls ∈ Big ∧ Cond.instanceMethod y ∈ Big ∧ Cond.initialized y.cls ∈ Big ∧ y.name ≠ "<init>" ∧ (parseMethodDescriptor y.desc).map (fun d => d.parameters.length) = some k
section RW8
variable {l : Launch} {G : GT} {M : MT} {fr lo mc ms : Nat} {Post : PT} {n0 nc ns pc : Nat} {L : List (Nat × Value)} {f : HT} {n : Nat}
theorem aw_suI {y : MethodName} {cc' : ByteArray} {nL' kk ix a ci fr' lo' mc' ms' : Nat} {ret' : Option FieldType} {as rest st vs : List Value} {x : Int32} {f2 : HT} {n2 : Nat} (hM : MSU y cc' nL' ret' kk M.1) (hA : AM l G y (.code y cc' nL' ret') fr' lo' mc' ms' (.ref a :: as) f n (rI x f2 n2)) (hl : Cond.methodLink M.1 ix y ∈ Big) (hf : f a = .inr (ci, vs)) (hci : (clW[ci]?).map (fun q => q.1) = some M.1)
    (hdg : decode M.2.1 pc = .ok (.invokespecial ix, 3)) (hst : as.reverse ++ .ref a :: rest = st) (hk : as.length = kk) (hR : fr' + 1 ≤ fr ∧ 8 + (nL' + 11) + lo' ≤ lo) (hcat : (rest.map fun v => v.category).sum ≤ 8) (hc : nc + mc' ≤ mc ∧ ns + ms' ≤ ms) (k : AW l G M fr lo mc ms Post n0 (nc + mc') (ns + ms') (pc + 3) L (.int x :: rest) f2 n2) : AW l G M fr lo mc ms Post n0 nc ns pc L st f n := by
  subst hst
  exact aw_crI (cr_SU hM.1 hA hl hM.2.1 hM.2.2.1 hM.2.2.2.1 hM.2.2.2.2.1 hM.2.2.2.2.2.1 hM.2.2.2.2.2.2 hf hci hdg hk hR hcat hc) sub_app k
theorem aw_suV {y : MethodName} {cc' : ByteArray} {nL' kk ix a ci fr' lo' mc' ms' : Nat} {ret' : Option FieldType} {as rest st vs : List Value} {f2 : HT} {n2 : Nat} (hM : MSU y cc' nL' ret' kk M.1) (hA : AM l G y (.code y cc' nL' ret') fr' lo' mc' ms' (.ref a :: as) f n (rV f2 n2)) (hl : Cond.methodLink M.1 ix y ∈ Big) (hf : f a = .inr (ci, vs)) (hci : (clW[ci]?).map (fun q => q.1) = some M.1)
    (hdg : decode M.2.1 pc = .ok (.invokespecial ix, 3)) (hst : as.reverse ++ .ref a :: rest = st) (hk : as.length = kk) (hR : fr' + 1 ≤ fr ∧ 8 + (nL' + 11) + lo' ≤ lo) (hcat : (rest.map fun v => v.category).sum ≤ 8) (hc : nc + mc' ≤ mc ∧ ns + ms' ≤ ms) (k : AW l G M fr lo mc ms Post n0 (nc + mc') (ns + ms') (pc + 3) L (rest) f2 n2) : AW l G M fr lo mc ms Post n0 nc ns pc L st f n := by
  subst hst
  exact aw_crV (cr_SU hM.1 hA hl hM.2.1 hM.2.2.1 hM.2.2.2.1 hM.2.2.2.2.1 hM.2.2.2.2.2.1 hM.2.2.2.2.2.2 hf hci hdg hk hR hcat hc) sub_app k
theorem aw_suP {y : MethodName} {cc' : ByteArray} {nL' kk ix a ci fr' lo' mc' ms' : Nat} {ret' : Option FieldType} {as rest st vs : List Value} {P' : PT} (hM : MSU y cc' nL' ret' kk M.1) (hA : AM l G y (.code y cc' nL' ret') fr' lo' mc' ms' (.ref a :: as) f n P') (hl : Cond.methodLink M.1 ix y ∈ Big) (hf : f a = .inr (ci, vs)) (hci : (clW[ci]?).map (fun q => q.1) = some M.1)
    (hdg : decode M.2.1 pc = .ok (.invokespecial ix, 3)) (hst : as.reverse ++ .ref a :: rest = st) (hk : as.length = kk) (hR : fr' + 1 ≤ fr ∧ 8 + (nL' + 11) + lo' ≤ lo) (hcat : (rest.map fun v => v.category).sum ≤ 8) (hc : nc + mc' ≤ mc ∧ ns + ms' ≤ ms) (hno : ∀ (E : String) (f' : HT) (n' : Nat), ¬ P' (.inr E) f' n')
    (k : ∀ (r : Option Value) (f' : HT) (n' : Nat), n ≤ n' → P' (.inl r) f' n' → AW l G M fr lo mc ms Post n0 (nc + mc') (ns + ms') (pc + 3) L (r.toList ++ rest) f' n') : AW l G M fr lo mc ms Post n0 nc ns pc L st f n := by
  subst hst
  exact aw_crP (cr_SU hM.1 hA hl hM.2.1 hM.2.2.1 hM.2.2.2.1 hM.2.2.2.2.1 hM.2.2.2.2.2.1 hM.2.2.2.2.2.2 hf hci hdg hk hR hcat hc) sub_app hno k
theorem aw_iV {y : MethodName} {cc' : ByteArray} {nL' kk ix a fr' lo' mc' ms' : Nat} {as rest st : List Value} {f2 : HT} {n2 : Nat} (hM : MI y cc' nL' kk) (hA : AM l G y (.code y cc' nL' none) fr' lo' mc' ms' (.ref a :: as) f n (rV f2 n2)) (hl : Cond.methodLink M.1 ix y ∈ Big)
    (hdg : decode M.2.1 pc = .ok (.invokespecial ix, 3)) (hst : as.reverse ++ .ref a :: rest = st) (hk : as.length = kk) (hR : fr' + 1 ≤ fr ∧ 8 + (nL' + 11) + lo' ≤ lo) (hcat : (rest.map fun v => v.category).sum ≤ 8) (hc : nc + mc' ≤ mc ∧ ns + ms' ≤ ms) (k : AW l G M fr lo mc ms Post n0 (nc + mc') (ns + ms') (pc + 3) L rest f2 n2) : AW l G M fr lo mc ms Post n0 nc ns pc L st f n := by
  subst hst
  exact aw_crV (cr_I hM hA hl hdg hk hR hcat hc) sub_app k
theorem aw_nV {y : MethodName} {cc' : ByteArray} {nL' kk ix a fr' lo' mc' ms' : Nat} {host : String} {as rest st : List Value} {f2 : HT} {n2 : Nat} (hM : MI y cc' nL' kk) (hA : AM l G y (.code y cc' nL' none) fr' lo' mc' ms' (.ref a :: as) f n (rV f2 n2)) (hl : Cond.methodLinkNest M.1 ix y host ∈ lw_nest)
    (hdg : decode M.2.1 pc = .ok (.invokespecial ix, 3)) (hst : as.reverse ++ .ref a :: rest = st) (hk : as.length = kk) (hR : fr' + 1 ≤ fr ∧ 8 + (nL' + 11) + lo' ≤ lo) (hcat : (rest.map fun v => v.category).sum ≤ 8) (hc : nc + mc' ≤ mc ∧ ns + ms' ≤ ms) (k : AW l G M fr lo mc ms Post n0 (nc + mc') (ns + ms') (pc + 3) L rest f2 n2) : AW l G M fr lo mc ms Post n0 nc ns pc L st f n := by
  subst hst
  exact aw_crV (cr_IN hM hA hl hdg hk hR hcat hc) sub_app k
end RW8
theorem mU_J5_append_cf1ce : MSU yJ5_append_cf1ce cJ5_append_cf1ce 3 (some (.object "java/lang/AbstractStringBuilder")) 1 "java/lang/StringBuilder" := ⟨b4 167 (by decide +kernel), b6 226 (by decide +kernel), b1 198 (by decide +kernel), b4 166 (by decide +kernel), b1 7 (by decide +kernel), by decide +kernel, by decide +kernel⟩
theorem mU_J5_append_3fe6f : MSU yJ5_append_3fe6f cJ5_append_3fe6f 2 (some (.object "java/lang/AbstractStringBuilder")) 1 "java/lang/StringBuilder" := ⟨b5 182 (by decide +kernel), b6 234 (by decide +kernel), b1 198 (by decide +kernel), b5 181 (by decide +kernel), b1 7 (by decide +kernel), by decide +kernel, by decide +kernel⟩
theorem mU_J5_append_c97b9 : MSU yJ5_append_c97b9 cJ5_append_c97b9 4 (some (.object "java/lang/AbstractStringBuilder")) 1 "java/lang/StringBuilder" := ⟨b5 41 (by decide +kernel), b6 233 (by decide +kernel), b1 198 (by decide +kernel), b5 40 (by decide +kernel), b1 7 (by decide +kernel), by decide +kernel, by decide +kernel⟩
theorem mU_J5_charAt_5068e : MSU yJ5_charAt_5068e cJ5_charAt_5068e 5 (some .char) 1 "java/lang/StringBuilder" := ⟨b6 184 (by decide +kernel), b6 236 (by decide +kernel), b1 198 (by decide +kernel), b6 183 (by decide +kernel), b1 7 (by decide +kernel), by decide +kernel, by decide +kernel⟩
theorem mU_J5_setLength_d00df : MSU yJ5_setLength_d00df cJ5_setLength_d00df 2 none 1 "java/lang/StringBuilder" := ⟨b4 152 (by decide +kernel), b6 225 (by decide +kernel), b1 198 (by decide +kernel), b4 151 (by decide +kernel), b1 7 (by decide +kernel), by decide +kernel, by decide +kernel⟩
theorem mU_J5_length_8abf5 : MSU yJ5_length_8abf5 cJ5_length_8abf5 1 (some .int) 0 "java/lang/StringBuilder" := ⟨b5 85 (by decide +kernel), b5 80 (by decide +kernel), b1 198 (by decide +kernel), b5 79 (by decide +kernel), b1 7 (by decide +kernel), by decide +kernel, by decide +kernel⟩
theorem mC_J4_append_15ec4 : MVC yJ4_append_15ec4 cJ4_append_15ec4 2 (some (.object "java/lang/StringBuilder")) 1 "java/lang/StringBuilder" := ⟨b4 164 (by decide +kernel), b4 162 (by decide +kernel), b4 163 (by decide +kernel), b1 8 (by decide +kernel), ⟨by decide +kernel, by decide +kernel, by decide +kernel⟩⟩
theorem mC_J4_append_cf468 : MVC yJ4_append_cf468 cJ4_append_cf468 2 (some (.object "java/lang/StringBuilder")) 1 "java/lang/StringBuilder" := ⟨b5 179 (by decide +kernel), b5 177 (by decide +kernel), b5 178 (by decide +kernel), b1 8 (by decide +kernel), ⟨by decide +kernel, by decide +kernel, by decide +kernel⟩⟩
theorem mC_J4_append_bf812 : MVC yJ4_append_bf812 cJ4_append_bf812 2 (some (.object "java/lang/StringBuilder")) 1 "java/lang/StringBuilder" := ⟨b5 38 (by decide +kernel), b5 36 (by decide +kernel), b5 37 (by decide +kernel), b1 8 (by decide +kernel), ⟨by decide +kernel, by decide +kernel, by decide +kernel⟩⟩
theorem mC_J4_charAt_5068e : MVC yJ4_charAt_5068e cJ4_charAt_5068e 2 (some .char) 1 "java/lang/StringBuilder" := ⟨b6 181 (by decide +kernel), b6 179 (by decide +kernel), b6 180 (by decide +kernel), b1 8 (by decide +kernel), ⟨by decide +kernel, by decide +kernel, by decide +kernel⟩⟩
theorem mC_J4_setLength_d00df : MVC yJ4_setLength_d00df cJ4_setLength_d00df 2 none 1 "java/lang/StringBuilder" := ⟨b4 149 (by decide +kernel), b4 147 (by decide +kernel), b4 148 (by decide +kernel), b1 8 (by decide +kernel), ⟨by decide +kernel, by decide +kernel, by decide +kernel⟩⟩
theorem mC_J4_length_8abf5 : MVC yJ4_length_8abf5 cJ4_length_8abf5 1 (some .int) 0 "java/lang/StringBuilder" := ⟨b5 83 (by decide +kernel), b5 82 (by decide +kernel), b6 235 (by decide +kernel), b1 8 (by decide +kernel), ⟨by decide +kernel, by decide +kernel, by decide +kernel⟩⟩
/-- a new builder -/
def BN (H : HT) (c n : Nat) : HT := va_up (va_up H n (bbyt 16 (fun _ => 0))) c (bcell n 0 0)
theorem BN.bK {H : HT} {c n : Nat} (h : c < n) : bK (BN H c n) c n (n + 1) [] 0 := ⟨16, fun _ => 0, 0, up_self, (up_ne (by omega)).trans up_self, Or.inl rfl, by decide, Nat.zero_le _, by omega, by omega, Nat.lt_succ_self n, fun i hi => absurd hi (Nat.not_lt_zero _), fun i hi => ⟨0, by decide, nI_0.symm⟩⟩
theorem BN.out {H : HT} {c n a : Nat} (h1 : a ≠ c) (h2 : a ≠ n) : BN H c n a = H a := by rw [BN, up_ne h1, up_ne h2]
abbrev MJ4_append_15ec4 : MT := (RJ4, cJ4_append_15ec4, 2, (some (.object "java/lang/StringBuilder")), [], "append")
set_option maxHeartbeats 4000000 in
theorem b4_str15 {l : Launch} {G : GT} {n : Nat} {H : HT} {c bp : Nat} {L : List Nat} (hbk : bK H c bp n L 0) (h34 : L.length + 3 ≤ 34) : AM l G yJ4_append_15ec4 (.code yJ4_append_15ec4 cJ4_append_15ec4 2 (some (.object "java/lang/StringBuilder"))) 5 300 1 34 [.ref c, .ref 15] (H) n (BX H c bp n (L ++ [99, 109, 32]) 0 (some (.ref c))) := by
  refine aw_enter (M := MJ4_append_15ec4) rfl rfl (by decide +kernel) rfl (Nat.le_of_ble_eq_true rfl) ?_
  obtain ⟨N, B, ml, b0, b1, hN, hL, -, hne, hcn, hbn, hB, hq⟩ := id hbk
  show AW l G MJ4_append_15ec4 5 300 1 34 _ n 0 0 0 [(0, .ref c), (1, .ref 15)] [] _ n
  refine aw_aload_n dJ4_append_15ec4_0 rfl rfl ?_
  refine aw_aload_n dJ4_append_15ec4_1 rfl rfl ?_
  refine aw_suP (as := [Value.ref 15]) (rest := []) mU_J5_append_cf1ce (b5_str15 hbk h34) ml_J4_29 b0 rfl dJ4_append_15ec4_2 rfl rfl (by decide) (Nat.le_of_ble_eq_true rfl) (by decide) (fun _ _ _ h => by cases h.1) (fun r9 f9 n9 _ h => ?_)
  obtain ⟨h1, h2⟩ := h
  cases h1
  refine aw_pop dJ4_append_15ec4_5 rfl ?_
  refine aw_aload_n dJ4_append_15ec4_6 rfl rfl ?_
  exact aw_aret rfl (Or.inl ⟨_, rfl⟩) (Or.inr ⟨_, rfl⟩) (by decide) (by decide) dJ4_append_15ec4_7 ⟨rfl, h2⟩
set_option maxHeartbeats 4000000 in
theorem b4_str16 {l : Launch} {G : GT} {n : Nat} {H : HT} {c bp : Nat} {L : List Nat} (hbk : bK H c bp n L 0) (h34 : L.length + 4 ≤ 34) : AM l G yJ4_append_15ec4 (.code yJ4_append_15ec4 cJ4_append_15ec4 2 (some (.object "java/lang/StringBuilder"))) 5 300 1 34 [.ref c, .ref 16] (H) n (BX H c bp n (L ++ [114, 101, 115, 116]) 0 (some (.ref c))) := by
  refine aw_enter (M := MJ4_append_15ec4) rfl rfl (by decide +kernel) rfl (Nat.le_of_ble_eq_true rfl) ?_
  obtain ⟨N, B, ml, b0, b1, hN, hL, -, hne, hcn, hbn, hB, hq⟩ := id hbk
  show AW l G MJ4_append_15ec4 5 300 1 34 _ n 0 0 0 [(0, .ref c), (1, .ref 16)] [] _ n
  refine aw_aload_n dJ4_append_15ec4_0 rfl rfl ?_
  refine aw_aload_n dJ4_append_15ec4_1 rfl rfl ?_
  refine aw_suP (as := [Value.ref 16]) (rest := []) mU_J5_append_cf1ce (b5_str16 hbk h34) ml_J4_29 b0 rfl dJ4_append_15ec4_2 rfl rfl (by decide) (Nat.le_of_ble_eq_true rfl) (by decide) (fun _ _ _ h => by cases h.1) (fun r9 f9 n9 _ h => ?_)
  obtain ⟨h1, h2⟩ := h
  cases h1
  refine aw_pop dJ4_append_15ec4_5 rfl ?_
  refine aw_aload_n dJ4_append_15ec4_6 rfl rfl ?_
  exact aw_aret rfl (Or.inl ⟨_, rfl⟩) (Or.inr ⟨_, rfl⟩) (by decide) (by decide) dJ4_append_15ec4_7 ⟨rfl, h2⟩
abbrev MJ4_append_cf468 : MT := (RJ4, cJ4_append_cf468, 2, (some (.object "java/lang/StringBuilder")), [], "append")
set_option maxHeartbeats 4000000 in
theorem b4_char {l : Launch} {G : GT} {n : Nat} {H : HT} {c bp : Nat} {L : List Nat} (hbk : bK H c bp n L 0) {q9 : Nat} (hq9 : q9 < 128) (h34 : L.length + 1 ≤ 34) : AM l G yJ4_append_cf468 (.code yJ4_append_cf468 cJ4_append_cf468 2 (some (.object "java/lang/StringBuilder"))) 5 300 1 34 [.ref c, .int (nI q9)] (H) n (BX H c bp n (L ++ [q9]) 0 (some (.ref c))) := by
  refine aw_enter (M := MJ4_append_cf468) rfl rfl (by decide +kernel) rfl (Nat.le_of_ble_eq_true rfl) ?_
  obtain ⟨N, B, ml, b0, b1, hN, hL, -, hne, hcn, hbn, hB, hq⟩ := id hbk
  show AW l G MJ4_append_cf468 5 300 1 34 _ n 0 0 0 [(0, .ref c), (1, .int (nI q9))] [] _ n
  refine aw_aload_n dJ4_append_cf468_0 rfl rfl ?_
  refine aw_iload_n dJ4_append_cf468_1 rfl rfl ?_
  refine aw_suP (as := [Value.int (nI q9)]) (rest := []) mU_J5_append_3fe6f (b5_char hbk hq9 h34) ml_J4_50 b0 rfl dJ4_append_cf468_2 rfl rfl (by decide) (Nat.le_of_ble_eq_true rfl) (by decide) (fun _ _ _ h => by cases h.1) (fun r9 f9 n9 _ h => ?_)
  obtain ⟨h1, h2⟩ := h
  cases h1
  refine aw_pop dJ4_append_cf468_5 rfl ?_
  refine aw_aload_n dJ4_append_cf468_6 rfl rfl ?_
  exact aw_aret rfl (Or.inl ⟨_, rfl⟩) (Or.inr ⟨_, rfl⟩) (by decide) (by decide) dJ4_append_cf468_7 ⟨rfl, h2⟩
abbrev MJ4_append_bf812 : MT := (RJ4, cJ4_append_bf812, 2, (some (.object "java/lang/StringBuilder")), [], "append")
set_option maxHeartbeats 4000000 in
theorem b4_int {l : Launch} {G : GT} {n : Nat} {H : HT} {c bp : Nat} {L : List Nat} (hbk : bK H c bp n L 0) {v : Nat} (hv : v < 10 ^ 8) (h34 : L.length + 8 ≤ 34) : AM l G yJ4_append_bf812 (.code yJ4_append_bf812 cJ4_append_bf812 2 (some (.object "java/lang/StringBuilder"))) 5 300 1 34 [.ref c, .int (nI v)] (H) n (BX H c bp n (L ++ decN v) 0 (some (.ref c))) := by
  refine aw_enter (M := MJ4_append_bf812) rfl rfl (by decide +kernel) rfl (Nat.le_of_ble_eq_true rfl) ?_
  obtain ⟨N, B, ml, b0, b1, hN, hL, -, hne, hcn, hbn, hB, hq⟩ := id hbk
  show AW l G MJ4_append_bf812 5 300 1 34 _ n 0 0 0 [(0, .ref c), (1, .int (nI v))] [] _ n
  refine aw_aload_n dJ4_append_bf812_0 rfl rfl ?_
  refine aw_iload_n dJ4_append_bf812_1 rfl rfl ?_
  refine aw_suP (as := [Value.int (nI v)]) (rest := []) mU_J5_append_c97b9 (b5_int hbk hv h34) ml_J4_53 b0 rfl dJ4_append_bf812_2 rfl rfl (by decide) (Nat.le_of_ble_eq_true rfl) (by decide) (fun _ _ _ h => by cases h.1) (fun r9 f9 n9 _ h => ?_)
  obtain ⟨h1, h2⟩ := h
  cases h1
  refine aw_pop dJ4_append_bf812_5 rfl ?_
  refine aw_aload_n dJ4_append_bf812_6 rfl rfl ?_
  exact aw_aret rfl (Or.inl ⟨_, rfl⟩) (Or.inr ⟨_, rfl⟩) (by decide) (by decide) dJ4_append_bf812_7 ⟨rfl, h2⟩
abbrev MJ4_setLength_d00df : MT := (RJ4, cJ4_setLength_d00df, 2, none, [], "setLength")
set_option maxHeartbeats 4000000 in
theorem b4_set {l : Launch} {G : GT} {n : Nat} {H : HT} {c bp : Nat} {L : List Nat} (hbk : bK H c bp n L 0) : AM l G yJ4_setLength_d00df (.code yJ4_setLength_d00df cJ4_setLength_d00df 2 none) 5 300 1 34 [.ref c, .int (nI 0)] (H) n (BX H c bp n [] 0 none) := by
  refine aw_enter (M := MJ4_setLength_d00df) rfl rfl (by decide +kernel) rfl (Nat.le_of_ble_eq_true rfl) ?_
  obtain ⟨N, B, ml, b0, b1, hN, hL, -, hne, hcn, hbn, hB, hq⟩ := id hbk
  show AW l G MJ4_setLength_d00df 5 300 1 34 _ n 0 0 0 [(0, .ref c), (1, .int (nI 0))] [] _ n
  refine aw_aload_n dJ4_setLength_d00df_0 rfl rfl ?_
  refine aw_iload_n dJ4_setLength_d00df_1 rfl rfl ?_
  refine aw_suP (as := [Value.int (nI 0)]) (rest := []) mU_J5_setLength_d00df (b5_set hbk) ml_J4_333 b0 rfl dJ4_setLength_d00df_2 rfl rfl (by decide) (Nat.le_of_ble_eq_true rfl) (by decide) (fun _ _ _ h => by cases h.1) (fun r9 f9 n9 _ h => ?_)
  obtain ⟨h1, h2⟩ := h
  cases h1
  exact aw_vret rfl (by decide) (by decide) dJ4_setLength_d00df_5 ⟨rfl, h2⟩
abbrev MJ4_length_8abf5 : MT := (RJ4, cJ4_length_8abf5, 1, (some .int), [], "length")
set_option maxHeartbeats 4000000 in
theorem b4_len {l : Launch} {G : GT} {n : Nat} {H : HT} {c bp : Nat} {L : List Nat} (hbk : bK H c bp n L 0) : AM l G yJ4_length_8abf5 (.code yJ4_length_8abf5 cJ4_length_8abf5 1 (some .int)) 5 300 0 0 [.ref c] (H) n (rI (nI L.length) H n) := by
  refine aw_enter (M := MJ4_length_8abf5) rfl rfl (by decide +kernel) rfl (Nat.le_of_ble_eq_true rfl) ?_
  obtain ⟨N, B, ml, b0, b1, hN, hL, -, hne, hcn, hbn, hB, hq⟩ := id hbk
  show AW l G MJ4_length_8abf5 5 300 0 0 _ n 0 0 0 [(0, .ref c)] [] _ n
  refine aw_aload_n dJ4_length_8abf5_0 rfl rfl ?_
  refine aw_suI (as := []) (rest := []) mU_J5_length_8abf5 (b5_len hbk) ml_J4_343 b0 rfl dJ4_length_8abf5_1 rfl rfl (by decide) (Nat.le_of_ble_eq_true rfl) (by decide) ?_
  exact aw_iret rfl (by decide) (by decide) dJ4_length_8abf5_4 (rI_of (by rfl))
abbrev MJ4_charAt_5068e : MT := (RJ4, cJ4_charAt_5068e, 2, (some .char), [], "charAt")
set_option maxHeartbeats 4000000 in
theorem b4_at {l : Launch} {G : GT} {n : Nat} {H : HT} {c bp : Nat} {L : List Nat} (hbk : bK H c bp n L 0) {i : Nat} (hi : i < L.length) : AM l G yJ4_charAt_5068e (.code yJ4_charAt_5068e cJ4_charAt_5068e 2 (some .char)) 5 300 0 0 [.ref c, .int (nI i)] (H) n (rI (nI (L.getD i 0)) H n) := by
  refine aw_enter (M := MJ4_charAt_5068e) rfl rfl (by decide +kernel) rfl (Nat.le_of_ble_eq_true rfl) ?_
  obtain ⟨N, B, ml, b0, b1, hN, hL, -, hne, hcn, hbn, hB, hq⟩ := id hbk
  show AW l G MJ4_charAt_5068e 5 300 0 0 _ n 0 0 0 [(0, .ref c), (1, .int (nI i))] [] _ n
  refine aw_aload_n dJ4_charAt_5068e_0 rfl rfl ?_
  refine aw_iload_n dJ4_charAt_5068e_1 rfl rfl ?_
  refine aw_suI (as := [Value.int (nI i)]) (rest := []) mU_J5_charAt_5068e (b5_at hbk hi) ml_J4_329 b0 rfl dJ4_charAt_5068e_2 rfl rfl (by decide) (Nat.le_of_ble_eq_true rfl) (by decide) ?_
  exact aw_zret rfl (c128_narrow (hB i hi).2) (by decide) (by decide) dJ4_charAt_5068e_5 (rI_of rfl)
abbrev MJ5_init_d00df : MT := (RJ5, cJ5_init_d00df, 2, none, [], "<init>")
set_option maxHeartbeats 4000000 in
theorem b5_new {l : Launch} {G : GT} {n : Nat} {H : HT} {c : Nat} (hcn : c < n) (h0 : H c = .inr (0, [.null, .int 0, .int 0, .int 0])) : AM l G yJ5_init_d00df (.code yJ5_init_d00df cJ5_init_d00df 2 none) 1 60 1 16 [.ref c, .int (nI 16)] (H) n (rV (BN H c n) (n + 1)) := by
  refine aw_enter (M := MJ5_init_d00df) rfl rfl (by decide +kernel) rfl (Nat.le_of_ble_eq_true rfl) ?_
  show AW l G MJ5_init_d00df 1 60 1 16 _ n 0 0 0 [(0, .ref c), (1, .int (nI 16))] [] _ n
  refine aw_aload_n dJ5_init_d00df_0 rfl rfl ?_
  refine aw_objInit ml_J5_3 (by decide) (by decide) dJ5_init_d00df_1 ?_
  refine aw_gets (v := .int (nI 1)) (List.mem_of_getElem? (i := 0) rfl) trivial sl_J5_18 dJ5_init_d00df_4 ?_
  refine aw_if_eq_n (by omega) (tgt := 25) dJ5_init_d00df_7 (by decide) (fun c_1 => by exfalso; omega) (fun c_1 => ?_)
  refine aw_aload_n dJ5_init_d00df_10 rfl rfl ?_
  refine aw_iload_n dJ5_init_d00df_11 rfl rfl ?_
  refine aw_newa_byte (N := 16) (by decide) (nIc (by decide)) (by decide) (by decide) (by decide) dJ5_init_d00df_12 ?_
  refine aw_put fp_J5_15 ((up_ne (by omega)).trans (h0)) (fun _ => rfl) (fun _ => rfl) (Nat.le_of_ble_eq_true rfl) dJ5_init_d00df_14 ?_
  refine aw_aload_n dJ5_init_d00df_17 rfl rfl ?_
  refine aw_iconst_n 0 dJ5_init_d00df_18 (by decide) ?_
  refine aw_put fp_J5_22 (up_self) (fun _ => rfl) (fun _ => rfl) (Nat.le_of_ble_eq_true rfl) dJ5_init_d00df_19 ?_
  refine aw_goto (tgt := 38) dJ5_init_d00df_22 (by decide) ?_
  exact aw_vret rfl (by decide) (by decide) dJ5_init_d00df_38 (rV_of (by rw [bx_uu]; rfl))
abbrev MJ4_init_da8c8 : MT := (RJ4, cJ4_init_da8c8, 1, none, [], "<init>")
set_option maxHeartbeats 4000000 in
theorem b4_new {l : Launch} {G : GT} {n : Nat} {H : HT} {c : Nat} (hcn : c < n) (h0 : H c = .inr (0, [.null, .int 0, .int 0, .int 0])) : AM l G yJ4_init_da8c8 (.code yJ4_init_da8c8 cJ4_init_da8c8 1 none) 2 120 1 16 [.ref c] (H) n (rV (BN H c n) (n + 1)) := by
  refine aw_enter (M := MJ4_init_da8c8) rfl rfl (by decide +kernel) rfl (Nat.le_of_ble_eq_true rfl) ?_
  show AW l G MJ4_init_da8c8 2 120 1 16 _ n 0 0 0 [(0, .ref c)] [] _ n
  refine aw_aload_n dJ4_init_da8c8_0 rfl rfl ?_
  refine aw_bipush_n 16 dJ4_init_da8c8_1 (by decide) ?_
  refine aw_iV (as := [Value.int (nI 16)]) (rest := []) mI_J5_init_d00df (b5_new hcn h0) ml_J4_1 dJ4_init_da8c8_3 rfl rfl (by decide) (Nat.le_of_ble_eq_true rfl) (by decide) ?_
  exact aw_vret rfl (by decide) (by decide) dJ4_init_da8c8_6 (rV_of (by rfl))
