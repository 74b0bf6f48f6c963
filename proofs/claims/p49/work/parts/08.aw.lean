/-! the method's context; the relation of a point; AW: from this point the method comes to its post -/
def MC (l : Launch) (G : GT) (M : MT) (p : Program) (s : State) (m : MethodId) (args : Array Value) (meth : Method) (c : Code) : Prop :=
  p.tables.exec = Jvm.exec ∧ c.code = M.2.1 ∧ c.maxLocals = M.2.2.1 ∧ s.vm.findClass M.1 = some m.cls ∧ (∀ w ∈ Big, w.before args s = true) ∧ va_K (gD G) clW (tyK G) s ∧ meth.sig.returnType = M.2.2.2.1 ∧ meth.locks = false ∧ c.exceptionTable.toList = M.2.2.2.2.1 ∧ meth.name = M.2.2.2.2.2 ∧ l.stackTraces = false ∧ gZ G ≤ s.heap.size ∧ OldA G s s.heap
section MCP
variable {l : Launch} {G : GT} {M : MT} {p : Program} {s : State} {m : MethodId} {args : Array Value} {meth : Method} {c : Code}
theorem MC.hx (C : MC l G M p s m args meth c) : p.tables.exec = Jvm.exec := C.1
theorem MC.hb (C : MC l G M p s m args meth c) : c.code = M.2.1 := C.2.1
theorem MC.hml (C : MC l G M p s m args meth c) : c.maxLocals = M.2.2.1 := C.2.2.1
theorem MC.own (C : MC l G M p s m args meth c) : s.vm.findClass M.1 = some m.cls := C.2.2.2.1
theorem MC.ts (C : MC l G M p s m args meth c) : ∀ w ∈ Big, w.before args s = true := C.2.2.2.2.1
theorem MC.hK (C : MC l G M p s m args meth c) : va_K (gD G) clW (tyK G) s := C.2.2.2.2.2.1
theorem MC.hr (C : MC l G M p s m args meth c) : meth.sig.returnType = M.2.2.2.1 := C.2.2.2.2.2.2.1
theorem MC.locks (C : MC l G M p s m args meth c) : meth.locks = false := C.2.2.2.2.2.2.2.1
theorem MC.tab (C : MC l G M p s m args meth c) : c.exceptionTable.toList = M.2.2.2.2.1 := C.2.2.2.2.2.2.2.2.1
theorem MC.nm (C : MC l G M p s m args meth c) : meth.name = M.2.2.2.2.2 := C.2.2.2.2.2.2.2.2.2.1
theorem MC.tr (C : MC l G M p s m args meth c) : l.stackTraces = false := C.2.2.2.2.2.2.2.2.2.2.1
theorem MC.sz (C : MC l G M p s m args meth c) : gZ G ≤ s.heap.size := C.2.2.2.2.2.2.2.2.2.2.2.1
theorem MC.old (C : MC l G M p s m args meth c) : OldA G s s.heap := C.2.2.2.2.2.2.2.2.2.2.2.2
theorem MC.new (C : MC l G M p s m args meth c) : ∀ q, s.heap.size ≤ q → gF G q := fun _ h => Nat.le_trans C.sz h
end MCP
def Rel (G : GT) (M : MT) (n0 : Nat) (ρ0 ρ : Nat → Nat) (L : List (Nat × Value)) (S : List Value) (f : HT) (n : Nat) (s : State) (H : Heap) (locs : List Loc) (ls : Array Slot) : Prop :=
  n0 ≤ n ∧ (∀ k, k < n0 → ρ k = ρ0 k) ∧ Wd G ρ n f H ∧ (∀ q ∈ L, vOK n q.2) ∧ (∀ v ∈ S, vOK n v) ∧ va_S (gF G) s.heap H locs ∧ lv_has ls M.2.2.1 (L.map fun q => (q.1, cv ρ q.2))
def QcA (G : GT) (n0 : Nat) (ρ0 : Nat → Nat) (Post : PT) : Array Value → State → Outcome → State → Prop := fun _ st o t =>
  (∃ (r : Option Value) (ρ : Nat → Nat) (f : HT) (n : Nat), o = .returned (r.map (cv ρ)) ∧ n0 ≤ n ∧ (∀ k, k < n0 → ρ k = ρ0 k) ∧ Wd G ρ n f t.heap ∧ (∀ v, r = some v → vOK n v) ∧ Post (.inl r) f n) ∧ va_F (gF G) st t
def XCA (G : GT) (n0 : Nat) (ρ0 : Nat → Nat) (Post : PT) : String → State → State → Prop := fun E st t =>
  (∃ (ρ : Nat → Nat) (f : HT) (n : Nat), n0 ≤ n ∧ (∀ k, k < n0 → ρ k = ρ0 k) ∧ Wd G ρ n f t.heap ∧ Post (.inr E) f n) ∧ va_F (gF G) st t
abbrev rmA (fr lo mc ms : Nat) : Room := { frames := fr, cells := mc, slots := ms, locals := lo }
def AW (l : Launch) (G : GT) (M : MT) (fr lo mc ms : Nat) (Post : PT) (n0 nc ns pc : Nat) (L : List (Nat × Value)) (S : List Value) (f : HT) (n : Nat) : Prop :=
  ∀ ⦃p : Program⦄ ⦃e : Env⦄ ⦃s : State⦄ ⦃m : MethodId⦄ ⦃args : Array Value⦄ ⦃below : List Frame⦄ ⦃meth : Method⦄ ⦃c : Code⦄, MC l G M p s m args meth c →
    ∀ ⦃ρ0 ρ : Nat → Nat⦄ ⦃H : Heap⦄ ⦃locs : List Loc⦄ ⦃ls : Array Slot⦄, Rel G M n0 ρ0 ρ L S f n s H locs ls →
      W p l e (rmA fr lo mc ms) s m args below meth c H locs nc ns (vx_MQ below (QcA G n0 ρ0 Post) (XCA G n0 ρ0 Post) args s mc ms (gF G)) (F0 m pc ls (S.map (cv ρ)))
/-- .. with an exception of class E thrown over it -/
def AX (l : Launch) (G : GT) (M : MT) (fr lo mc ms : Nat) (Post : PT) (n0 nc ns pc : Nat) (L : List (Nat × Value)) (E : String) (f : HT) (n : Nat) : Prop :=
  ∀ ⦃p : Program⦄ ⦃e : Env⦄ ⦃s : State⦄ ⦃m : MethodId⦄ ⦃args : Array Value⦄ ⦃below : List Frame⦄ ⦃meth : Method⦄ ⦃c : Code⦄, MC l G M p s m args meth c →
    ∀ ⦃ρ0 ρ : Nat → Nat⦄ ⦃H : Heap⦄ ⦃locs : List Loc⦄ ⦃ls : Array Slot⦄, Rel G M n0 ρ0 ρ L [] f n s H locs ls → ∀ (q : Nat) (ce : Cell) (rest : List Value), H[q]? = some ce → ce.vm = .none → s.vm.findClass E = some ce.cls →
      vx_W p l e (rmA fr lo mc ms) s m args below meth c H locs nc ns (vx_MQ below (QcA G n0 ρ0 Post) (XCA G n0 ρ0 Post) args s mc ms (gF G)) (F0 m pc ls rest) q
def lk (L : List (Nat × Value)) (k : Nat) : Option Value := match L with
  | [] => none
  | q :: L => if q.1 = k then some q.2 else lk L k
def lset (L : List (Nat × Value)) (k : Nat) (v : Value) : List (Nat × Value) := (k, v) :: L.filter (fun q => !(q.1 == k) && !(q.1 + 1 == k && q.2.category == 2))
def lsetD (L : List (Nat × Value)) (k : Nat) (v : Value) : List (Nat × Value) := (k, v) :: L.filter (fun q => !(q.1 == k) && (!(q.1 == k + 1) && !(q.1 + 1 == k && q.2.category == 2)))
theorem lk_mem {L : List (Nat × Value)} {k : Nat} {v : Value} (h : lk L k = some v) : (k, v) ∈ L := by
  induction L with
  | nil => cases h
  | cons q L ih =>
    unfold lk at h
    split at h
    · next e => cases h; subst e; exact List.mem_cons_self
    · exact List.mem_cons_of_mem _ (ih h)
theorem lset_map (ρ : Nat → Nat) (L : List (Nat × Value)) (k : Nat) (v : Value) : (lset L k v).map (fun q => (q.1, cv ρ q.2)) = (k, cv ρ v) :: (L.map fun q => (q.1, cv ρ q.2)).filter (fun q => !(q.1 == k) && !(q.1 + 1 == k && q.2.category == 2)) := by
  simp only [lset, List.map_cons, List.filter_map]
  congr 2
  apply List.filter_congr
  intro q _
  simp [cv_cat]
theorem lsetD_map (ρ : Nat → Nat) (L : List (Nat × Value)) (k : Nat) (v : Value) : (lsetD L k v).map (fun q => (q.1, cv ρ q.2)) = (k, cv ρ v) :: (L.map fun q => (q.1, cv ρ q.2)).filter (fun q => !(q.1 == k) && (!(q.1 == k + 1) && !(q.1 + 1 == k && q.2.category == 2))) := by
  simp only [lsetD, List.map_cons, List.filter_map]
  congr 2
  apply List.filter_congr
  intro q _
  simp [cv_cat]
section RelP
variable {G : GT} {M : MT} {n0 : Nat} {ρ0 ρ : Nat → Nat} {L L' : List (Nat × Value)} {S S' : List Value} {f f' : HT} {n : Nat} {s : State} {H H1 : Heap} {locs locs1 : List Loc} {ls ls' : Array Slot}
theorem Rel.st (R : Rel G M n0 ρ0 ρ L S f n s H locs ls) (h : ∀ v ∈ S', vOK n v) : Rel G M n0 ρ0 ρ L S' f n s H locs ls := ⟨R.1, R.2.1, R.2.2.1, R.2.2.2.1, h, R.2.2.2.2.2.1, R.2.2.2.2.2.2⟩
theorem Rel.wd (R : Rel G M n0 ρ0 ρ L S f n s H locs ls) : Wd G ρ n f H := R.2.2.1
theorem Rel.okL (R : Rel G M n0 ρ0 ρ L S f n s H locs ls) : ∀ q ∈ L, vOK n q.2 := R.2.2.2.1
theorem Rel.okS (R : Rel G M n0 ρ0 ρ L S f n s H locs ls) : ∀ v ∈ S, vOK n v := R.2.2.2.2.1
theorem Rel.hS (R : Rel G M n0 ρ0 ρ L S f n s H locs ls) : va_S (gF G) s.heap H locs := R.2.2.2.2.2.1
theorem Rel.lv (R : Rel G M n0 ρ0 ρ L S f n s H locs ls) : lv_has ls M.2.2.1 (L.map fun q => (q.1, cv ρ q.2)) := R.2.2.2.2.2.2
theorem Rel.loc (R : Rel G M n0 ρ0 ρ L S f n s H locs ls) {k : Nat} {v : Value} (h : lk L k = some v) : ls[k]? = some (.val (cv ρ v)) := R.lv.2.2 (k, cv ρ v) (List.mem_map.mpr ⟨(k, v), lk_mem h, rfl⟩)
theorem Rel.lok (R : Rel G M n0 ρ0 ρ L S f n s H locs ls) {k : Nat} {v : Value} (h : lk L k = some v) : vOK n v := R.okL (k, v) (lk_mem h)
theorem Rel.pos (R : Rel G M n0 ρ0 ρ L S f n s H locs ls) {S' : List Value} {v : Value} (h : vOK n v) (hS : ∀ v ∈ S', vOK n v) : Rel G M n0 ρ0 ρ L (v :: S') f n s H locs ls := R.st (List.forall_mem_cons.mpr ⟨h, hS⟩)
theorem ok_tl {v : Value} {S : List Value} (h : ∀ x ∈ v :: S, vOK n x) : ∀ x ∈ S, vOK n x := (List.forall_mem_cons.mp h).2
theorem ok_hd {v : Value} {S : List Value} (h : ∀ x ∈ v :: S, vOK n x) : vOK n v := (List.forall_mem_cons.mp h).1
theorem ok_cs {v : Value} {S : List Value} (h : vOK n v) (hS : ∀ x ∈ S, vOK n x) : ∀ x ∈ v :: S, vOK n x := List.forall_mem_cons.mpr ⟨h, hS⟩
theorem lset_ok {k : Nat} {v : Value} (h : ∀ q ∈ L, vOK n q.2) (hv : vOK n v) : ∀ q ∈ lset L k v, vOK n q.2 := fun q hq => by
  rcases List.mem_cons.mp hq with rfl | hq
  · exact hv
  · exact h q (List.mem_filter.mp hq).1
theorem lsetD_ok {k : Nat} {v : Value} (h : ∀ q ∈ L, vOK n q.2) (hv : vOK n v) : ∀ q ∈ lsetD L k v, vOK n q.2 := fun q hq => by
  rcases List.mem_cons.mp hq with rfl | hq
  · exact hv
  · exact h q (List.mem_filter.mp hq).1
theorem Rel.put (R : Rel G M n0 ρ0 ρ L S f n s H locs ls) {k : Nat} {v : Value} (hv : vOK n v) (hS : ∀ x ∈ S', vOK n x) (hl : lv_has ls' M.2.2.1 ((k, cv ρ v) :: (L.map fun q => (q.1, cv ρ q.2)).filter (fun q => !(q.1 == k) && !(q.1 + 1 == k && q.2.category == 2)))) : Rel G M n0 ρ0 ρ (lset L k v) S' f n s H locs ls' :=
  ⟨R.1, R.2.1, R.wd, lset_ok R.okL hv, hS, R.hS, by rw [lset_map]; exact hl⟩
theorem Rel.putD (R : Rel G M n0 ρ0 ρ L S f n s H locs ls) {k : Nat} {v : Value} (hv : vOK n v) (hS : ∀ x ∈ S', vOK n x) (hl : lv_has ls' M.2.2.1 ((k, cv ρ v) :: (L.map fun q => (q.1, cv ρ q.2)).filter (fun q => !(q.1 == k) && (!(q.1 == k + 1) && !(q.1 + 1 == k && q.2.category == 2))))) : Rel G M n0 ρ0 ρ (lsetD L k v) S' f n s H locs ls' :=
  ⟨R.1, R.2.1, R.wd, lsetD_ok R.okL hv, hS, R.hS, by rw [lsetD_map]; exact hl⟩
theorem Rel.heap (R : Rel G M n0 ρ0 ρ L S f n s H locs ls) (hW : Wd G ρ n f' H1) (hS : va_S (gF G) s.heap H1 locs1) (h : ∀ v ∈ S', vOK n v) : Rel G M n0 ρ0 ρ L S' f' n s H1 locs1 ls := ⟨R.1, R.2.1, hW, R.okL, h, hS, R.lv⟩
theorem Rel.fewer (R : Rel G M n0 ρ0 ρ L S f n s H locs ls) (h : ∀ q ∈ L', q ∈ L) : Rel G M n0 ρ0 ρ L' S f n s H locs ls :=
  ⟨R.1, R.2.1, R.wd, fun q hq => R.okL q (h q hq), R.okS, R.hS, R.lv.1, R.lv.2.1, fun q hq => by obtain ⟨x, hx, rfl⟩ := List.mem_map.mp hq; exact R.lv.2.2 _ (List.mem_map.mpr ⟨x, h x hx, rfl⟩)⟩
end RelP
section AWR
variable {l : Launch} {G : GT} {M : MT} {fr lo mc ms : Nat} {Post : PT} {n0 nc ns pc : Nat} {L L' : List (Nat × Value)} {S : List Value} {f : HT} {n : Nat}
/-- fewer locals are needed from here on -/
theorem aw_sub (L' : List (Nat × Value)) (h : ∀ q ∈ L', q ∈ L) (k : AW l G M fr lo mc ms Post n0 nc ns pc L' S f n) : AW l G M fr lo mc ms Post n0 nc ns pc L S f n := fun _ _ _ _ _ _ _ _ C _ _ _ _ _ R => k C (R.fewer h)
/-- more cells and slots are counted -/
theorem aw_widen {nc' ns' : Nat} (h1 : nc ≤ nc') (h2 : ns ≤ ns') (k : AW l G M fr lo mc ms Post n0 nc' ns' pc L S f n) : AW l G M fr lo mc ms Post n0 nc ns pc L S f n := fun _ _ _ _ _ _ _ _ C _ _ _ _ _ R => W.widen h1 h2 (k C R)
/-- a computed number gets a name -/
theorem aw_top {x : Int32} (k : ∀ y : Int32, y = x → AW l G M fr lo mc ms Post n0 nc ns pc L (.int y :: S) f n) : AW l G M fr lo mc ms Post n0 nc ns pc L (.int x :: S) f n := k x rfl
theorem aw_iadd {x y : Int32} (hdg : decode M.2.1 pc = .ok (.iadd, 1)) (k : AW l G M fr lo mc ms Post n0 nc ns (pc + 1) L (.int (x + y) :: S) f n) : AW l G M fr lo mc ms Post n0 nc ns pc L (.int y :: .int x :: S) f n := by
  intro p e s m args below meth c C ρ0 ρ H locs ls R
  exact lv_iadd C.hx C.hb hdg (k C (R.pos trivial (ok_tl (ok_tl R.okS))))
theorem aw_isub {x y : Int32} (hdg : decode M.2.1 pc = .ok (.isub, 1)) (k : AW l G M fr lo mc ms Post n0 nc ns (pc + 1) L (.int (x - y) :: S) f n) : AW l G M fr lo mc ms Post n0 nc ns pc L (.int y :: .int x :: S) f n := by
  intro p e s m args below meth c C ρ0 ρ H locs ls R
  exact lv_isub C.hx C.hb hdg (k C (R.pos trivial (ok_tl (ok_tl R.okS))))
theorem aw_imul {x y : Int32} (hdg : decode M.2.1 pc = .ok (.imul, 1)) (k : AW l G M fr lo mc ms Post n0 nc ns (pc + 1) L (.int (x * y) :: S) f n) : AW l G M fr lo mc ms Post n0 nc ns pc L (.int y :: .int x :: S) f n := by
  intro p e s m args below meth c C ρ0 ρ H locs ls R
  exact lv_imul C.hx C.hb hdg (k C (R.pos trivial (ok_tl (ok_tl R.okS))))
theorem aw_iand {x y : Int32} (hdg : decode M.2.1 pc = .ok (.iand, 1)) (k : AW l G M fr lo mc ms Post n0 nc ns (pc + 1) L (.int (x &&& y) :: S) f n) : AW l G M fr lo mc ms Post n0 nc ns pc L (.int y :: .int x :: S) f n := by
  intro p e s m args below meth c C ρ0 ρ H locs ls R
  exact lv_iand C.hx C.hb hdg (k C (R.pos trivial (ok_tl (ok_tl R.okS))))
theorem aw_ior {x y : Int32} (hdg : decode M.2.1 pc = .ok (.ior, 1)) (k : AW l G M fr lo mc ms Post n0 nc ns (pc + 1) L (.int (x ||| y) :: S) f n) : AW l G M fr lo mc ms Post n0 nc ns pc L (.int y :: .int x :: S) f n := by
  intro p e s m args below meth c C ρ0 ρ H locs ls R
  exact lv_ior C.hx C.hb hdg (k C (R.pos trivial (ok_tl (ok_tl R.okS))))
theorem aw_ixor {x y : Int32} (hdg : decode M.2.1 pc = .ok (.ixor, 1)) (k : AW l G M fr lo mc ms Post n0 nc ns (pc + 1) L (.int (x ^^^ y) :: S) f n) : AW l G M fr lo mc ms Post n0 nc ns pc L (.int y :: .int x :: S) f n := by
  intro p e s m args below meth c C ρ0 ρ H locs ls R
  exact lv_ixor C.hx C.hb hdg (k C (R.pos trivial (ok_tl (ok_tl R.okS))))
theorem aw_idiv {x y : Int32} (hne : ¬ y = 0) (hdg : decode M.2.1 pc = .ok (.idiv, 1)) (k : AW l G M fr lo mc ms Post n0 nc ns (pc + 1) L (.int (x / y) :: S) f n) : AW l G M fr lo mc ms Post n0 nc ns pc L (.int y :: .int x :: S) f n := by
  intro p e s m args below meth c C ρ0 ρ H locs ls R
  exact lv_idiv C.hx C.hb hdg hne (k C (R.pos trivial (ok_tl (ok_tl R.okS))))
theorem aw_irem {x y : Int32} (hne : ¬ y = 0) (hdg : decode M.2.1 pc = .ok (.irem, 1)) (k : AW l G M fr lo mc ms Post n0 nc ns (pc + 1) L (.int (x - x / y * y) :: S) f n) : AW l G M fr lo mc ms Post n0 nc ns pc L (.int y :: .int x :: S) f n := by
  intro p e s m args below meth c C ρ0 ρ H locs ls R
  exact lv_irem C.hx C.hb hdg hne (k C (R.pos trivial (ok_tl (ok_tl R.okS))))
theorem aw_ishl {x y : Int32} (hdg : decode M.2.1 pc = .ok (.ishl, 1)) (k : AW l G M fr lo mc ms Post n0 nc ns (pc + 1) L (.int (x <<< (y &&& 31)) :: S) f n) : AW l G M fr lo mc ms Post n0 nc ns pc L (.int y :: .int x :: S) f n := by
  intro p e s m args below meth c C ρ0 ρ H locs ls R
  exact lv_ishl C.hx C.hb hdg (k C (R.pos trivial (ok_tl (ok_tl R.okS))))
theorem aw_ishr {x y : Int32} (hdg : decode M.2.1 pc = .ok (.ishr, 1)) (k : AW l G M fr lo mc ms Post n0 nc ns (pc + 1) L (.int (x >>> (y &&& 31)) :: S) f n) : AW l G M fr lo mc ms Post n0 nc ns pc L (.int y :: .int x :: S) f n := by
  intro p e s m args below meth c C ρ0 ρ H locs ls R
  exact lv_ishr C.hx C.hb hdg (k C (R.pos trivial (ok_tl (ok_tl R.okS))))
theorem aw_iushr {x y : Int32} (hdg : decode M.2.1 pc = .ok (.iushr, 1)) (k : AW l G M fr lo mc ms Post n0 nc ns (pc + 1) L (.int ((x.toUInt32 >>> (y.toUInt32 &&& Int32.toUInt32 31)).toInt32) :: S) f n) : AW l G M fr lo mc ms Post n0 nc ns pc L (.int y :: .int x :: S) f n := by
  intro p e s m args below meth c C ρ0 ρ H locs ls R
  exact lv_iushr C.hx C.hb hdg rfl (k C (R.pos trivial (ok_tl (ok_tl R.okS))))
theorem aw_ineg {x : Int32} (hdg : decode M.2.1 pc = .ok (.ineg, 1)) (k : AW l G M fr lo mc ms Post n0 nc ns (pc + 1) L (.int (-x) :: S) f n) : AW l G M fr lo mc ms Post n0 nc ns pc L (.int x :: S) f n := by
  intro p e s m args below meth c C ρ0 ρ H locs ls R
  exact lv_ineg C.hx C.hb hdg (k C (R.pos trivial (ok_tl R.okS)))
theorem aw_i2c {x : Int32} (hdg : decode M.2.1 pc = .ok (.i2c, 1)) (k : AW l G M fr lo mc ms Post n0 nc ns (pc + 1) L (.int ((x.toUInt32 % 65536).toInt32) :: S) f n) : AW l G M fr lo mc ms Post n0 nc ns pc L (.int x :: S) f n := by
  intro p e s m args below meth c C ρ0 ρ H locs ls R
  exact lv_i2c C.hx C.hb hdg rfl (k C (R.pos trivial (ok_tl R.okS)))
theorem aw_i2b {x : Int32} (hdg : decode M.2.1 pc = .ok (.i2b, 1)) (k : AW l G M fr lo mc ms Post n0 nc ns (pc + 1) L (.int (x.toInt8.toInt32) :: S) f n) : AW l G M fr lo mc ms Post n0 nc ns pc L (.int x :: S) f n := by
  intro p e s m args below meth c C ρ0 ρ H locs ls R
  exact lv_i2b C.hx C.hb hdg rfl (k C (R.pos trivial (ok_tl R.okS)))
theorem aw_i2l {x : Int32} (hdg : decode M.2.1 pc = .ok (.i2l, 1)) (k : AW l G M fr lo mc ms Post n0 nc ns (pc + 1) L (.long x.toInt64 :: S) f n) : AW l G M fr lo mc ms Post n0 nc ns pc L (.int x :: S) f n := by
  intro p e s m args below meth c C ρ0 ρ H locs ls R
  exact lv_i2l C.hx C.hb hdg rfl (k C (R.pos trivial (ok_tl R.okS)))
theorem aw_i2d {x : Int32} (hdg : decode M.2.1 pc = .ok (.i2d, 1)) (k : AW l G M fr lo mc ms Post n0 nc ns (pc + 1) L (.double (FP.i2d x) :: S) f n) : AW l G M fr lo mc ms Post n0 nc ns pc L (.int x :: S) f n := by
  intro p e s m args below meth c C ρ0 ρ H locs ls R
  exact lv_i2d C.hx C.hb hdg (k C (R.pos trivial (ok_tl R.okS)))
theorem aw_ddiv {x y : UInt64} (hne : vf_n64 (FP.ddiv x y)) (hdg : decode M.2.1 pc = .ok (.ddiv, 1)) (k : AW l G M fr lo mc ms Post n0 nc ns (pc + 1) L (.double (FP.ddiv x y) :: S) f n) : AW l G M fr lo mc ms Post n0 nc ns pc L (.double y :: .double x :: S) f n := by
  intro p e s m args below meth c C ρ0 ρ H locs ls R
  exact lv_ddiv C.hx C.hb hdg hne (k C (R.pos trivial (ok_tl (ok_tl R.okS))))
theorem aw_dcmp {x y : UInt64} {op : CmpOp} (hdg : decode M.2.1 pc = .ok (.dcmp op, 1)) (k : AW l G M fr lo mc ms Post n0 nc ns (pc + 1) L (.int (Op.cmpValue (FP.dcmp x y) op) :: S) f n) : AW l G M fr lo mc ms Post n0 nc ns pc L (.double y :: .double x :: S) f n := by
  intro p e s m args below meth c C ρ0 ρ H locs ls R
  exact lv_dcmp C.hx C.hb hdg (k C (R.pos trivial (ok_tl (ok_tl R.okS))))
theorem aw_lcmp {x y : Int64} (hdg : decode M.2.1 pc = .ok (.lcmp, 1)) (k : AW l G M fr lo mc ms Post n0 nc ns (pc + 1) L (.int (lg_cmp x y) :: S) f n) : AW l G M fr lo mc ms Post n0 nc ns pc L (.long y :: .long x :: S) f n := by
  intro p e s m args below meth c C ρ0 ρ H locs ls R
  exact W.lcmp C.hx C.hb hdg (k C (R.pos trivial (ok_tl (ok_tl R.okS))))
theorem aw_dconst0  (hdg : decode M.2.1 pc = .ok (.dconst 0, 1)) (k : AW l G M fr lo mc ms Post n0 nc ns (pc + 1) L (.double 0 :: S) f n) : AW l G M fr lo mc ms Post n0 nc ns pc L S f n := by
  intro p e s m args below meth c C ρ0 ρ H locs ls R
  exact lv_dconst0 C.hx C.hb hdg (k C (R.pos trivial R.okS))
theorem aw_iconst {z : Int} {v : Int32} (hdg : decode M.2.1 pc = .ok (.iconst z, 1)) (hv : Int32.ofInt z = v) (k : AW l G M fr lo mc ms Post n0 nc ns (pc + 1) L (.int v :: S) f n) : AW l G M fr lo mc ms Post n0 nc ns pc L S f n := by
  intro p e s m args below meth c C ρ0 ρ H locs ls R
  exact lv_iconst C.hx C.hb hdg hv (k C (R.pos trivial R.okS))
theorem aw_bipush {z : Int} {v : Int32} (hdg : decode M.2.1 pc = .ok (.bipush z, 2)) (hv : (Int8.ofInt z).toInt32 = v) (k : AW l G M fr lo mc ms Post n0 nc ns (pc + 2) L (.int v :: S) f n) : AW l G M fr lo mc ms Post n0 nc ns pc L S f n := by
  intro p e s m args below meth c C ρ0 ρ H locs ls R
  exact lv_bipush C.hx C.hb hdg hv (k C (R.pos trivial R.okS))
theorem aw_sipush {z : Int} {v : Int32} (hdg : decode M.2.1 pc = .ok (.sipush z, 3)) (hv : (Int16.ofInt z).toInt32 = v) (k : AW l G M fr lo mc ms Post n0 nc ns (pc + 3) L (.int v :: S) f n) : AW l G M fr lo mc ms Post n0 nc ns pc L S f n := by
  intro p e s m args below meth c C ρ0 ρ H locs ls R
  exact lv_sipush C.hx C.hb hdg hv (k C (R.pos trivial R.okS))
theorem aw_ldc {ix : Nat} {v : Int32} (hw : Cond.constant M.1 ix v ∈ Big) (hdg : decode M.2.1 pc = .ok (.ldc ix, 2)) (k : AW l G M fr lo mc ms Post n0 nc ns (pc + 2) L (.int v :: S) f n) : AW l G M fr lo mc ms Post n0 nc ns pc L S f n := by
  intro p e s m args below meth c C ρ0 ρ H locs ls R
  exact lv_ldc C.hx C.hb C.own (C.ts _ hw) hdg (k C (R.pos trivial R.okS))
theorem aw_ldcw {ix : Nat} {v : Int32} (hw : Cond.constant M.1 ix v ∈ Big) (hdg : decode M.2.1 pc = .ok (.ldc_w ix, 3)) (k : AW l G M fr lo mc ms Post n0 nc ns (pc + 3) L (.int v :: S) f n) : AW l G M fr lo mc ms Post n0 nc ns pc L S f n := by
  intro p e s m args below meth c C ρ0 ρ H locs ls R
  exact lv_ldcw C.hx C.hb C.own (C.ts _ hw) hdg (k C (R.pos trivial R.okS))
theorem aw_iload_n {j : Fin 4} {i : Nat} {x : Int32} (hdg : decode M.2.1 pc = .ok (.iload_n j, 1)) (hi : (j : Nat) = i) (hl : lk L i = some (.int x)) (k : AW l G M fr lo mc ms Post n0 nc ns (pc + 1) L (.int x :: S) f n) : AW l G M fr lo mc ms Post n0 nc ns pc L S f n := by
  intro p e s m args below meth c C ρ0 ρ H locs ls R
  exact lv_iload_n C.hx C.hb hdg hi (R.loc hl) (k C (R.pos trivial R.okS))
theorem aw_iload {i : Nat} {x : Int32} (hdg : decode M.2.1 pc = .ok (.iload i, 2)) (hl : lk L i = some (.int x)) (k : AW l G M fr lo mc ms Post n0 nc ns (pc + 2) L (.int x :: S) f n) : AW l G M fr lo mc ms Post n0 nc ns pc L S f n := by
  intro p e s m args below meth c C ρ0 ρ H locs ls R
  exact lv_iload C.hx C.hb hdg (R.loc hl) (k C (R.pos trivial R.okS))
theorem aw_dload {i : Nat} {x : UInt64} (hdg : decode M.2.1 pc = .ok (.dload i, 2)) (hl : lk L i = some (.double x)) (k : AW l G M fr lo mc ms Post n0 nc ns (pc + 2) L (.double x :: S) f n) : AW l G M fr lo mc ms Post n0 nc ns pc L S f n := by
  intro p e s m args below meth c C ρ0 ρ H locs ls R
  exact lv_dload C.hx C.hb hdg (R.loc hl) (k C (R.pos trivial R.okS))
theorem aw_aload_n {j : Fin 4} {i : Nat} {x : Nat} (hdg : decode M.2.1 pc = .ok (.aload_n j, 1)) (hi : (j : Nat) = i) (hl : lk L i = some (.ref x)) (k : AW l G M fr lo mc ms Post n0 nc ns (pc + 1) L (.ref x :: S) f n) : AW l G M fr lo mc ms Post n0 nc ns pc L S f n := by
  intro p e s m args below meth c C ρ0 ρ H locs ls R
  exact lv_aload_n C.hx C.hb hdg hi (R.loc hl) (k C (R.pos (R.lok hl) R.okS))
theorem aw_aload {i : Nat} {x : Nat} (hdg : decode M.2.1 pc = .ok (.aload i, 2)) (hl : lk L i = some (.ref x)) (k : AW l G M fr lo mc ms Post n0 nc ns (pc + 2) L (.ref x :: S) f n) : AW l G M fr lo mc ms Post n0 nc ns pc L S f n := by
  intro p e s m args below meth c C ρ0 ρ H locs ls R
  exact lv_aload C.hx C.hb hdg (R.loc hl) (k C (R.pos (R.lok hl) R.okS))
theorem aw_aload_nN {j : Fin 4} {i : Nat} (hdg : decode M.2.1 pc = .ok (.aload_n j, 1)) (hi : (j : Nat) = i) (hl : lk L i = some .null) (k : AW l G M fr lo mc ms Post n0 nc ns (pc + 1) L (.null :: S) f n) : AW l G M fr lo mc ms Post n0 nc ns pc L S f n := by
  intro p e s m args below meth c C ρ0 ρ H locs ls R
  exact lv_aload_nN C.hx C.hb hdg hi (R.loc hl) (k C (R.pos trivial R.okS))
theorem aw_aloadN {i : Nat} (hdg : decode M.2.1 pc = .ok (.aload i, 2)) (hl : lk L i = some .null) (k : AW l G M fr lo mc ms Post n0 nc ns (pc + 2) L (.null :: S) f n) : AW l G M fr lo mc ms Post n0 nc ns pc L S f n := by
  intro p e s m args below meth c C ρ0 ρ H locs ls R
  exact lv_aloadN C.hx C.hb hdg (R.loc hl) (k C (R.pos trivial R.okS))
theorem aw_null  (hdg : decode M.2.1 pc = .ok (.aconst_null, 1)) (k : AW l G M fr lo mc ms Post n0 nc ns (pc + 1) L (.null :: S) f n) : AW l G M fr lo mc ms Post n0 nc ns pc L S f n := by
  intro p e s m args below meth c C ρ0 ρ H locs ls R
  exact lv_null C.hx C.hb hdg (k C (R.pos trivial R.okS))
theorem aw_istore_n {j : Fin 4} {i : Nat} {x : Int32} (hdg : decode M.2.1 pc = .ok (.istore_n j, 1)) (hi : (j : Nat) = i) (hn : i < M.2.2.1) (hL : lset L i (.int x) = L') (k : AW l G M fr lo mc ms Post n0 nc ns (pc + 1) L' S f n) : AW l G M fr lo mc ms Post n0 nc ns pc L (.int x :: S) f n := by
  intro p e s m args below meth c C ρ0 ρ H locs ls R
  subst hL
  exact lv_istore_n C.hx C.hb hdg hi R.lv hn rfl (fun ls9 h9 => k C (R.put (ok_hd R.okS) (ok_tl R.okS) h9))
theorem aw_istore {i : Nat} {x : Int32} (hdg : decode M.2.1 pc = .ok (.istore i, 2)) (hn : i < M.2.2.1) (hL : lset L i (.int x) = L') (k : AW l G M fr lo mc ms Post n0 nc ns (pc + 2) L' S f n) : AW l G M fr lo mc ms Post n0 nc ns pc L (.int x :: S) f n := by
  intro p e s m args below meth c C ρ0 ρ H locs ls R
  subst hL
  exact lv_istore C.hx C.hb hdg R.lv hn rfl (fun ls9 h9 => k C (R.put (ok_hd R.okS) (ok_tl R.okS) h9))
theorem aw_astore_n {j : Fin 4} {i : Nat} {x : Nat} (hdg : decode M.2.1 pc = .ok (.astore_n j, 1)) (hi : (j : Nat) = i) (hn : i < M.2.2.1) (hL : lset L i (.ref x) = L') (k : AW l G M fr lo mc ms Post n0 nc ns (pc + 1) L' S f n) : AW l G M fr lo mc ms Post n0 nc ns pc L (.ref x :: S) f n := by
  intro p e s m args below meth c C ρ0 ρ H locs ls R
  subst hL
  exact lv_astore_n C.hx C.hb hdg hi R.lv hn rfl (fun ls9 h9 => k C (R.put (ok_hd R.okS) (ok_tl R.okS) h9))
theorem aw_astore {i : Nat} {x : Nat} (hdg : decode M.2.1 pc = .ok (.astore i, 2)) (hn : i < M.2.2.1) (hL : lset L i (.ref x) = L') (k : AW l G M fr lo mc ms Post n0 nc ns (pc + 2) L' S f n) : AW l G M fr lo mc ms Post n0 nc ns pc L (.ref x :: S) f n := by
  intro p e s m args below meth c C ρ0 ρ H locs ls R
  subst hL
  exact lv_astore C.hx C.hb hdg R.lv hn rfl (fun ls9 h9 => k C (R.put (ok_hd R.okS) (ok_tl R.okS) h9))
theorem aw_astore_nN {j : Fin 4} {i : Nat} (hdg : decode M.2.1 pc = .ok (.astore_n j, 1)) (hi : (j : Nat) = i) (hn : i < M.2.2.1) (hL : lset L i (.null) = L') (k : AW l G M fr lo mc ms Post n0 nc ns (pc + 1) L' S f n) : AW l G M fr lo mc ms Post n0 nc ns pc L (.null :: S) f n := by
  intro p e s m args below meth c C ρ0 ρ H locs ls R
  subst hL
  exact lv_astore_nN C.hx C.hb hdg hi R.lv hn rfl (fun ls9 h9 => k C (R.put (ok_hd R.okS) (ok_tl R.okS) h9))
theorem aw_astoreN {i : Nat} (hdg : decode M.2.1 pc = .ok (.astore i, 2)) (hn : i < M.2.2.1) (hL : lset L i (.null) = L') (k : AW l G M fr lo mc ms Post n0 nc ns (pc + 2) L' S f n) : AW l G M fr lo mc ms Post n0 nc ns pc L (.null :: S) f n := by
  intro p e s m args below meth c C ρ0 ρ H locs ls R
  subst hL
  exact lv_astoreN C.hx C.hb hdg R.lv hn rfl (fun ls9 h9 => k C (R.put (ok_hd R.okS) (ok_tl R.okS) h9))
theorem aw_dstore {i : Nat} {x : UInt64} (hdg : decode M.2.1 pc = .ok (.dstore i, 2)) (hn : i + 1 < M.2.2.1) (hL : lsetD L i (.double x) = L') (k : AW l G M fr lo mc ms Post n0 nc ns (pc + 2) L' S f n) : AW l G M fr lo mc ms Post n0 nc ns pc L (.double x :: S) f n := by
  intro p e s m args below meth c C ρ0 ρ H locs ls R
  subst hL
  exact lv_dstore C.hx C.hb hdg R.lv hn rfl (fun ls9 h9 => k C (R.putD (ok_hd R.okS) (ok_tl R.okS) h9))
theorem aw_iinc {i : Nat} {z : Int} {x v : Int32} (hdg : decode M.2.1 pc = .ok (.iinc i z, 3)) (hl : lk L i = some (.int x)) (hv : x + Int32.ofInt z = v) (hn : i < M.2.2.1) (hL : lset L i (.int v) = L') (k : AW l G M fr lo mc ms Post n0 nc ns (pc + 3) L' S f n) : AW l G M fr lo mc ms Post n0 nc ns pc L S f n := by
  intro p e s m args below meth c C ρ0 ρ H locs ls R
  subst hL
  obtain ⟨k9, hk9⟩ := List.getElem?_of_mem (lk_mem hl)
  exact lv_iinc C.hx C.hb hdg R.lv (k := k9) (by rw [List.getElem?_map, hk9]; rfl) hv hn rfl (fun ls9 h9 => k C (R.put trivial R.okS h9))
theorem aw_dup {v : Value} (hdg : decode M.2.1 pc = .ok (.dup, 1)) (hv : v.category = 1) (k : AW l G M fr lo mc ms Post n0 nc ns (pc + 1) L (v :: v :: S) f n) : AW l G M fr lo mc ms Post n0 nc ns pc L (v :: S) f n := by
  intro p e s m args below meth c C ρ0 ρ H locs ls R
  exact lv_dup C.hx C.hb hdg (by rw [cv_cat]; exact hv) (k C (R.st (ok_cs (ok_hd R.okS) R.okS)))
theorem aw_pop {v : Value} (hdg : decode M.2.1 pc = .ok (.pop, 1)) (hv : v.category = 1) (k : AW l G M fr lo mc ms Post n0 nc ns (pc + 1) L S f n) : AW l G M fr lo mc ms Post n0 nc ns pc L (v :: S) f n := by
  intro p e s m args below meth c C ρ0 ρ H locs ls R
  exact lv_pop C.hx C.hb hdg (by rw [cv_cat]; exact hv) (k C (R.st (ok_tl R.okS)))
theorem aw_dup2 {v w : Value} (hdg : decode M.2.1 pc = .ok (.dup2, 1)) (hv : v.category = 1) (hw : w.category = 1) (k : AW l G M fr lo mc ms Post n0 nc ns (pc + 1) L (v :: w :: v :: w :: S) f n) : AW l G M fr lo mc ms Post n0 nc ns pc L (v :: w :: S) f n := by
  intro p e s m args below meth c C ρ0 ρ H locs ls R
  exact lv_dup2_11 C.hx C.hb hdg (by rw [cv_cat]; exact hv) (by rw [cv_cat]; exact hw) (k C (R.st (ok_cs (ok_hd R.okS) (ok_cs (ok_hd (ok_tl R.okS)) R.okS))))
theorem aw_dup_x1 {v w : Value} (hdg : decode M.2.1 pc = .ok (.dup_x1, 1)) (hv : v.category = 1) (hw : w.category = 1) (k : AW l G M fr lo mc ms Post n0 nc ns (pc + 1) L (v :: w :: v :: S) f n) : AW l G M fr lo mc ms Post n0 nc ns pc L (v :: w :: S) f n := by
  intro p e s m args below meth c C ρ0 ρ H locs ls R
  exact lv_dup_x1 C.hx C.hb hdg (by rw [cv_cat]; exact hv) (by rw [cv_cat]; exact hw) (k C (R.st (ok_cs (ok_hd R.okS) (ok_cs (ok_hd (ok_tl R.okS)) (ok_cs (ok_hd R.okS) (ok_tl (ok_tl R.okS)))))))
theorem aw_if_eq {x : Int32} {off : Int} {tgt : Nat} (hdg : decode M.2.1 pc = .ok (.ifCond .eq off, 3)) (ht : (pc : Int) + off = (tgt : Int)) (kt : x = 0 → AW l G M fr lo mc ms Post n0 nc ns tgt L S f n) (kf : ¬ x = 0 → AW l G M fr lo mc ms Post n0 nc ns (pc + 3) L S f n) : AW l G M fr lo mc ms Post n0 nc ns pc L (.int x :: S) f n := by
  intro p e s m args below meth c C ρ0 ρ H locs ls R
  exact lv_if_eq C.hx C.hb hdg ht (fun h => kt h C (R.st (ok_tl R.okS))) (fun h => kf h C (R.st (ok_tl R.okS)))
theorem aw_icmp_eq {x y : Int32} {off : Int} {tgt : Nat} (hdg : decode M.2.1 pc = .ok (.if_icmp .eq off, 3)) (ht : (pc : Int) + off = (tgt : Int)) (kt : x = y → AW l G M fr lo mc ms Post n0 nc ns tgt L S f n) (kf : ¬ x = y → AW l G M fr lo mc ms Post n0 nc ns (pc + 3) L S f n) : AW l G M fr lo mc ms Post n0 nc ns pc L (.int y :: .int x :: S) f n := by
  intro p e s m args below meth c C ρ0 ρ H locs ls R
  exact lv_icmp_eq C.hx C.hb hdg ht (fun h => kt h C (R.st (ok_tl (ok_tl R.okS)))) (fun h => kf h C (R.st (ok_tl (ok_tl R.okS))))
theorem aw_if_ne {x : Int32} {off : Int} {tgt : Nat} (hdg : decode M.2.1 pc = .ok (.ifCond .ne off, 3)) (ht : (pc : Int) + off = (tgt : Int)) (kt : ¬ x = 0 → AW l G M fr lo mc ms Post n0 nc ns tgt L S f n) (kf : x = 0 → AW l G M fr lo mc ms Post n0 nc ns (pc + 3) L S f n) : AW l G M fr lo mc ms Post n0 nc ns pc L (.int x :: S) f n := by
  intro p e s m args below meth c C ρ0 ρ H locs ls R
  exact lv_if_ne C.hx C.hb hdg ht (fun h => kt h C (R.st (ok_tl R.okS))) (fun h => kf h C (R.st (ok_tl R.okS)))
theorem aw_icmp_ne {x y : Int32} {off : Int} {tgt : Nat} (hdg : decode M.2.1 pc = .ok (.if_icmp .ne off, 3)) (ht : (pc : Int) + off = (tgt : Int)) (kt : ¬ x = y → AW l G M fr lo mc ms Post n0 nc ns tgt L S f n) (kf : x = y → AW l G M fr lo mc ms Post n0 nc ns (pc + 3) L S f n) : AW l G M fr lo mc ms Post n0 nc ns pc L (.int y :: .int x :: S) f n := by
  intro p e s m args below meth c C ρ0 ρ H locs ls R
  exact lv_icmp_ne C.hx C.hb hdg ht (fun h => kt h C (R.st (ok_tl (ok_tl R.okS)))) (fun h => kf h C (R.st (ok_tl (ok_tl R.okS))))
theorem aw_if_lt {x : Int32} {off : Int} {tgt : Nat} (hdg : decode M.2.1 pc = .ok (.ifCond .lt off, 3)) (ht : (pc : Int) + off = (tgt : Int)) (kt : x < 0 → AW l G M fr lo mc ms Post n0 nc ns tgt L S f n) (kf : ¬ x < 0 → AW l G M fr lo mc ms Post n0 nc ns (pc + 3) L S f n) : AW l G M fr lo mc ms Post n0 nc ns pc L (.int x :: S) f n := by
  intro p e s m args below meth c C ρ0 ρ H locs ls R
  exact lv_if_lt C.hx C.hb hdg ht (fun h => kt h C (R.st (ok_tl R.okS))) (fun h => kf h C (R.st (ok_tl R.okS)))
theorem aw_icmp_lt {x y : Int32} {off : Int} {tgt : Nat} (hdg : decode M.2.1 pc = .ok (.if_icmp .lt off, 3)) (ht : (pc : Int) + off = (tgt : Int)) (kt : x < y → AW l G M fr lo mc ms Post n0 nc ns tgt L S f n) (kf : ¬ x < y → AW l G M fr lo mc ms Post n0 nc ns (pc + 3) L S f n) : AW l G M fr lo mc ms Post n0 nc ns pc L (.int y :: .int x :: S) f n := by
  intro p e s m args below meth c C ρ0 ρ H locs ls R
  exact lv_icmp_lt C.hx C.hb hdg ht (fun h => kt h C (R.st (ok_tl (ok_tl R.okS)))) (fun h => kf h C (R.st (ok_tl (ok_tl R.okS))))
theorem aw_if_ge {x : Int32} {off : Int} {tgt : Nat} (hdg : decode M.2.1 pc = .ok (.ifCond .ge off, 3)) (ht : (pc : Int) + off = (tgt : Int)) (kt : 0 ≤ x → AW l G M fr lo mc ms Post n0 nc ns tgt L S f n) (kf : ¬ 0 ≤ x → AW l G M fr lo mc ms Post n0 nc ns (pc + 3) L S f n) : AW l G M fr lo mc ms Post n0 nc ns pc L (.int x :: S) f n := by
  intro p e s m args below meth c C ρ0 ρ H locs ls R
  exact lv_if_ge C.hx C.hb hdg ht (fun h => kt h C (R.st (ok_tl R.okS))) (fun h => kf h C (R.st (ok_tl R.okS)))
theorem aw_icmp_ge {x y : Int32} {off : Int} {tgt : Nat} (hdg : decode M.2.1 pc = .ok (.if_icmp .ge off, 3)) (ht : (pc : Int) + off = (tgt : Int)) (kt : y ≤ x → AW l G M fr lo mc ms Post n0 nc ns tgt L S f n) (kf : ¬ y ≤ x → AW l G M fr lo mc ms Post n0 nc ns (pc + 3) L S f n) : AW l G M fr lo mc ms Post n0 nc ns pc L (.int y :: .int x :: S) f n := by
  intro p e s m args below meth c C ρ0 ρ H locs ls R
  exact lv_icmp_ge C.hx C.hb hdg ht (fun h => kt h C (R.st (ok_tl (ok_tl R.okS)))) (fun h => kf h C (R.st (ok_tl (ok_tl R.okS))))
theorem aw_if_gt {x : Int32} {off : Int} {tgt : Nat} (hdg : decode M.2.1 pc = .ok (.ifCond .gt off, 3)) (ht : (pc : Int) + off = (tgt : Int)) (kt : 0 < x → AW l G M fr lo mc ms Post n0 nc ns tgt L S f n) (kf : ¬ 0 < x → AW l G M fr lo mc ms Post n0 nc ns (pc + 3) L S f n) : AW l G M fr lo mc ms Post n0 nc ns pc L (.int x :: S) f n := by
  intro p e s m args below meth c C ρ0 ρ H locs ls R
  exact lv_if_gt C.hx C.hb hdg ht (fun h => kt h C (R.st (ok_tl R.okS))) (fun h => kf h C (R.st (ok_tl R.okS)))
theorem aw_icmp_gt {x y : Int32} {off : Int} {tgt : Nat} (hdg : decode M.2.1 pc = .ok (.if_icmp .gt off, 3)) (ht : (pc : Int) + off = (tgt : Int)) (kt : y < x → AW l G M fr lo mc ms Post n0 nc ns tgt L S f n) (kf : ¬ y < x → AW l G M fr lo mc ms Post n0 nc ns (pc + 3) L S f n) : AW l G M fr lo mc ms Post n0 nc ns pc L (.int y :: .int x :: S) f n := by
  intro p e s m args below meth c C ρ0 ρ H locs ls R
  exact lv_icmp_gt C.hx C.hb hdg ht (fun h => kt h C (R.st (ok_tl (ok_tl R.okS)))) (fun h => kf h C (R.st (ok_tl (ok_tl R.okS))))
theorem aw_if_le {x : Int32} {off : Int} {tgt : Nat} (hdg : decode M.2.1 pc = .ok (.ifCond .le off, 3)) (ht : (pc : Int) + off = (tgt : Int)) (kt : x ≤ 0 → AW l G M fr lo mc ms Post n0 nc ns tgt L S f n) (kf : ¬ x ≤ 0 → AW l G M fr lo mc ms Post n0 nc ns (pc + 3) L S f n) : AW l G M fr lo mc ms Post n0 nc ns pc L (.int x :: S) f n := by
  intro p e s m args below meth c C ρ0 ρ H locs ls R
  exact lv_if_le C.hx C.hb hdg ht (fun h => kt h C (R.st (ok_tl R.okS))) (fun h => kf h C (R.st (ok_tl R.okS)))
theorem aw_icmp_le {x y : Int32} {off : Int} {tgt : Nat} (hdg : decode M.2.1 pc = .ok (.if_icmp .le off, 3)) (ht : (pc : Int) + off = (tgt : Int)) (kt : x ≤ y → AW l G M fr lo mc ms Post n0 nc ns tgt L S f n) (kf : ¬ x ≤ y → AW l G M fr lo mc ms Post n0 nc ns (pc + 3) L S f n) : AW l G M fr lo mc ms Post n0 nc ns pc L (.int y :: .int x :: S) f n := by
  intro p e s m args below meth c C ρ0 ρ H locs ls R
  exact lv_icmp_le C.hx C.hb hdg ht (fun h => kt h C (R.st (ok_tl (ok_tl R.okS)))) (fun h => kf h C (R.st (ok_tl (ok_tl R.okS))))
theorem aw_goto {off : Int} {tgt : Nat} (hdg : decode M.2.1 pc = .ok (.goto off, 3)) (ht : (pc : Int) + off = (tgt : Int)) (k : AW l G M fr lo mc ms Post n0 nc ns tgt L S f n) : AW l G M fr lo mc ms Post n0 nc ns pc L S f n := by
  intro p e s m args below meth c C ρ0 ρ H locs ls R
  exact lv_goto C.hx C.hb hdg ht (k C R)
theorem aw_tableOut {dflt lo9 hi : Int} {offs : Array Int} {len : Nat} {x : Int32} {tgt : Nat} (hdg : decode M.2.1 pc = .ok (.tableswitch dflt lo9 hi offs, len)) (h : x.toInt < lo9 ∨ hi < x.toInt) (ht : (pc : Int) + dflt = (tgt : Int)) (k : AW l G M fr lo mc ms Post n0 nc ns tgt L S f n) : AW l G M fr lo mc ms Post n0 nc ns pc L (.int x :: S) f n := by
  intro p e s m args below meth c C ρ0 ρ H locs ls R
  exact lv_tableOut C.hx C.hb hdg h ht (k C (R.st (ok_tl R.okS)))
theorem aw_tableIn {dflt lo9 hi : Int} {offs : Array Int} {len : Nat} {x : Int32} {off : Int} {tgt : Nat} (hdg : decode M.2.1 pc = .ok (.tableswitch dflt lo9 hi offs, len)) (h1 : ¬ x.toInt < lo9) (h2 : ¬ hi < x.toInt) (ho : offs[(x.toInt - lo9).toNat]? = some off) (ht : (pc : Int) + off = (tgt : Int)) (k : AW l G M fr lo mc ms Post n0 nc ns tgt L S f n) : AW l G M fr lo mc ms Post n0 nc ns pc L (.int x :: S) f n := by
  intro p e s m args below meth c C ρ0 ρ H locs ls R
  exact lv_tableIn C.hx C.hb hdg h1 h2 ho ht (k C (R.st (ok_tl R.okS)))
theorem aw_lookup {dflt : Int} {ps : Array (Int × Int)} {len : Nat} {x : Int32} {off : Int} {tgt : Nat} (hdg : decode M.2.1 pc = .ok (.lookupswitch dflt ps, len)) (hp : (ps.toList.zip (ps.toList.drop 1)).all (fun (a, next) => a.1 < next.1) = true) (ho : Op.lookupswitch.offset ps.toList dflt x.toInt = off) (ht : (pc : Int) + off = (tgt : Int)) (k : AW l G M fr lo mc ms Post n0 nc ns tgt L S f n) : AW l G M fr lo mc ms Post n0 nc ns pc L (.int x :: S) f n := by
  intro p e s m args below meth c C ρ0 ρ H locs ls R
  exact lv_lookup C.hx C.hb hdg hp ho ht (k C (R.st (ok_tl R.okS)))
theorem aw_ifnonnull {x : Nat} {off : Int} {tgt : Nat} (hdg : decode M.2.1 pc = .ok (.ifnonnull off, 3)) (ht : (pc : Int) + off = (tgt : Int)) (k : AW l G M fr lo mc ms Post n0 nc ns tgt L S f n) : AW l G M fr lo mc ms Post n0 nc ns pc L (.ref x :: S) f n := by
  intro p e s m args below meth c C ρ0 ρ H locs ls R
  exact lv_ifnonnull C.hx C.hb hdg ht (k C (R.st (ok_tl R.okS)))
theorem aw_ifnonnullN {off : Int} (hdg : decode M.2.1 pc = .ok (.ifnonnull off, 3)) (k : AW l G M fr lo mc ms Post n0 nc ns (pc + 3) L S f n) : AW l G M fr lo mc ms Post n0 nc ns pc L (.null :: S) f n := by
  intro p e s m args below meth c C ρ0 ρ H locs ls R
  exact lv_ifnonnullN C.hx C.hb hdg (k C (R.st (ok_tl R.okS)))
/-! fields -/
theorem nilc_o {ci : Nat} {vs : List Value} (h : ci ≠ 99) : (Sum.inr (ci, vs) : va_E) ≠ nilc := fun z => by cases z; exact h rfl
theorem nilc_a {t : Nat} {a : vp_A} : (Sum.inl (t, a) : va_E) ≠ nilc := fun z => by cases z
theorem ci_ne {ci : Nat} {q : vw_C} (h : clW[ci]? = some q) : ci ≠ 99 := fun z => by subst z; cases h
theorem aw_get {ix ci k a : Nat} {vs : List Value} {v : Value} (hF : FL M.1 ix ci k) (hf : f a = .inr (ci, vs)) (hv : vs[k]? = some v) (hdg : decode M.2.1 pc = .ok (.getfield ix, 3)) (k9 : AW l G M fr lo mc ms Post n0 nc ns (pc + 3) L (v :: S) f n) : AW l G M fr lo mc ms Post n0 nc ns pc L (.ref a :: S) f n := by
  intro p e s m args below meth c C ρ0 ρ H locs ls R
  obtain ⟨cC, T, N, h1, h2, h3, h4⟩ := hF
  have hok : vOK n v := by
    have h5 := R.wd.2.2.2.2.2 a
    rw [hf] at h5
    exact h5 v (List.mem_of_getElem? hv)
  exact va_get C.hx C.hb C.ts h2 C.own C.hK R.wd.1 (a - o0) (wl_get R.wd hf (nilc_o (ci_ne h1))) h1 k h3 (C.ts _ h4) (fun _ h => h) (v := cv ρ v) (by rw [List.getElem?_map, hv]; rfl) hdg (k9 C (R.pos hok (ok_tl R.okS)))
theorem map_set {ρ : Nat → Nat} {vs : List Value} {k : Nat} {v : Value} : (vs.map (cv ρ)).set k (cv ρ v) = (vs.set k v).map (cv ρ) := List.map_set.symm
theorem aw_put {ix ci k a : Nat} {vs : List Value} {v : Value} {ty : FieldType} (hF : FP M.1 ix ci k ty) (hf : f a = .inr (ci, vs)) (hn : ∀ ρ, narrow ty (cv ρ v) = cv ρ v) (hfit : ∀ ρ, fits ty (cv ρ v) = true) (hl : k < vs.length) (hdg : decode M.2.1 pc = .ok (.putfield ix, 3)) (k9 : AW l G M fr lo mc ms Post n0 nc ns (pc + 3) L S (va_up f a (.inr (ci, vs.set k v))) n) : AW l G M fr lo mc ms Post n0 nc ns pc L (v :: .ref a :: S) f n := by
  intro p e s m args below meth c C ρ0 ρ H locs ls R
  obtain ⟨cC, T, N, ty0, h1, h2, h3, h4, h5, h6, h7, h8⟩ := hF
  have hne := nilc_o (vs := vs) (ci_ne h1)
  refine va_put C.hx C.hb C.ts h2 ty0 h5 h6 C.own C.hK R.wd.1 R.wd.2.1 R.hS (a - o0) (wl_get R.wd hf hne) h1 k h3 (C.ts _ h4) (fun _ h => h) h7 (v := cv ρ v) h8 (hn ρ) (hfit ρ) (by rw [List.length_map]; exact hl) hdg (fun H1 locs1 hP hD hS => ?_)
  rw [map_set] at hP hD
  have hok : cOK n (.inr (ci, vs.set k v)) := fun x hx => by
    rcases List.mem_or_eq_of_mem_set hx with h | rfl
    · have h9 := R.wd.2.2.2.2.2 a
      rw [hf] at h9
      exact h9 x h
    · exact ok_hd R.okS
  exact k9 C (R.heap (R.wd.set hf hne hok hP hD) hS (ok_tl (ok_tl R.okS)))
theorem aw_putF {ix ci k a : Nat} {vs : List Value} {v : Value} {ty : FieldType} (hF : FF M.1 ix ci k ty) (hin : M.2.2.2.2.2 = "<init>") (hf : f a = .inr (ci, vs)) (hn : ∀ ρ, narrow ty (cv ρ v) = cv ρ v) (hfit : ∀ ρ, fits ty (cv ρ v) = true) (hl : k < vs.length) (hdg : decode M.2.1 pc = .ok (.putfield ix, 3)) (k9 : AW l G M fr lo mc ms Post n0 nc ns (pc + 3) L S (va_up f a (.inr (ci, vs.set k v))) n) : AW l G M fr lo mc ms Post n0 nc ns pc L (v :: .ref a :: S) f n := by
  intro p e s m args below meth c C ρ0 ρ H locs ls R
  obtain ⟨cC, T, N, ty0, h1, h2, h3, h4, h5, h6, h7, h0, h8⟩ := hF
  have hne := nilc_o (vs := vs) (ci_ne h1)
  refine va_putF C.hx C.hb C.ts h2 ty0 h5 h6 C.own C.hK R.wd.1 R.wd.2.1 R.hS (a - o0) (wl_get R.wd hf hne) h1 k h3 (C.ts _ h4) (fun _ h => h) h7 (C.nm.trans hin) h0 (v := cv ρ v) h8 (hn ρ) (hfit ρ) (by rw [List.length_map]; exact hl) hdg (fun H1 locs1 hP hD hS => ?_)
  rw [map_set] at hP hD
  have hok : cOK n (.inr (ci, vs.set k v)) := fun x hx => by
    rcases List.mem_or_eq_of_mem_set hx with h | rfl
    · have h9 := R.wd.2.2.2.2.2 a
      rw [hf] at h9
      exact h9 x h
    · exact ok_hd R.okS
  exact k9 C (R.heap (R.wd.set hf hne hok hP hD) hS (ok_tl (ok_tl R.okS)))
/-! arrays -/
theorem tyK_at {G : GT} (t : Nat) {ty : FieldType} (h : ([.int, .char, .int, .int, .byte, .object RX8, .object RX9] : List FieldType)[t]? = some ty) : (tyK G)[t]? = some (gA G t, ty) := by
  match t, h with
  | 0, h => cases h; rfl
  | 1, h => cases h; rfl
  | 2, h => cases h; rfl
  | 3, h => cases h; rfl
  | 4, h => cases h; rfl
  | 5, h => cases h; rfl
  | 6, h => cases h; rfl
  | _ + 7, h => cases h
theorem aw_alen {a t N : Nat} {x : va_E} {A : vp_A} (ty : FieldType) (hf : f a = .inl (t, A)) (ht : ([.int, .char, .int, .int, .byte, .object RX8, .object RX9] : List FieldType)[t]? = some ty) {v : Int32} (hv : Int32.ofNat A.1 = v) (hdg : decode M.2.1 pc = .ok (.arraylength, 1)) (k : AW l G M fr lo mc ms Post n0 nc ns (pc + 1) L (.int v :: S) f n) : AW l G M fr lo mc ms Post n0 nc ns pc L (.ref a :: S) f n := by
  intro p e s m args below meth c C ρ0 ρ H locs ls R
  have h1 := wl_get R.wd hf nilc_a
  obtain ⟨N9, A9⟩ := A
  rcases A9 with a9 | a9 | a9 | a9 | g
  · exact va_alen C.hx C.hb C.hK R.wd.1 (a - o0) t h1 (tyK_at t ht) hv hdg (k C (R.pos trivial (ok_tl R.okS)))
  · exact va_alen C.hx C.hb C.hK R.wd.1 (a - o0) t h1 (tyK_at t ht) hv hdg (k C (R.pos trivial (ok_tl R.okS)))
  · exact va_alen C.hx C.hb C.hK R.wd.1 (a - o0) t h1 (tyK_at t ht) hv hdg (k C (R.pos trivial (ok_tl R.okS)))
  · exact va_alen C.hx C.hb C.hK R.wd.1 (a - o0) t h1 (tyK_at t ht) hv hdg (k C (R.pos trivial (ok_tl R.okS)))
  · exact va_alen C.hx C.hb C.hK R.wd.1 (a - o0) t h1 (tyK_at t ht) hv hdg (k C (R.pos trivial (ok_tl R.okS)))
theorem aw_iald {a N : Nat} {g : Nat → Int32} {i : Int32} (hf : f a = .inl (0, (N, .inl g))) (hin : vp_in i N) (hdg : decode M.2.1 pc = .ok (.iaload, 1)) (k : AW l G M fr lo mc ms Post n0 nc ns (pc + 1) L (.int (g i.toNatClampNeg) :: S) f n) : AW l G M fr lo mc ms Post n0 nc ns pc L (.int i :: .ref a :: S) f n := by
  intro p e s m args below meth c C ρ0 ρ H locs ls R
  exact va_iald C.hx C.hb C.hK R.wd.1 (a - o0) 0 (wl_get R.wd hf nilc_a) rfl hin hdg (k C (R.pos trivial (ok_tl (ok_tl R.okS))))
theorem aw_iast {a N : Nat} {g : Nat → Int32} {i : Int32} {x : Int32} (hf : f a = .inl (0, (N, .inl g))) (hin : vp_in i N) (hdg : decode M.2.1 pc = .ok (.iastore, 1)) (k : AW l G M fr lo mc ms Post n0 nc ns (pc + 1) L S (va_up f a (.inl (0, (N, .inl (upd g i.toNatClampNeg x))))) n) : AW l G M fr lo mc ms Post n0 nc ns pc L (.int x :: .int i :: .ref a :: S) f n := by
  intro p e s m args below meth c C ρ0 ρ H locs ls R
  refine va_iast C.hx C.hb C.hK R.wd.1 R.wd.2.1 R.hS (a - o0) 0 (wl_get R.wd hf nilc_a) rfl hin hdg (fun H1 locs1 hP hD hS => ?_)
  exact k C (R.heap (R.wd.set hf nilc_a (c := .inl (0, (N, .inl (upd g i.toNatClampNeg x)))) trivial hP hD) hS (ok_tl (ok_tl (ok_tl R.okS))))
theorem aw_cald {a N : Nat} {g : Nat → Int32} {i : Int32} (hf : f a = .inl (1, (N, .inl g))) (hin : vp_in i N) (hdg : decode M.2.1 pc = .ok (.caload, 1)) (k : AW l G M fr lo mc ms Post n0 nc ns (pc + 1) L (.int (g i.toNatClampNeg) :: S) f n) : AW l G M fr lo mc ms Post n0 nc ns pc L (.int i :: .ref a :: S) f n := by
  intro p e s m args below meth c C ρ0 ρ H locs ls R
  exact va_cald C.hx C.hb C.hK R.wd.1 (a - o0) 1 (wl_get R.wd hf nilc_a) rfl hin hdg (k C (R.pos trivial (ok_tl (ok_tl R.okS))))
theorem aw_cast {a N : Nat} {g : Nat → Int32} {i : Int32} {x : Int32} (hf : f a = .inl (1, (N, .inl g))) (hin : vp_in i N) (hdg : decode M.2.1 pc = .ok (.castore, 1)) (k : AW l G M fr lo mc ms Post n0 nc ns (pc + 1) L S (va_up f a (.inl (1, (N, .inl (upd g i.toNatClampNeg (vp_nar .char x)))))) n) : AW l G M fr lo mc ms Post n0 nc ns pc L (.int x :: .int i :: .ref a :: S) f n := by
  intro p e s m args below meth c C ρ0 ρ H locs ls R
  refine va_cast C.hx C.hb C.hK R.wd.1 R.wd.2.1 R.hS (a - o0) 1 (wl_get R.wd hf nilc_a) rfl hin hdg (fun H1 locs1 hP hD hS => ?_)
  exact k C (R.heap (R.wd.set hf nilc_a (c := .inl (1, (N, .inl (upd g i.toNatClampNeg (vp_nar .char x))))) trivial hP hD) hS (ok_tl (ok_tl (ok_tl R.okS))))
theorem aw_bald {a N : Nat} {g : Nat → Int32} {i : Int32} (hf : f a = .inl (4, (N, .inl g))) (hin : vp_in i N) (hdg : decode M.2.1 pc = .ok (.baload, 1)) (k : AW l G M fr lo mc ms Post n0 nc ns (pc + 1) L (.int (g i.toNatClampNeg) :: S) f n) : AW l G M fr lo mc ms Post n0 nc ns pc L (.int i :: .ref a :: S) f n := by
  intro p e s m args below meth c C ρ0 ρ H locs ls R
  exact va_bald C.hx C.hb C.hK R.wd.1 (a - o0) 4 (wl_get R.wd hf nilc_a) rfl hin hdg (k C (R.pos trivial (ok_tl (ok_tl R.okS))))
theorem aw_bast {a N : Nat} {g : Nat → Int32} {i : Int32} {x : Int32} (hf : f a = .inl (4, (N, .inl g))) (hin : vp_in i N) (hdg : decode M.2.1 pc = .ok (.bastore, 1)) (k : AW l G M fr lo mc ms Post n0 nc ns (pc + 1) L S (va_up f a (.inl (4, (N, .inl (upd g i.toNatClampNeg (vp_nar .byte x)))))) n) : AW l G M fr lo mc ms Post n0 nc ns pc L (.int x :: .int i :: .ref a :: S) f n := by
  intro p e s m args below meth c C ρ0 ρ H locs ls R
  refine va_bast C.hx C.hb C.hK R.wd.1 R.wd.2.1 R.hS (a - o0) 4 (wl_get R.wd hf nilc_a) rfl hin hdg (fun H1 locs1 hP hD hS => ?_)
  exact k C (R.heap (R.wd.set hf nilc_a (c := .inl (4, (N, .inl (upd g i.toNatClampNeg (vp_nar .byte x))))) trivial hP hD) hS (ok_tl (ok_tl (ok_tl R.okS))))
theorem cv_rf (ρ : Nat → Nat) (r : Option Nat) : va_rf (r.map ρ) = cv ρ (va_rf r) := by cases r <;> rfl
theorem aw_aald {a t N : Nat} {g : Nat → Option Nat} {i : Int32} (cC : String) (hf : f a = .inl (t, (N, .inr (.inr (.inr (.inr g)))))) (ht : ([.int, .char, .int, .int, .byte, .object RX8, .object RX9] : List FieldType)[t]? = some (.object cC)) (hin : vp_in i N) (hdg : decode M.2.1 pc = .ok (.aaload, 1)) (k : AW l G M fr lo mc ms Post n0 nc ns (pc + 1) L (va_rf (g i.toNatClampNeg) :: S) f n) : AW l G M fr lo mc ms Post n0 nc ns pc L (.int i :: .ref a :: S) f n := by
  intro p e s m args below meth c C ρ0 ρ H locs ls R
  refine va_aldq C.hx C.hb C.hK R.wd.1 (a - o0) t (wl_get R.wd hf nilc_a) (tyK_at t ht) hin hdg ?_
  rw [cv_rf]
  refine k C (R.pos ?_ (ok_tl (ok_tl R.okS)))
  have h5 := R.wd.2.2.2.2.2 a
  rw [hf] at h5
  cases hg : g i.toNatClampNeg with
  | none => trivial
  | some z => exact h5 _ z hg
theorem va_up_map {ρ : Nat → Nat} {g : Nat → Option Nat} {i v : Nat} : (va_up (fun j => (g j).map ρ) i (some (ρ v))) = fun j => ((va_up g i (some v)) j).map ρ := by
  funext j
  by_cases h : j = i
  · subst h; rw [up_self, up_self]; rfl
  · rw [up_ne h, up_ne h]
theorem aw_aast {a N v : Nat} {vs : List Value} {g : Nat → Option Nat} {i : Int32} (hf : f a = .inl (5, (N, .inr (.inr (.inr (.inr g)))))) (hv : f v = .inr (5, vs)) (hin : vp_in i N) (hdg : decode M.2.1 pc = .ok (.aastore, 1)) (k : AW l G M fr lo mc ms Post n0 nc ns (pc + 1) L S (va_up f a (.inl (5, (N, .inr (.inr (.inr (.inr (va_up g i.toNatClampNeg (some v)))))))))  n) : AW l G M fr lo mc ms Post n0 nc ns pc L (.ref v :: .int i :: .ref a :: S) f n := by
  intro p e s m args below meth c C ρ0 ρ H locs ls R
  refine va_astq C.hx C.hb C.hK R.wd.1 R.wd.2.1 R.hS (a - o0) 5 (v - o0) 5 (r := (RX8, TX8, 12)) (wl_get R.wd hf nilc_a) rfl (wl_get R.wd hv (nilc_o (by decide))) rfl hin hdg (fun H1 locs1 hP hD hS => ?_)
  rw [va_up_map] at hP hD
  have hok : cOK n (.inl (5, (N, .inr (.inr (.inr (.inr (va_up g i.toNatClampNeg (some v)))))))) := fun j z hz => by
    have h5 := R.wd.2.2.2.2.2 a
    rw [hf] at h5
    by_cases hj : j = i.toNatClampNeg
    · rw [hj, up_self] at hz
      cases hz
      exact ok_hd R.okS
    · rw [up_ne hj] at hz
      exact h5 j z hz
  exact k C (R.heap (R.wd.set hf nilc_a hok hP hD) hS (ok_tl (ok_tl (ok_tl R.okS))))
/-! what was there before: a field, an array's element, its length, a static, a string -/
theorem old_at {G : GT} {M : MT} {n0 : Nat} {ρ0 ρ : Nat → Nat} {L : List (Nat × Value)} {S : List Value} {f : HT} {n : Nat} {s : State} {H : Heap} {locs : List Loc} {ls : Array Slot} (R : Rel G M n0 ρ0 ρ L S f n s H locs ls) {k : Nat} (hk : k < o0) : ρ k = gO G k := R.wd.2.2.2.2.1 k hk
theorem old_cv {G : GT} {M : MT} {n0 : Nat} {ρ0 ρ : Nat → Nat} {L : List (Nat × Value)} {S : List Value} {f : HT} {n : Nat} {s : State} {H : Heap} {locs : List Loc} {ls : Array Slot} (R : Rel G M n0 ρ0 ρ L S f n s H locs ls) {v : Value} (hv : vOK o0 v) : cv (gO G) v = cv ρ v := by
  cases v <;> try rfl
  exact congrArg Value.ref (old_at R hv).symm
theorem old_ok {G : GT} {M : MT} {n0 : Nat} {ρ0 ρ : Nat → Nat} {L : List (Nat × Value)} {S : List Value} {f : HT} {n : Nat} {s : State} {H : Heap} {locs : List Loc} {ls : Array Slot} (R : Rel G M n0 ρ0 ρ L S f n s H locs ls) {v : Value} (hv : vOK o0 v) : vOK n v := hv.mono R.wd.2.2.1
theorem aw_oget {ix a : Nat} {o9 n9 d9 : String} {v : Value} (hq : (o9, n9, d9, v, a) ∈ wOF) (ha : a < o0) (hv : vOK o0 v) (hl : Cond.fieldLink M.1 ix o9 n9 d9 ∈ Big) (hdg : decode M.2.1 pc = .ok (.getfield ix, 3)) (k : AW l G M fr lo mc ms Post n0 nc ns (pc + 3) L (v :: S) f n) : AW l G M fr lo mc ms Post n0 nc ns pc L (.ref a :: S) f n := by
  intro p e s m args below meth c C ρ0 ρ H locs ls R
  show W _ _ _ _ _ _ _ _ _ _ _ _ _ _ _ (F0 m pc ls (.ref (ρ a) :: S.map (cv ρ)))
  rw [old_at R ha]
  refine vk_getf C.hx C.hb (C.old.1 _ hq) R.hS C.own (C.ts _ hl) (fun _ h => h) hdg ?_
  rw [old_cv R hv]
  exact k C (R.pos (old_ok R hv) (ok_tl R.okS))
theorem aw_gets {ix : Nat} {C9 n9 d9 : String} {v : Value} (hq : (C9, n9, d9, v) ∈ wZ) (hv : vOK o0 v) (hl : Cond.fieldLink M.1 ix C9 n9 d9 ∈ Big) (hdg : decode M.2.1 pc = .ok (.getstatic ix, 3)) (k : AW l G M fr lo mc ms Post n0 nc ns (pc + 3) L (v :: S) f n) : AW l G M fr lo mc ms Post n0 nc ns pc L S f n := by
  intro p e s m args below meth c C ρ0 ρ H locs ls R
  refine va_gets C.hx C.hb (C.old.2.2.2.2.1 _ hq) R.hS C.own (C.ts _ hl) (fun _ h => h) hdg ?_
  rw [old_cv R hv]
  exact k C (R.pos (old_ok R hv) R.okS)
theorem aw_getsN {ix : Nat} {C9 n9 d9 host : String} {v : Value} (hq : (C9, n9, d9, v) ∈ wZ) (hv : vOK o0 v) (hl : Cond.fieldLinkNest M.1 ix C9 n9 d9 host ∈ lw_nest) (hdg : decode M.2.1 pc = .ok (.getstatic ix, 3)) (k : AW l G M fr lo mc ms Post n0 nc ns (pc + 3) L (v :: S) f n) : AW l G M fr lo mc ms Post n0 nc ns pc L S f n := by
  intro p e s m args below meth c C ρ0 ρ H locs ls R
  refine va_getsN C.hx C.hb (C.old.2.2.2.2.1 _ hq) R.hS C.own (va_Nw.use rfl (C.old.2.2.2.2.2.2.2.2.2.1 _ hl)) (fun _ h => h) hdg ?_
  rw [old_cv R hv]
  exact k C (R.pos (old_ok R hv) R.okS)
theorem aw_ldcS {ix a : Nat} {tx : String} (hq : (M.1, ix, tx, a) ∈ wS) (ha : a < o0) (hdg : decode M.2.1 pc = .ok (.ldc ix, 2)) (k : AW l G M fr lo mc ms Post n0 nc ns (pc + 2) L (.ref a :: S) f n) : AW l G M fr lo mc ms Post n0 nc ns pc L S f n := by
  intro p e s m args below meth c C ρ0 ρ H locs ls R
  refine va_ldcS C.hx C.hb C.own (C.old.2.2.2.2.2.2.2.2.1 _ hq) hdg ?_
  have h := k C (e := e) (below := below) (R.pos (v := .ref a) (old_ok R ha) R.okS)
  have e : (Value.ref (gO G a)) = cv ρ (.ref a) := congrArg Value.ref (old_at R ha).symm
  show W _ _ _ _ _ _ _ _ _ _ _ _ _ _ _ (F0 m (pc + 2) ls (.ref (gO G a) :: S.map (cv ρ)))
  rw [e]
  exact h
theorem aw_oiald {a N : Nat} {g : Nat → Value} {i : Int32} {v : Value} (hq : (.int, a, N, g) ∈ wT) (ha : a < o0) (hin : vp_in i N) (hv : g i.toNatClampNeg = v) (hok : vOK o0 v) (hdg : decode M.2.1 pc = .ok (.iaload, 1)) (k : AW l G M fr lo mc ms Post n0 nc ns (pc + 1) L (v :: S) f n) : AW l G M fr lo mc ms Post n0 nc ns pc L (.int i :: .ref a :: S) f n := by
  intro p e s m args below meth c C ρ0 ρ H locs ls R
  show W _ _ _ _ _ _ _ _ _ _ _ _ _ _ _ (F0 m pc ls (.int i :: .ref (ρ a) :: S.map (cv ρ)))
  rw [old_at R ha]
  refine va_ti C.hx C.hb (C.old.2.2.1 _ hq) R.hS hin (v := cv (gO G) v) (congrArg (cv (gO G)) hv) hdg ?_
  rw [old_cv R hok]
  exact k C (R.pos (old_ok R hok) (ok_tl (ok_tl R.okS)))
theorem aw_obald {a N : Nat} {g : Nat → Value} {i : Int32} {v : Value} (hq : (.byte, a, N, g) ∈ wT) (ha : a < o0) (hin : vp_in i N) (hv : g i.toNatClampNeg = v) (hok : vOK o0 v) (hdg : decode M.2.1 pc = .ok (.baload, 1)) (k : AW l G M fr lo mc ms Post n0 nc ns (pc + 1) L (v :: S) f n) : AW l G M fr lo mc ms Post n0 nc ns pc L (.int i :: .ref a :: S) f n := by
  intro p e s m args below meth c C ρ0 ρ H locs ls R
  show W _ _ _ _ _ _ _ _ _ _ _ _ _ _ _ (F0 m pc ls (.int i :: .ref (ρ a) :: S.map (cv ρ)))
  rw [old_at R ha]
  refine va_tb C.hx C.hb (C.old.2.2.1 _ hq) R.hS hin (v := cv (gO G) v) (congrArg (cv (gO G)) hv) hdg ?_
  rw [old_cv R hok]
  exact k C (R.pos (old_ok R hok) (ok_tl (ok_tl R.okS)))
/-- the script -/
theorem aw_sald {i : Int32} (hin : vp_in i (gN G)) (hdg : decode M.2.1 pc = .ok (.iaload, 1)) (k : AW l G M fr lo mc ms Post n0 nc ns (pc + 1) L (.int (gX G i.toNatClampNeg) :: S) f n) : AW l G M fr lo mc ms Post n0 nc ns pc L (.int i :: .ref 0 :: S) f n := by
  intro p e s m args below meth c C ρ0 ρ H locs ls R
  show W _ _ _ _ _ _ _ _ _ _ _ _ _ _ _ (F0 m pc ls (.int i :: .ref (ρ 0) :: S.map (cv ρ)))
  rw [old_at R (by decide)]
  exact va_ti C.hx C.hb C.old.2.2.2.1 R.hS hin rfl hdg (k C (R.pos trivial (ok_tl (ok_tl R.okS))))
theorem aw_slen (hdg : decode M.2.1 pc = .ok (.arraylength, 1)) (k : AW l G M fr lo mc ms Post n0 nc ns (pc + 1) L (.int (Int32.ofNat (gN G)) :: S) f n) : AW l G M fr lo mc ms Post n0 nc ns pc L (.ref 0 :: S) f n := by
  intro p e s m args below meth c C ρ0 ρ H locs ls R
  show W _ _ _ _ _ _ _ _ _ _ _ _ _ _ _ (F0 m pc ls (.ref (ρ 0) :: S.map (cv ρ)))
  rw [old_at R (by decide)]
  exact va_tlen C.hx C.hb C.old.2.2.2.1 R.hS rfl hdg (k C (R.pos trivial (ok_tl R.okS)))
theorem aw_olen {a N : Nat} {ty : FieldType} {g : Nat → Value} {v : Int32} (hq : (ty, a, N, g) ∈ wT) (ha : a < o0) (hv : Int32.ofNat N = v) (hdg : decode M.2.1 pc = .ok (.arraylength, 1)) (k : AW l G M fr lo mc ms Post n0 nc ns (pc + 1) L (.int v :: S) f n) : AW l G M fr lo mc ms Post n0 nc ns pc L (.ref a :: S) f n := by
  intro p e s m args below meth c C ρ0 ρ H locs ls R
  show W _ _ _ _ _ _ _ _ _ _ _ _ _ _ _ (F0 m pc ls (.ref (ρ a) :: S.map (cv ρ)))
  rw [old_at R ha]
  exact va_tlen C.hx C.hb (C.old.2.2.1 _ hq) R.hS hv hdg (k C (R.pos trivial (ok_tl R.okS)))
/-! making -/
theorem aw_new {ix ci : Nat} {fs : List Value} (hF : FN M.1 ix ci fs) (hok : ∀ v ∈ fs, vOK 0 v) (hc : nc + 1 ≤ mc) (hs : ns + fs.length ≤ ms) (hdg : decode M.2.1 pc = .ok (.new ix, 3)) (k : AW l G M fr lo mc ms Post n0 (nc + 1) (ns + fs.length) (pc + 3) L (.ref n :: S) (va_up f n (.inr (ci, fs))) (n + 1)) : AW l G M fr lo mc ms Post n0 nc ns pc L S f n := by
  intro p e s m args below meth c C ρ0 ρ H locs ls R
  obtain ⟨cC, T, N, ty0, h1, h2, h3, h4, h5, h6, h7, h8⟩ := hF
  subst h8
  refine va_new C.hx C.hb C.ts h2 ty0 h3 C.own (C.ts _ h4) (C.ts _ h5) (C.ts _ h6) C.hK R.wd.1 R.wd.2.1 R.hS C.new h1 (fs := fs) h7 hc hs hdg (fun q H1 hP hD hS => ?_)
  have hup : ∀ j, j < n → va_up ρ n q j = ρ j := fun j hj => up_ne (Nat.ne_of_lt hj)
  have hfs : fs = fs.map (cv (va_up ρ n q)) := by
    refine (List.map_id fs).symm.trans (List.map_congr_left fun v hv => ?_)
    have h9 := hok v hv
    cases v <;> first | rfl | exact absurd h9 (Nat.not_lt_zero _)
  have hc9 : cOK (n + 1) (.inr (ci, fs)) := fun v hv => (hok v hv).mono (Nat.zero_le _)
  have hP9 : va_P (gD G) clW (wl (gA G) ρ n f ++ [(q, cA (gA G) (va_up ρ n q) (.inr (ci, fs)))]) H1 := by
    show va_P (gD G) clW (wl (gA G) ρ n f ++ [(q, .inr (ci, fs.map (cv (va_up ρ n q))))]) H1
    rw [← hfs]; exact hP
  have hD9 : va_D (gF G) (wl (gA G) ρ n f ++ [(q, cA (gA G) (va_up ρ n q) (.inr (ci, fs)))]) := by
    show va_D (gF G) (wl (gA G) ρ n f ++ [(q, .inr (ci, fs.map (cv (va_up ρ n q))))])
    rw [← hfs]; exact hD
  have hw := R.wd.push hc9 hP9 hD9
  have hSm : (S.map (cv (va_up ρ n q))) = S.map (cv ρ) := cvs_ext hup R.okS
  have hLm : L.map (fun x => (x.1, cv (va_up ρ n q) x.2)) = L.map (fun x => (x.1, cv ρ x.2)) := cvl_ext hup R.okL
  have h := k C (e := e) (below := below) (ρ0 := ρ0) (ρ := va_up ρ n q) (H := H1) (locs := locs) (ls := ls) ⟨Nat.le_succ_of_le R.1, fun j hj => (hup j (Nat.lt_of_lt_of_le hj R.1)).trans (R.2.1 j hj), hw, fun x hx => (R.okL x hx).mono (Nat.le_succ n), fun x hx => by
    rcases List.mem_cons.mp hx with rfl | hx
    · exact Nat.lt_succ_self n
    · exact (R.okS x hx).mono (Nat.le_succ n), hS, by rw [hLm]; exact R.lv⟩
  have e : ((Value.ref n :: S).map (cv (va_up ρ n q))) = .ref q :: S.map (cv ρ) := by
    rw [List.map_cons, hSm]
    show Value.ref (va_up ρ n q n) :: _ = _
    rw [up_self]
  rw [e] at h
  exact h
/-- a new array: what every kind has in common -/
theorem aw_made {q : Nat} {H1 : Heap} {cE : va_E} {pc' nc' ns' : Nat} (hcE : cOK 0 cE) (hcm : ∀ ρ, cA (gA G) ρ cE = cA (gA G) id cE) (k : AW l G M fr lo mc ms Post n0 nc' ns' pc' L (.ref n :: S) (va_up f n cE) (n + 1))
    {p : Program} {e : Env} {s : State} {m : MethodId} {args : Array Value} {below : List Frame} {meth : Method} {c : Code} (C : MC l G M p s m args meth c) {ρ0 ρ : Nat → Nat} {H : Heap} {locs : List Loc} {ls : Array Slot} {S9 : List Value} (R : Rel G M n0 ρ0 ρ L S9 f n s H locs ls) (hS9 : ∀ v ∈ S, v ∈ S9)
    (hP : va_P (gD G) clW (wl (gA G) ρ n f ++ [(q, cA (gA G) id cE)]) H1) (hD : va_D (gF G) (wl (gA G) ρ n f ++ [(q, cA (gA G) id cE)])) (hS : va_S (gF G) s.heap H1 locs) :
    W p l e (rmA fr lo mc ms) s m args below meth c H1 locs nc' ns' (vx_MQ below (QcA G n0 ρ0 Post) (XCA G n0 ρ0 Post) args s mc ms (gF G)) (F0 m pc' ls (.ref q :: S.map (cv ρ))) := by
  have hup : ∀ j, j < n → va_up ρ n q j = ρ j := fun j hj => up_ne (Nat.ne_of_lt hj)
  rw [← hcm (va_up ρ n q)] at hP hD
  have hw := R.wd.push (hcE.mono (Nat.zero_le _)) hP hD
  have hokS : ∀ v ∈ S, vOK n v := fun v hv => R.okS v (hS9 v hv)
  have hSm : (S.map (cv (va_up ρ n q))) = S.map (cv ρ) := cvs_ext hup hokS
  have hLm : L.map (fun x => (x.1, cv (va_up ρ n q) x.2)) = L.map (fun x => (x.1, cv ρ x.2)) := cvl_ext hup R.okL
  have h := k C (e := e) (below := below) (ρ0 := ρ0) (ρ := va_up ρ n q) (H := H1) (locs := locs) (ls := ls) ⟨Nat.le_succ_of_le R.1, fun j hj => (hup j (Nat.lt_of_lt_of_le hj R.1)).trans (R.2.1 j hj), hw, fun x hx => (R.okL x hx).mono (Nat.le_succ n), fun x hx => by
    rcases List.mem_cons.mp hx with rfl | hx
    · exact Nat.lt_succ_self n
    · exact (hokS x hx).mono (Nat.le_succ n), hS, by rw [hLm]; exact R.lv⟩
  have e9 : ((Value.ref n :: S).map (cv (va_up ρ n q))) = .ref q :: S.map (cv ρ) := by
    rw [List.map_cons, hSm]
    show Value.ref (va_up ρ n q n) :: _ = _
    rw [up_self]
  rw [e9] at h
  exact h
theorem aw_newa_int {z : Int32} {N : Nat} (hn : ¬ z < 0) (hN : z.toNatClampNeg = N) (hb9 : N * componentBytes .int ≤ 536870912) (hc : nc + 1 ≤ mc) (hs : ns + N ≤ ms) (hdg : decode M.2.1 pc = .ok (.newarray .int, 2)) (k : AW l G M fr lo mc ms Post n0 (nc + 1) (ns + N) (pc + 2) L (.ref n :: S) (va_up f n (.inl (0, (N, .inl (fun _ => 0))))) (n + 1)) : AW l G M fr lo mc ms Post n0 nc ns pc L (.int z :: S) f n := by
  intro p e s m args below meth c C ρ0 ρ H locs ls R
  refine va_newa (atype := .int) (ty := .int) (a0 := (N, .inl (fun _ => 0))) C.hx C.hb (C.ts _ kA_int) rfl C.hK R.wd.1 R.wd.2.1 R.hS C.new (fun cA => rfl) hn hN hb9 hc hs hdg (fun q cA H1 hK1 hP hD hS => ?_)
  have h1 := (hK1.2 7 (cA, .int) rfl).2
  have h2 := (C.hK.2 0 (gA G 0, .int) rfl).2
  have h3 : cA = gA G 0 := Option.some.inj (h1.symm.trans h2)
  subst h3
  exact aw_made (cE := .inl (0, (N, .inl (fun _ => 0)))) trivial (fun _ => rfl) k C R (fun v hv => List.mem_cons_of_mem _ hv) hP hD hS
theorem aw_newa_char {z : Int32} {N : Nat} (hn : ¬ z < 0) (hN : z.toNatClampNeg = N) (hb9 : N * componentBytes .char ≤ 536870912) (hc : nc + 1 ≤ mc) (hs : ns + N ≤ ms) (hdg : decode M.2.1 pc = .ok (.newarray .char, 2)) (k : AW l G M fr lo mc ms Post n0 (nc + 1) (ns + N) (pc + 2) L (.ref n :: S) (va_up f n (.inl (1, (N, .inl (fun _ => 0))))) (n + 1)) : AW l G M fr lo mc ms Post n0 nc ns pc L (.int z :: S) f n := by
  intro p e s m args below meth c C ρ0 ρ H locs ls R
  refine va_newa (atype := .char) (ty := .char) (a0 := (N, .inl (fun _ => 0))) C.hx C.hb (C.ts _ kA_char) rfl C.hK R.wd.1 R.wd.2.1 R.hS C.new (fun cA => rfl) hn hN hb9 hc hs hdg (fun q cA H1 hK1 hP hD hS => ?_)
  have h1 := (hK1.2 7 (cA, .char) rfl).2
  have h2 := (C.hK.2 1 (gA G 1, .char) rfl).2
  have h3 : cA = gA G 1 := Option.some.inj (h1.symm.trans h2)
  subst h3
  exact aw_made (cE := .inl (1, (N, .inl (fun _ => 0)))) trivial (fun _ => rfl) k C R (fun v hv => List.mem_cons_of_mem _ hv) hP hD hS
theorem aw_newa_byte {z : Int32} {N : Nat} (hn : ¬ z < 0) (hN : z.toNatClampNeg = N) (hb9 : N * componentBytes .byte ≤ 536870912) (hc : nc + 1 ≤ mc) (hs : ns + N ≤ ms) (hdg : decode M.2.1 pc = .ok (.newarray .byte, 2)) (k : AW l G M fr lo mc ms Post n0 (nc + 1) (ns + N) (pc + 2) L (.ref n :: S) (va_up f n (.inl (4, (N, .inl (fun _ => 0))))) (n + 1)) : AW l G M fr lo mc ms Post n0 nc ns pc L (.int z :: S) f n := by
  intro p e s m args below meth c C ρ0 ρ H locs ls R
  refine va_newa (atype := .byte) (ty := .byte) (a0 := (N, .inl (fun _ => 0))) C.hx C.hb (C.ts _ kA_byte) rfl C.hK R.wd.1 R.wd.2.1 R.hS C.new (fun cA => rfl) hn hN hb9 hc hs hdg (fun q cA H1 hK1 hP hD hS => ?_)
  have h1 := (hK1.2 7 (cA, .byte) rfl).2
  have h2 := (C.hK.2 4 (gA G 4, .byte) rfl).2
  have h3 : cA = gA G 4 := Option.some.inj (h1.symm.trans h2)
  subst h3
  exact aw_made (cE := .inl (4, (N, .inl (fun _ => 0)))) trivial (fun _ => rfl) k C R (fun v hv => List.mem_cons_of_mem _ hv) hP hD hS
theorem aw_newaq {ix t : Nat} {z : Int32} {N : Nat} (cC : String) (hcl : Cond.classLink M.1 ix cC ∈ Big) (hAO : ∀ U : State, (va_AO RX8 U ∧ va_AO RX9 U) → va_AO cC U) (ht : ([.int, .char, .int, .int, .byte, .object RX8, .object RX9] : List FieldType)[t]? = some (.object cC)) (hn : ¬ z < 0) (hN : z.toNatClampNeg = N) (hb9 : N * 4 ≤ 536870912) (hc : nc + 1 ≤ mc) (hs : ns + N ≤ ms) (hdg : decode M.2.1 pc = .ok (.anewarray ix, 3))
    (k : AW l G M fr lo mc ms Post n0 (nc + 1) (ns + N) (pc + 3) L (.ref n :: S) (va_up f n (.inl (t, (N, .inr (.inr (.inr (.inr (fun _ => none)))))))) (n + 1)) : AW l G M fr lo mc ms Post n0 nc ns pc L (.int z :: S) f n := by
  intro p e s m args below meth c C ρ0 ρ H locs ls R
  refine va_newq C.hx C.hb C.own (C.ts _ hcl) (hAO s C.old.2.2.2.2.2.2.2.2.2.2.1) C.hK R.wd.1 R.wd.2.1 R.hS C.new hn hN hb9 hc hs hdg (fun q cA H1 hK1 hP hD hS => ?_)
  obtain ⟨k1, k2, -, -, -, h1⟩ := (hK1.2 7 (cA, .object cC) rfl).2
  obtain ⟨k3, k4, -, -, -, h2⟩ := (C.hK.2 t (gA G t, .object cC) (tyK_at t ht)).2
  have h3 : cA = gA G t := Option.some.inj (h1.symm.trans h2)
  subst h3
  exact aw_made (cE := .inl (t, (N, .inr (.inr (.inr (.inr (fun _ => none))))))) (fun _ _ h => by cases h) (fun _ => rfl) k C R (fun v hv => List.mem_cons_of_mem _ hv) hP hD hS
theorem aw_objInit {ix a : Nat} (hl : Cond.methodLink M.1 ix objectInit ∈ Big) (hfr : 1 ≤ fr) (hlo : (S.map fun v => v.category).sum + 12 ≤ lo) (hdg : decode M.2.1 pc = .ok (.invokespecial ix, 3)) (k : AW l G M fr lo mc ms Post n0 nc ns (pc + 3) L S f n) : AW l G M fr lo mc ms Post n0 nc ns pc L (.ref a :: S) f n := by
  intro p e s m args below meth c C ρ0 ρ H locs ls R
  have hcat : ((S.map (cv ρ)).map fun v => v.category).sum = (S.map fun v => v.category).sum := by rw [List.map_map]; congr 1; exact List.map_congr_left fun v _ => cv_cat ρ v
  refine W.objInit C.hx C.hb C.own (C.ts _ hl) (C.ts _ k_objInst) (C.ts _ k_objCode) (g := F0 m pc ls (.ref (ρ a) :: S.map (cv ρ))) rfl (by rw [C.hml]; exact R.lv.1) rfl hdg hfr ?_ ?_
  · show 0 + ((S.map (cv ρ)).map fun v => v.category).sum + 12 ≤ lo
    rw [hcat]; omega
  · exact k C (R.st (ok_tl R.okS))
/-! the end -/
theorem qc_ret {r : Option Value} {p : Program} {s : State} {m : MethodId} {args : Array Value} {meth : Method} {c : Code} {ρ0 ρ : Nat → Nat} {H : Heap} {locs : List Loc} {ls : Array Slot} (C : MC l G M p s m args meth c) (R : Rel G M n0 ρ0 ρ L S f n s H locs ls) (hr : ∀ v, r = some v → vOK n v) (hP : Post (.inl r) f n) {t : State} (ht : t.heap = H) : QcA G n0 ρ0 Post args s (.returned (r.map (cv ρ))) t :=
  ⟨⟨r, ρ, f, n, rfl, R.1, R.2.1, by rw [ht]; exact R.wd, hr, hP⟩, R.hS.F ht⟩
theorem aw_iret {v : Int32} (hr : M.2.2.2.1 = some .int) (hc : nc ≤ mc) (hs : ns ≤ ms) (hdg : decode M.2.1 pc = .ok (.ireturn, 1)) (hP : Post (.inl (some (.int v))) f n) : AW l G M fr lo mc ms Post n0 nc ns pc L [.int v] f n := by
  intro p e s m args below meth c C ρ0 ρ H locs ls R
  exact W.widen hc hs (vx_ret (W.iret C.hx C.hb (C.hr.trans hr) (fun t ht _ => qc_ret (r := some (.int v)) C R (fun _ h => by cases h; trivial) hP ht) R.hS.2.2 hdg C.locks))
theorem aw_zret {v : Int32} {ty : FieldType} (hr : M.2.2.2.1 = some ty) (hn : narrow ty (.int v) = .int v) (hc : nc ≤ mc) (hs : ns ≤ ms) (hdg : decode M.2.1 pc = .ok (.ireturn, 1)) (hP : Post (.inl (some (.int v))) f n) : AW l G M fr lo mc ms Post n0 nc ns pc L [.int v] f n := by
  intro p e s m args below meth c C ρ0 ρ H locs ls R
  exact W.widen hc hs (vx_ret (W.zret C.hx C.hb (C.hr.trans hr) hn (fun t ht _ => qc_ret (r := some (.int v)) C R (fun _ h => by cases h; trivial) hP ht) R.hS.2.2 hdg C.locks))
theorem aw_vret (hr : M.2.2.2.1 = none) (hc : nc ≤ mc) (hs : ns ≤ ms) (hdg : decode M.2.1 pc = .ok (.return_, 1)) (hP : Post (.inl none) f n) : AW l G M fr lo mc ms Post n0 nc ns pc L [] f n := by
  intro p e s m args below meth c C ρ0 ρ H locs ls R
  exact W.widen hc hs (vx_ret (W.vret C.hx C.hb (C.hr.trans hr) (fun t ht _ => qc_ret (r := none) C R (fun _ h => by cases h) hP ht) R.hS.2.2 hdg C.locks))
theorem aw_dret {v : UInt64} (hr : M.2.2.2.1 = some .double) (hc : nc ≤ mc) (hs : ns ≤ ms) (hdg : decode M.2.1 pc = .ok (.dreturn, 1)) (hP : Post (.inl (some (.double v))) f n) : AW l G M fr lo mc ms Post n0 nc ns pc L [.double v] f n := by
  intro p e s m args below meth c C ρ0 ρ H locs ls R
  exact W.widen hc hs (vx_ret (W.dret C.hx C.hb (C.hr.trans hr) (fun t ht _ => qc_ret (r := some (.double v)) C R (fun _ h => by cases h; trivial) hP ht) R.hS.2.2 hdg C.locks))
theorem aw_aret {v : Value} {rt : FieldType} (hr : M.2.2.2.1 = some rt) (hrt : (∃ n, rt = .object n) ∨ ∃ t, rt = .array t) (hv : v = .null ∨ ∃ a, v = .ref a) (hc : nc ≤ mc) (hs : ns ≤ ms) (hdg : decode M.2.1 pc = .ok (.areturn, 1)) (hP : Post (.inl (some v)) f n) : AW l G M fr lo mc ms Post n0 nc ns pc L [v] f n := by
  intro p e s m args below meth c C ρ0 ρ H locs ls R
  have hv9 : cv ρ v = .null ∨ ∃ a, cv ρ v = .ref a := by
    rcases hv with rfl | ⟨a, rfl⟩
    · exact Or.inl rfl
    · exact Or.inr ⟨_, rfl⟩
  exact W.widen hc hs (vx_ret (W.aret C.hx C.hb (C.hr.trans hr) hrt hv9 (fun t ht _ => qc_ret (r := some v) C R (fun _ h => by cases h; exact ok_hd R.okS) hP ht) R.hS.2.2 hdg C.locks))
/-- throw new E("text") in a method without handlers -/
theorem aw_throw {ik is ic : Nat} {cls tx : String} {names : List String} (hh : M.2.2.2.2.1 = []) (hcls : Bundle.fit cls = true) (hnames : ∀ n ∈ names, Bundle.fit n = true) (hk : Cond.classLink M.1 ik cls ∈ Big) (hini : Cond.initialized cls ∈ Big) (htx : (M.1, is, tx) ∈ wR) (hat : ∀ w ∈ vx_atS M.1 ic cls names, w ∈ lw_tbl) (hat9 : ∀ w ∈ vx_atS M.1 ic cls names, goodWord w = true)
    (d0 : decode M.2.1 pc = .ok (.new ik, 3)) (d3 : decode M.2.1 (pc + 3) = .ok (.dup, 1)) (d4 : decode M.2.1 (pc + 4) = .ok (.ldc is, 2)) (d6 : decode M.2.1 (pc + 6) = .ok (.invokespecial ic, 3)) (d9 : decode M.2.1 (pc + 9) = .ok (.athrow, 1))
    (hfr : names.length + 3 < fr) (hlo : (S.map fun v => v.category).sum + (13 * (names.length + 1) + 43) ≤ lo) (hc : nc + 1 ≤ mc) (hs : ns + 6 ≤ ms) (hP : Post (.inr cls) f n) : AW l G M fr lo mc ms Post n0 nc ns pc L S f n := by
  intro p e s m args below meth c C ρ0 ρ H locs ls R
  obtain ⟨sa, hsa⟩ := C.old.2.2.2.2.2.2.2.1 _ htx
  have hcat : ((S.map (cv ρ)).map fun v => v.category).sum = (S.map fun v => v.category).sum := by rw [List.map_map]; congr 1; exact List.map_congr_left fun v _ => cv_cat ρ v
  have hB : ∀ w ∈ vx_atS M.1 ic cls names, w ∈ Big := fun w hw => List.mem_filter.mpr ⟨hat w hw, hat9 w hw⟩
  refine vx_throwS (ik := ik) (is := is) (ic := ic) (cls := cls) (text := tx) (names := names) (sa := sa) (A := gF G) (mc := mc) (ms := ms) C.hx C.hb C.tr C.own hcls hnames (C.ts _ hk) (C.ts _ hini) hsa (fun w hw => C.ts _ (hB w hw)) (fun w hw => ?_) C.old.2.2.2.2.2.1.1 C.old.2.2.2.2.2.1.2 R.hS (by rw [C.hml]; exact R.lv.1) d0 d3 d4 d6 d9 (fun x hx => ?_) hfr (by rw [hcat]; exact hlo) hc hs C.locks ?_ R.hS.2.2 hc hs
  · rcases List.mem_cons.mp hw with rfl | hw
    · unfold vx_ot; rw [big_good _ hk]; exact Bool.or_true _
    · rcases List.mem_cons.mp hw with rfl | hw
      · unfold vx_ot; rw [big_good _ hini]; exact Bool.or_true _
      · unfold vx_ot; rw [hat9 w hw]; exact Bool.or_true _
  · rw [C.tab, hh] at hx; cases hx
  · intro t hal hz hk9
    refine ⟨⟨ρ, f, n, R.1, R.2.1, ?_, hP⟩, Nat.le_trans R.hS.1 hz, fun q hq hA => ?_⟩
    · exact ⟨R.wd.1.kept fun k q hq => hk9 q.1 (R.wd.1 k q hq).lt, R.wd.2⟩
    · rw [hk9 q (Nat.lt_of_lt_of_le hq R.hS.1)]
      exact R.hS.2.1 q hq hA
/-! a method's contract; its entry; its calls -/
def PcA (G : GT) (ρ : Nat → Nat) (as : List Value) (f : HT) (n : Nat) : Array Value → State → Prop := fun v U =>
  v = (as.map (cv ρ)).toArray ∧ Wd G ρ n f U.heap ∧ (∀ v ∈ as, vOK n v) ∧ va_K (gD G) clW (tyK G) U ∧ OldA G U U.heap ∧ gZ G ≤ U.heap.size
def AM (l : Launch) (G : GT) (y : MethodName) (hw : Cond) (fr lo mc ms : Nat) (as : List Value) (f : HT) (n : Nat) (Post : PT) : Prop :=
  l.stackTraces = false → ∀ ρ : Nat → Nat, vx_Met l y (hw :: Big) (rmA fr lo mc ms) (PcA G ρ as f n) (QcA G n ρ Post) (XCA G n ρ Post) mc ms (gF G)
theorem PcA.blind {ρ : Nat → Nat} {as : List Value} : FrameBlind (PcA G ρ as f n) := fun a U g mk h => by
  obtain ⟨h1, h2, h3, h4, h5, h6⟩ := h
  exact ⟨h1, h2, h3, va_K.moved (u := U) (U := U.calling g mk a) (Vm.Alike.refl U.vm) h4, OldA.warm (s := U) (U := U.calling g mk a) (State.WarmedH.refl U) h5, h6⟩
theorem sl_len (ρ : Nat → Nat) (as : List Value) : (lg_sl (as.map (cv ρ))).length = (lg_sl as).length := by
  induction as with
  | nil => rfl
  | cons v vs ih =>
    simp only [lg_sl, List.map_cons, List.flatMap_cons, List.length_append, cv_cat] at ih ⊢
    rw [ih]
    split <;> rfl
theorem args_map (ρ : Nat → Nat) (as : List Value) : ∀ i, lv_args i (as.map (cv ρ)) = (lv_args i as).map fun q => (q.1, cv ρ q.2) := by
  induction as with
  | nil => intro i; rfl
  | cons v vs ih =>
    intro i
    simp only [List.map_cons, lv_args, cv_cat]
    rw [ih]
theorem args_mem {as : List Value} : ∀ (i : Nat) (q : Nat × Value), q ∈ lv_args i as → q.2 ∈ as := by
  induction as with
  | nil => intro i q h; cases h
  | cons v vs ih =>
    intro i q h
    simp only [lv_args] at h
    rcases List.mem_cons.mp h with rfl | h
    · exact List.mem_cons_self
    · exact List.mem_cons_of_mem _ (ih _ q h)
theorem aw_ctx {y : MethodName} {hw : Cond} {as : List Value} {ρ : Nat → Nat} {p : Program} {e : Env} {s : State} {m : MethodId} {args : Array Value} {below : List Frame} {meth : Method} {c : Code} {s₁ : State} (htr : l.stackTraces = false) (hcls : y.cls = M.1) (hnm : y.name = M.2.2.2.2.2)
    (B : BodyLoose p l y (headSpec (hw :: Big) (rmA fr lo mc ms)) M.2.1 M.2.2.1 M.2.2.2.1 e s m args below meth c s₁) (hml : c.maxLocals = M.2.2.1) (htab : c.exceptionTable.toList = M.2.2.2.2.1) (hv : PcA G ρ as f n args s) : MC l G M p s m args meth c :=
  ⟨B.exec, B.bytes, hml, hcls ▸ findClass_of_methodNamed B.named, fun w hm => atoms_spec (ws := hw :: Big) B.pre w (List.mem_cons_of_mem _ hm), hv.2.2.2.1, B.returns, B.notSynchronized, htab, (name_of_methodNamed B.named B.method).1.trans hnm, htr, hv.2.2.2.2.2, hv.2.2.2.2.1⟩
theorem aw_rel {as : List Value} {ρ : Nat → Nat} {s : State} {args : Array Value} (hv : PcA G ρ as f n args s) (hl : (lg_sl as).length ≤ M.2.2.1) : Rel G M n ρ ρ (lv_args 0 as) [] f n s s.heap [] ((lg_sl (as.map (cv ρ)) ++ List.replicate (M.2.2.1 - (lg_sl (as.map (cv ρ))).length) Slot.unset).toArray) :=
  by
    refine ⟨Nat.le_refl _, fun _ _ => rfl, hv.2.1, fun q hq => hv.2.2.1 _ (args_mem 0 q hq), ?_, va_S.rf, ?_⟩
    · intro v h; cases h
    · rw [← args_map]; exact lv_entry _ (by rw [sl_len]; exact hl)
theorem aw_enter {y : MethodName} {as : List Value} (hcls : y.cls = M.1) (hnm : y.name = M.2.2.2.2.2) (hpl : plainName y.cls = true) (hh : M.2.2.2.2.1 = []) (hl : (lg_sl as).length ≤ M.2.2.1) (h : AW l G M fr lo mc ms Post n 0 0 0 (lv_args 0 as) [] f n) : AM l G y (.code y M.2.1 M.2.2.1 M.2.2.2.1) fr lo mc ms as f n Post := by
  intro htr ρ
  refine vx_ofW (cc := M.2.1) (maxL := M.2.2.1) (ret := M.2.2.2.1) hpl rfl ?_
  intro p e s m args below meth c s₁ B hml ht hv
  have htab : c.exceptionTable.toList = M.2.2.2.2.1 := by
    rw [hh]
    cases hx : c.exceptionTable.toList with
    | nil => rfl
    | cons x xs => exact (ht x (by rw [hx]; exact List.mem_cons_self)).elim
  have C : MC l G M p s m args meth c := aw_ctx htr hcls hnm B hml htab hv
  have hv9 := hv.1
  subst hv9
  rw [lg_entry_eq]
  exact h C (aw_rel hv hl)
/-- what a call says -/
def CR (l : Launch) (G : GT) (M : MT) (fr lo : Nat) (mc ms : Nat) (n0 nc ns pc : Nat) (L : List (Nat × Value)) (st rest : List Value) (f : HT) (n mc' ms' : Nat) (Post' : PT) : Prop :=
  ∀ ⦃p : Program⦄ ⦃e : Env⦄ ⦃s : State⦄ ⦃m : MethodId⦄ ⦃args : Array Value⦄ ⦃below : List Frame⦄ ⦃meth : Method⦄ ⦃c : Code⦄, MC l G M p s m args meth c →
    ∀ ⦃ρ0 ρ : Nat → Nat⦄ ⦃H : Heap⦄ ⦃locs : List Loc⦄ ⦃ls : Array Slot⦄, Rel G M n0 ρ0 ρ L st f n s H locs ls →
      ∃ a, vx_Run p l e (rmA fr lo mc ms) s m args below meth c H locs nc ns mc' ms' (F0 m pc ls (st.map (cv ρ))) (rest.map (cv ρ)) (QcA G n ρ Post' a) (XCA G n ρ Post') (gF G)
theorem aw_call {st rest : List Value} {mc' ms' : Nat} {Post' : PT} (hr : CR l G M fr lo mc ms n0 nc ns pc L st rest f n mc' ms' Post') (hrest : ∀ v ∈ rest, v ∈ st)
    (hx : ∀ (E : String) (f' : HT) (n' : Nat), n ≤ n' → Post' (.inr E) f' n' → AX l G M fr lo mc ms Post n0 (nc + mc') (ns + ms') pc L E f' n')
    (k : ∀ (r : Option Value) (f' : HT) (n' : Nat), n ≤ n' → Post' (.inl r) f' n' → AW l G M fr lo mc ms Post n0 (nc + mc') (ns + ms') (pc + 3) L (r.toList ++ rest) f' n') : AW l G M fr lo mc ms Post n0 nc ns pc L st f n := by
  intro p e s m args below meth c C ρ0 ρ H locs ls R T hT X
  have hokr : ∀ v ∈ rest, vOK n v := fun v hv => R.okS v (hrest v hv)
  obtain ⟨a, hr⟩ := hr (e := e) (below := below) C R
  rcases hr T hT X with ⟨v, st₀, t, T', Lc, h0, X', hL, e1, e2, ⟨⟨r, ρ', f', n', hv, hn, hag, hw, hrk, hp⟩, hF⟩, st9⟩ | ⟨q, st₀, t, T', Lc, E, ce, h0, X', hL, e1, e2, ⟨⟨ρ', f', n', hn, hag, hw, hp⟩, hF⟩, hce, hcv, hcl, st9⟩
  · cases hv
    obtain ⟨k1, k2, k3⟩ := vx_keep h0 e1 R.hS (fun q _ h => h) (fun q h => h) hL hF
    have hrm : rest.map (cv ρ) = rest.map (cv ρ') := (cvs_ext hag hokr).symm
    have hR : Rel G M n0 ρ0 ρ' L (r.toList ++ rest) f' n' s T'.heap (locs ++ Lc) ls := by
      refine ⟨Nat.le_trans R.1 hn, fun j hj => (hag j (Nat.lt_of_lt_of_le hj R.1)).trans (R.2.1 j hj), by rw [e1]; exact hw, fun x hx => (R.okL x hx).mono hn, fun x hx => ?_, k3, by rw [cvl_ext hag R.okL]; exact R.lv⟩
      rcases List.mem_append.mp hx with h | h
      · exact hrk x (by simpa using h)
      · exact (hokr x h).mono hn
    obtain ⟨t2, a1, b1⟩ := k r f' n' hn hp C (e := e) (below := below) hR T' rfl X'
    refine ⟨t2, st9 t2 ?_, b1⟩
    have e9 : ((r.map (cv ρ')).toList ++ rest.map (cv ρ)) = (r.toList ++ rest).map (cv ρ') := by
      rw [List.map_append, hrm]
      cases r <;> rfl
    rw [e9]
    exact a1
  · obtain ⟨k1, k2, k3⟩ := vx_keep h0 e1 R.hS (fun q _ h => h) (fun q h => h) hL hF
    have hR : Rel G M n0 ρ0 ρ' L [] f' n' s T'.heap (locs ++ Lc) ls := ⟨Nat.le_trans R.1 hn, fun j hj => (hag j (Nat.lt_of_lt_of_le hj R.1)).trans (R.2.1 j hj), by rw [e1]; exact hw, fun x hx => (R.okL x hx).mono hn, fun _ h => (by cases h), k3, by rw [cvl_ext hag R.okL]; exact R.lv⟩
    obtain ⟨t2, a1, b1⟩ := hx E f' n' hn hp C (e := e) (below := below) hR q ce (rest.map (cv ρ)) (by rw [e1]; exact hce) hcv hcl T' rfl X'
    exact ⟨t2, st9.trans a1, b1⟩
/-- an exception that no handler of this method covers -/
theorem ax_out {E : String} (hh : M.2.2.2.2.1 = []) (hc : nc ≤ mc) (hs : ns ≤ ms) (hP : Post (.inr E) f n) : AX l G M fr lo mc ms Post n0 nc ns pc L E f n := by
  intro p e s m args below meth c C ρ0 ρ H locs ls R q ce rest hq hv hcl
  exact vx_out (fun x hx => by rw [C.tab, hh] at hx; cases hx) C.locks hq hv hcl (fun t ht _ => ⟨⟨ρ, f, n, R.1, R.2.1, by rw [ht]; exact R.wd, hP⟩, R.hS.F ht⟩) R.hS.2.2 hc hs
theorem pc_in {y : MethodName} {as : List Value} {p : Program} {s : State} {m : MethodId} {args : Array Value} {meth : Method} {c : Code} {ρ0 ρ : Nat → Nat} {H : Heap} {locs : List Loc} {ls : Array Slot} {st : List Value} (C : MC l G M p s m args meth c) (R : Rel G M n0 ρ0 ρ L st f n s H locs ls) (has : ∀ v ∈ as, v ∈ st) {U : State} (hU : U.heap = H) (hW : s.WarmedH U.vm) : PcA G ρ as f n (as.map (cv ρ)).toArray U :=
  ⟨rfl, by rw [hU]; exact R.wd, fun v hv => R.okS v (has v hv), va_K.moved hW.alike C.hK, by rw [hU]; exact OldA.warm hW (C.old.kept R.hS.2.1), by rw [hU]; exact Nat.le_trans C.sz R.hS.1⟩
theorem cat_map (ρ : Nat → Nat) (S : List Value) : ((S.map (cv ρ)).map fun v => v.category) = S.map fun v => v.category := by rw [List.map_map]; exact List.map_congr_left fun v _ => cv_cat ρ v
/-- by its name, on an object of class ci of the world -/
theorem cr_V {y : MethodName} {cc' : ByteArray} {nL' kk ix ci a fr' lo' mc' ms' : Nat} {ret' : Option FieldType} {as rest : List Value} {vs : List Value} {Post' : PT} (hMV : MV y cc' nL' ret' kk) (hA : AM l G y (.code y cc' nL' ret') fr' lo' mc' ms' (.ref a :: as) f n Post') (hl : Cond.methodLink M.1 ix y ∈ Big) (hf : f a = .inr (ci, vs)) (hci : (clW[ci]?).map (fun q => q.1) = some y.cls)
    (hdg : decode M.2.1 pc = .ok (.invokevirtual ix, 3)) (hk : as.length = kk) (hfr : fr' + 1 ≤ fr) (hlo : 8 + (nL' + 11) + lo' ≤ lo) (hcat : (rest.map fun v => v.category).sum ≤ 8) (hc : nc + mc' ≤ mc) (hs : ns + ms' ≤ ms) : CR l G M fr lo mc ms n0 nc ns pc L (as.reverse ++ .ref a :: rest) rest f n mc' ms' Post' := by
  intro p e s m args below meth c C ρ0 ρ H locs ls R
  obtain ⟨h1, h2, h3, h4, h5⟩ := hMV
  obtain ⟨q9, hq9, hq8⟩ := Option.map_eq_some_iff.mp hci
  have hcw : CallW (rmA fr lo mc ms) s args M.1 y.cls ix y cc' nL' ret' (Cond.code y cc' nL' ret' :: Big) (rmA fr' lo' mc' ms') mc' ms' kk :=
    ⟨callB_of kk C.ts (big_goodIn h1) rfl rfl rfl (C.ts _ h4) (C.ts _ hl) h5 ⟨hfr, hlo⟩, C.ts _ h2, C.ts _ h3⟩
  have hrec := va_recv C.hK R.wd.1 hq9 (wl_get R.wd hf (nilc_o (ci_ne hq9)))
  rw [hq8] at hrec
  have hpre : PreV s H y.cls (ρ a) (PcA G ρ (.ref a :: as) f n) (as.map (cv ρ)) := ⟨PcA.blind, hrec, fun U hU hW => pc_in (y := y) C R (fun v hv => by
    rcases List.mem_cons.mp hv with rfl | hv
    · exact List.mem_append_right _ List.mem_cons_self
    · exact List.mem_append_left _ (List.mem_reverse.mpr hv)) hU hW⟩
  refine ⟨_, vx_runV ⟨C.hx, C.hb, C.hml, C.own, C.ts⟩ (hA C.tr ρ) hcw hpre rfl (by rw [List.length_map]; exact hk) R.lv.1 ?_ (lv_room (by rw [cat_map]; exact hcat)) hdg ⟨hc, hs⟩⟩
  show ((as.reverse ++ .ref a :: rest).map (cv ρ)) = _
  rw [List.map_append, List.map_reverse]
  rfl
theorem cr_S {y : MethodName} {cc' : ByteArray} {nL' kk ix fr' lo' mc' ms' : Nat} {ret' : Option FieldType} {as rest : List Value} {Post' : PT} (hMS : MS y cc' nL' ret' kk) (hA : AM l G y (.code y cc' nL' ret') fr' lo' mc' ms' as f n Post') (hl : Cond.methodLink M.1 ix y ∈ Big)
    (hdg : decode M.2.1 pc = .ok (.invokestatic ix, 3)) (hk : as.length = kk) (hfr : fr' + 1 ≤ fr) (hlo : 8 + (nL' + 11) + lo' ≤ lo) (hcat : (rest.map fun v => v.category).sum ≤ 8) (hc : nc + mc' ≤ mc) (hs : ns + ms' ≤ ms) : CR l G M fr lo mc ms n0 nc ns pc L (as.reverse ++ rest) rest f n mc' ms' Post' := by
  intro p e s m args below meth c C ρ0 ρ H locs ls R
  obtain ⟨h1, h2, h4, h5⟩ := hMS
  have hpre : PreS s H (PcA G ρ as f n) (as.map (cv ρ)) := ⟨PcA.blind, fun U hU hW => pc_in (y := y) C R (fun v hv => List.mem_append_left _ (List.mem_reverse.mpr hv)) hU hW⟩
  refine ⟨_, vx_runS ⟨C.hx, C.hb, C.hml, C.own, C.ts⟩ (hA C.tr ρ) ⟨callB_of kk C.ts (big_goodIn h1) rfl rfl rfl (C.ts _ h4) (C.ts _ hl) h5 ⟨hfr, hlo⟩, C.ts _ h2⟩ hpre rfl (by rw [List.length_map]; exact hk) R.lv.1 ?_ (lv_room (by rw [cat_map]; exact hcat)) hdg ⟨hc, hs⟩⟩
  show ((as.reverse ++ rest).map (cv ρ)) = _
  rw [List.map_append, List.map_reverse]
end AWR
