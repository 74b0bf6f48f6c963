/-! ===== BEGIN a constructor that throws (launches without stack traces) ===== -/
section VXIA
variable {p : Program} {l : Launch} {e : Env} {R : Room} {s : State} {m : MethodId} {args : Array Value} {below : List Frame} {meth : Method} {c : Code} {T : State} {locs : List Loc} {cells slots : Nat}
theorem vx_callI (X : Stand p l e R s m args below meth c T locs cells slots) (hexec : p.tables.exec = Jvm.exec) {own : String} {index : Nat} {y : MethodName} {bytes : ByteArray} {maxL : Nat}
    (hown : s.vm.findClass own = some m.cls) (hy1 : y.name = "<init>") (hlink : (Cond.methodLink own index y).before args s = true) (hinst : (Cond.instanceMethod y).before args s = true)
    (hcode : (Cond.code y bytes maxL none).before args s = true) (hy : y.cls ≠ "java/lang/invoke/MethodHandle" ∧ y.cls ≠ "java/lang/invoke/VarHandle")
    {W9 : Nat} {Pre : Pt → Array Value → Prop} {Post : Pt → Array Value → Option Value → Pt → Prop} {PostX : Pt → Array Value → Addr → Pt → Prop} (hK : vx_Back l R p e below s args y 3 W9 Pre Post PostX)
    {g : JFrame} (hg : g.method = m) (hsize : g.locals.size = c.maxLocals) {a : Addr} {argsL rest : List Value} (hlen : ∀ sig, parseMethodDescriptor y.desc = some sig → argsL.length = sig.parameters.length)
    (hstack : g.stack = argsL.reverse ++ .ref a :: rest) (hW : 2 * g.monitorRoom + (rest.map fun v => v.category).sum ≤ W9) (hdg : decode c.code g.pc = .ok (.invokespecial index, 3))
    (hpre : ∀ vm₁, s.WarmedH vm₁ → Pre ⟨T.setVm vm₁, locs, cells, slots⟩ (Value.ref a :: argsL).toArray) :
    (∃ (v : Option Value) (vm₁ : Vm) (B : Pt), s.WarmedH vm₁ ∧ Stand p l e R s m args below meth c B.U B.locs B.cells B.slots ∧ Post ⟨T.setVm vm₁, locs, cells, slots⟩ (Value.ref a :: argsL).toArray v B ∧
      ∀ target, Steps p.tables e below (B.U.setTop { g with pc := g.pc + 3, stack := v.toList ++ rest }) target → Steps p.tables e below (T.setTop g) target) ∨
    (∃ (q : Addr) (vm₁ : Vm) (B : Pt), s.WarmedH vm₁ ∧ Stand p l e R s m args below meth c B.U B.locs B.cells B.slots ∧ PostX ⟨T.setVm vm₁, locs, cells, slots⟩ (Value.ref a :: argsL).toArray q B ∧
      Steps p.tables e below (T.setTop g) ((B.U.setTop { g with stack := rest }).pushFrame (.throwing q))) := by
  subst hg
  have hpl : e.platform.magicAccessors = ({} : Platform).magicAccessors := by rw [X.admits.platform]
  obtain ⟨mk, methM, cM, kP, vm₁, hnamed, hmethM, hcodeM, -, hlocalsM, -, hkP, -, hW₁, hstep₁⟩ := Steps.initColdArgs (e := e) X.here hexec X.warmed hpl hown hy1 hy hlink hinst hcode (f := g) rfl hlen hstack hdg
  have X₁ := X.noted hW₁
  rcases hK g.method meth c ⟨T.setVm vm₁, locs, cells, slots⟩ { g with stack := rest } (.invokespecial index) mk (Value.ref a :: argsL).toArray X₁ rfl hsize hdg hW (X₁.named hnamed) (hpre vm₁ X₁.warmed) with ⟨v, B, X', hpost, hsteps⟩ | ⟨q, B, X', hpost, hsteps⟩
  · exact Or.inl ⟨v, vm₁, B, X₁.warmed, X', hpost, fun target h => hstep₁ _ fun acts => by rw [doInvoke_state]; exact hsteps.trans h⟩
  · exact Or.inr ⟨q, vm₁, B, X₁.warmed, X', hpost, hstep₁ _ fun acts => by rw [doInvoke_state]; exact hsteps⟩
end VXIA
section VXIB
variable {p : Program} {l : Launch} {e : Env} {R : Room} {s : State} {m : MethodId} {args : Array Value} {below : List Frame} {meth : Method} {c : Code} {H : Heap} {locs : List Loc} {cells slots : Nat}
variable {y : MethodName} {bytes cc : ByteArray} {maxL nL mc ms n index : Nat} {ret : Option FieldType} {ws : List Cond} {rm : Room} {Pc : Array Value → State → Prop} {Qc : Array Value → State → Outcome → State → Prop} {XC : String → State → State → Prop} {free : Addr → Prop} {Ts : List Cond} {own C : String} {b : Addr} {As rest : List Value} {g : JFrame}
theorem vx_runI (S : CallFix p m c cc nL s args Ts own) (hM : vx_Met l y ws rm Pc Qc XC mc ms free) (cw : CallB R s args own index y bytes maxL none ws rm mc ms n ∧ y.name = "<init>" ∧ (Cond.instanceMethod y).before args s = true) (hp : PreS s H Pc (.ref b :: As))
    (hg : g.method = m) (hn : As.length = n) (hsize : g.locals.size = nL) (hstack : g.stack = As.reverse ++ .ref b :: rest) (hW : 2 * g.monitorRoom + (rest.map fun v => v.category).sum ≤ 8) (hdg : decode cc g.pc = .ok (.invokespecial index, 3)) (hf : cells + mc ≤ R.cells ∧ slots + ms ≤ R.slots) :
    vx_Run p l e R s m args below meth c H locs cells slots mc ms g rest (Qc (Value.ref b :: As).toArray) XC free := by
  have hK : vx_Back l R p e below s args y 3 8 (PreOf R mc ms Pc) (PostOf Qc mc ms free) (vx_Post XC mc ms free) := vx_callBack cw.1 hM hp.1
  obtain ⟨⟨-, -, -, -, -, -, hcode, -, hy, hlen, hl⟩, hy1, hin⟩ := cw
  obtain ⟨hx, hb, hml, ho, -⟩ := S
  have hPc := hp.2
  intro T hT X
  rcases vx_callI X hx (bytes := bytes) (maxL := maxL) ho hy1 hl hin hcode hy hK hg (hsize.trans hml.symm) (a := b) (argsL := As) (rest := rest) (fun sig h => hn.trans (hlen sig h)) hstack hW (by rw [hb]; exact hdg)
    (fun vm₁ hW₁ => ⟨hf.1, hf.2, hPc (T.setVm vm₁) hT hW₁⟩) with ⟨v, vm₁, ⟨U', l2, c2, s2⟩, hW₁, X', ⟨g', mk, t, L, e1, e2, hq, h1, hL, h2, h3⟩, st⟩ | ⟨q, vm₁, ⟨U', l2, c2, s2⟩, hW₁, X', ⟨g', mk, t, L, E, ce, e1, e2, hq, hce, hcv, hcl, h1, hL, h2, h3⟩, st⟩
  · dsimp only [Pt.U, Pt.locs, Pt.cells, Pt.slots] at X' e1 e2 h1 h2 h3 st
    subst h1; subst h2; subst h3
    exact Or.inl ⟨v, (T.setVm vm₁).calling g' mk (Value.ref b :: As).toArray, t, U', L, hT, X', hL, e1, e2, hq, st⟩
  · dsimp only [Pt.U, Pt.locs, Pt.cells, Pt.slots] at X' e1 e2 h1 h2 h3 st hcl
    subst h1; subst h2; subst h3
    exact Or.inr ⟨q, (T.setVm vm₁).calling g' mk (Value.ref b :: As).toArray, t, U', L, E, ce, hT, X', hL, e1, e2, hq, hce, hcv, vx_cls hW₁ hcl, st⟩
end VXIB
/-! ===== END ===== -/
/-! ===== BEGIN a private constructor of a nest mate that throws ===== -/
section VXIC
variable {p : Program} {l : Launch} {e : Env} {R : Room} {s : State} {m : MethodId} {args : Array Value} {below : List Frame} {meth : Method} {c : Code} {T : State} {locs : List Loc} {cells slots : Nat}
theorem vx_callIN (X : Stand p l e R s m args below meth c T locs cells slots) (hexec : p.tables.exec = Jvm.exec) {own : String} {index : Nat} {host : String} {y : MethodName} {bytes : ByteArray} {maxL : Nat}
    (hown : s.vm.findClass own = some m.cls) (hy1 : y.name = "<init>") (hlink : (Cond.methodLinkNest own index y host).before args s = true) (hinst : (Cond.instanceMethod y).before args s = true)
    (hcode : (Cond.code y bytes maxL none).before args s = true) (hy : y.cls ≠ "java/lang/invoke/MethodHandle" ∧ y.cls ≠ "java/lang/invoke/VarHandle")
    {W9 : Nat} {Pre : Pt → Array Value → Prop} {Post : Pt → Array Value → Option Value → Pt → Prop} {PostX : Pt → Array Value → Addr → Pt → Prop} (hK : vx_Back l R p e below s args y 3 W9 Pre Post PostX)
    {g : JFrame} (hg : g.method = m) (hsize : g.locals.size = c.maxLocals) {a : Addr} {argsL rest : List Value} (hlen : ∀ sig, parseMethodDescriptor y.desc = some sig → argsL.length = sig.parameters.length)
    (hstack : g.stack = argsL.reverse ++ .ref a :: rest) (hW : 2 * g.monitorRoom + (rest.map fun v => v.category).sum ≤ W9) (hdg : decode c.code g.pc = .ok (.invokespecial index, 3))
    (hpre : ∀ vm₁, s.WarmedH vm₁ → Pre ⟨T.setVm vm₁, locs, cells, slots⟩ (Value.ref a :: argsL).toArray) :
    (∃ (v : Option Value) (vm₁ : Vm) (B : Pt), s.WarmedH vm₁ ∧ Stand p l e R s m args below meth c B.U B.locs B.cells B.slots ∧ Post ⟨T.setVm vm₁, locs, cells, slots⟩ (Value.ref a :: argsL).toArray v B ∧
      ∀ target, Steps p.tables e below (B.U.setTop { g with pc := g.pc + 3, stack := v.toList ++ rest }) target → Steps p.tables e below (T.setTop g) target) ∨
    (∃ (q : Addr) (vm₁ : Vm) (B : Pt), s.WarmedH vm₁ ∧ Stand p l e R s m args below meth c B.U B.locs B.cells B.slots ∧ PostX ⟨T.setVm vm₁, locs, cells, slots⟩ (Value.ref a :: argsL).toArray q B ∧
      Steps p.tables e below (T.setTop g) ((B.U.setTop { g with stack := rest }).pushFrame (.throwing q))) := by
  subst hg
  have hpl : e.platform.magicAccessors = ({} : Platform).magicAccessors := by rw [X.admits.platform]
  obtain ⟨mk, methM, cM, kP, vm₁, hnamed, hmethM, hcodeM, -, hlocalsM, -, hkP, -, hW₁, hstep₁⟩ := Steps.initColdArgsNest (e := e) X.here hexec X.warmed hpl hown hy1 hy hlink hinst hcode (f := g) rfl hlen hstack hdg
  have X₁ := X.noted hW₁
  rcases hK g.method meth c ⟨T.setVm vm₁, locs, cells, slots⟩ { g with stack := rest } (.invokespecial index) mk (Value.ref a :: argsL).toArray X₁ rfl hsize hdg hW (X₁.named hnamed) (hpre vm₁ X₁.warmed) with ⟨v, B, X', hpost, hsteps⟩ | ⟨q, B, X', hpost, hsteps⟩
  · exact Or.inl ⟨v, vm₁, B, X₁.warmed, X', hpost, fun target h => hstep₁ _ fun acts => by rw [doInvoke_state]; exact hsteps.trans h⟩
  · exact Or.inr ⟨q, vm₁, B, X₁.warmed, X', hpost, hstep₁ _ fun acts => by rw [doInvoke_state]; exact hsteps⟩
end VXIC
section VXID
variable {p : Program} {l : Launch} {e : Env} {R : Room} {s : State} {m : MethodId} {args : Array Value} {below : List Frame} {meth : Method} {c : Code} {H : Heap} {locs : List Loc} {cells slots : Nat}
theorem vx_runIN {y : MethodName} {bytes cc : ByteArray} {maxL nL mc ms n index : Nat} {ws : List Cond} {rm : Room} {Pc : Array Value → State → Prop} {Qc : Array Value → State → Outcome → State → Prop} {XC : String → State → State → Prop} {free : Addr → Prop} {Ts : List Cond} {own host : String} {b : Addr} {As rest : List Value} {g : JFrame}
    (S : CallFix p m c cc nL s args Ts own) (hM : vx_Met l y ws rm Pc Qc XC mc ms free) (cw : va_CN R s args own index y host bytes maxL none ws rm mc ms n ∧ y.name = "<init>" ∧ (Cond.instanceMethod y).before args s = true) (hp : PreS s H Pc (.ref b :: As))
    (hg : g.method = m) (hn : As.length = n) (hsize : g.locals.size = nL) (hstack : g.stack = As.reverse ++ .ref b :: rest) (hW : 2 * g.monitorRoom + (rest.map fun v => v.category).sum ≤ 8) (hdg : decode cc g.pc = .ok (.invokespecial index, 3)) (hf : cells + mc ≤ R.cells ∧ slots + ms ≤ R.slots) :
    vx_Run p l e R s m args below meth c H locs cells slots mc ms g rest (Qc (Value.ref b :: As).toArray) XC free := by
  obtain ⟨⟨⟨hrc, hrs, hfr, hlo, hws, hcw⟩, hcode, hini, hy, hlen, hl⟩, hx1, hx2⟩ := cw
  have hK : vx_Back l R p e below s args y 3 8 (PreOf R mc ms Pc) (PostOf Qc mc ms free) (vx_Post XC mc ms free) := vx_back (bytes := bytes) (maxL := maxL) (ret := none) hM hp.1 hrc hrs hfr hlo hws hcw (fun a' U hW => word_at hW (Or.inl (by first | rfl | simp [Cond.onTables, Cond.keeps, Cond.steady])) hini)
  obtain ⟨hx, hb, hml, ho, -⟩ := S
  have hPc := hp.2
  intro T hT X
  rcases vx_callIN X hx (bytes := bytes) (maxL := maxL) ho hx1 hl hx2 hcode hy hK hg (hsize.trans hml.symm) (a := b) (argsL := As) (rest := rest) (fun sig h => hn.trans (hlen sig h)) hstack hW (by rw [hb]; exact hdg)
    (fun vm₁ hW₁ => ⟨hf.1, hf.2, hPc (T.setVm vm₁) hT hW₁⟩) with ⟨v, vm₁, ⟨U', l2, c2, s2⟩, hW₁, X', ⟨g', mk, t, L, e1, e2, hq, h1, hL, h2, h3⟩, st⟩ | ⟨q, vm₁, ⟨U', l2, c2, s2⟩, hW₁, X', ⟨g', mk, t, L, E, ce, e1, e2, hq, hce, hcv, hcl, h1, hL, h2, h3⟩, st⟩
  · dsimp only [Pt.U, Pt.locs, Pt.cells, Pt.slots] at X' e1 e2 h1 h2 h3 st
    subst h1; subst h2; subst h3
    exact Or.inl ⟨v, (T.setVm vm₁).calling g' mk (Value.ref b :: As).toArray, t, U', L, hT, X', hL, e1, e2, hq, st⟩
  · dsimp only [Pt.U, Pt.locs, Pt.cells, Pt.slots] at X' e1 e2 h1 h2 h3 st hcl
    subst h1; subst h2; subst h3
    exact Or.inr ⟨q, (T.setVm vm₁).calling g' mk (Value.ref b :: As).toArray, t, U', L, E, ce, hT, X', hL, e1, e2, hq, hce, hcv, vx_cls hW₁ hcl, st⟩
end VXID
/-! ===== END ===== -/
/-! ===== BEGIN a method of a class above, found by the receiver, that may throw (follows va_callVU, va_runU of this kit) ===== -/
section
variable {p : Program} {l : Launch} {e : Env} {R : Room} {s : State} {m : MethodId} {args : Array Value} {below : List Frame} {meth : Method} {c : Code} {H : Heap} {locs : List Loc} {cells slots : Nat}
theorem vx_callVU {T : State} {locs : List Loc} {cells slots : Nat} (X : Stand p l e R s m args below meth c T locs cells slots) (hexec : p.tables.exec = Jvm.exec) {own C owner : String} {index : Nat} {x y : MethodName} {bytes : ByteArray} {maxL : Nat} {ret : Option FieldType}
    (hown : s.vm.findClass own = some m.cls) (hlink : (Cond.methodLink own index x).before args s = true) (hsame : (Cond.sameMethod x.cls owner x.name x.desc).before args s = true)
    (hd0 : va_Decl s ⟨owner, x.name, x.desc⟩) (howner : owner ≠ "java/lang/invoke/MethodHandle" ∧ owner ≠ "java/lang/invoke/VarHandle")
    (hsel : (Cond.selects C x y).before args s = true) (hinst : (Cond.instanceMethod y).before args s = true) (hcode : (Cond.code y bytes maxL ret).before args s = true)
    {W : Nat} {Pre : Pt → Array Value → Prop} {Post : Pt → Array Value → Option Value → Pt → Prop} {PostX : Pt → Array Value → Addr → Pt → Prop} (hK : vx_Back l R p e below s args y 3 W Pre Post PostX)
    {b : Addr} {cellB : Cell} (hcell : T.heap[b]? = some cellB) (hobj : cellB.vm.isStatics = false) (hcls : s.vm.findClass C = some cellB.cls)
    {g : JFrame} (hg : g.method = m) (hsize : g.locals.size = c.maxLocals) {argsL rest : List Value} (hlen : ∀ sig, parseMethodDescriptor x.desc = some sig → argsL.length = sig.parameters.length)
    (hstack : g.stack = argsL.reverse ++ .ref b :: rest) (hW : 2 * g.monitorRoom + (rest.map fun v => v.category).sum ≤ W) (hdg : decode c.code g.pc = .ok (.invokevirtual index, 3))
    (hpre : ∀ vm₁, s.WarmedH vm₁ → Pre ⟨T.setVm vm₁, locs, cells, slots⟩ (Value.ref b :: argsL).toArray) :
    (∃ (v : Option Value) (vm₁ : Vm) (B : Pt), s.WarmedH vm₁ ∧ Stand p l e R s m args below meth c B.U B.locs B.cells B.slots ∧ Post ⟨T.setVm vm₁, locs, cells, slots⟩ (Value.ref b :: argsL).toArray v B ∧
      ∀ target, Steps p.tables e below (B.U.setTop { g with pc := g.pc + 3, stack := v.toList ++ rest }) target → Steps p.tables e below (T.setTop g) target) ∨
    (∃ (q : Addr) (vm₁ : Vm) (B : Pt), s.WarmedH vm₁ ∧ Stand p l e R s m args below meth c B.U B.locs B.cells B.slots ∧ PostX ⟨T.setVm vm₁, locs, cells, slots⟩ (Value.ref b :: argsL).toArray q B ∧
      Steps p.tables e below (T.setTop g) ((B.U.setTop { g with stack := rest }).pushFrame (.throwing q))) := by
  obtain ⟨r0, r, hn, hrm, hstR, hsigR⟩ := hd0
  obtain ⟨cn, ck, r1, hcn, hck, hni, hf, hn1⟩ := Cond.sameMethod_found hsame
  cases hn.symm.trans hn1
  obtain ⟨mk, methM, hnamed, hmethM, -, habM⟩ := Cond.instanceMethod_spec hinst
  obtain ⟨c2, r2, m2, q1, q2, q3, q4, kP, hkP, hkPi⟩ := Cond.selects_spec hsel
  cases hcls.symm.trans q1
  cases hf.symm.trans q2
  cases hnamed.symm.trans q3
  have hselP : selectMethod e.platform s.vm cellB.cls r0 = .method mk := by rw [Launch.admits_selectMethod X.admits]; exact q4
  obtain ⟨vm₁, X₁, hstep₁⟩ := X.invokevirtualUp hexec hown hlink hsame howner hn hrm hstR (a := b) (cell := cellB) hcell
    (fun z h => by rw [h] at hobj; cases hobj) hselP hmethM habM hkP hkPi (g := g) hg (argsL := argsL) (rest := rest) (hlen _ hsigR) hstack hdg
  rcases hK m meth c ⟨T.setVm vm₁, locs, cells, slots⟩ { g with stack := rest } (.invokevirtual index) mk (Value.ref b :: argsL).toArray X₁ hg hsize hdg hW (X₁.named hnamed) (hpre vm₁ X₁.warmed) with ⟨v, B, X', hpost, hsteps⟩ | ⟨q, B, X', hpost, hsteps⟩
  · exact Or.inl ⟨v, vm₁, B, X₁.warmed, X', hpost, fun target h => hstep₁ _ fun acts => by rw [doInvoke_state]; exact hsteps.trans h⟩
  · exact Or.inr ⟨q, vm₁, B, X₁.warmed, X', hpost, hstep₁ _ fun acts => by rw [doInvoke_state]; exact hsteps⟩
theorem vx_runU {x y : MethodName} {bytes cc : ByteArray} {maxL nL mc ms n index : Nat} {ret : Option FieldType} {ws : List Cond} {rm : Room} {Pc : Array Value → State → Prop} {Qc : Array Value → State → Outcome → State → Prop} {XC : String → State → State → Prop} {free : Addr → Prop} {Ts : List Cond} {own C owner : String} {b : Addr} {As rest : List Value} {g : JFrame}
    (S : CallFix p m c cc nL s args Ts own) (hM : vx_Met l y ws rm Pc Qc XC mc ms free) (cw : va_CU R s args own C owner index x y bytes maxL ret ws rm mc ms n) (hp : PreV s H C b Pc As)
    (hg : g.method = m) (hn : As.length = n) (hsize : g.locals.size = nL) (hstack : g.stack = As.reverse ++ .ref b :: rest) (hW : 2 * g.monitorRoom + (rest.map fun v => v.category).sum ≤ 8) (hdg : decode cc g.pc = .ok (.invokevirtual index, 3)) (hf : cells + mc ≤ R.cells ∧ slots + ms ≤ R.slots) :
    vx_Run p l e R s m args below meth c H locs cells slots mc ms g rest (Qc (Value.ref b :: As).toArray) XC free := by
  obtain ⟨hrc, hrs, hfr, hlo, hws, hcw⟩ := cw.back
  have hini := cw.init
  have hK : vx_Back l R p e below s args y 3 8 (PreOf R mc ms Pc) (PostOf Qc mc ms free) (vx_Post XC mc ms free) := vx_back (bytes := bytes) (maxL := maxL) (ret := ret) hM hp.1 hrc hrs hfr hlo hws hcw (fun a' U hW => word_at hW (Or.inl (by first | rfl | simp [Cond.onTables, Cond.keeps, Cond.steady])) hini)
  obtain ⟨hx, hb, hml, ho, -⟩ := S
  obtain ⟨-, ⟨cellB, hcB, hoB, hclB⟩, hPc⟩ := hp
  intro T hT X
  rcases vx_callVU X hx (C := C) (owner := owner) (bytes := bytes) (maxL := maxL) (ret := ret) ho cw.link cw.same cw.decl cw.notMH cw.sel cw.inst cw.code hK (by rw [hT]; exact hcB) hoB hclB hg (hsize.trans hml.symm) (argsL := As) (rest := rest) (fun sig h => hn.trans (cw.len sig h)) hstack hW (by rw [hb]; exact hdg)
    (fun vm₁ hW₁ => ⟨hf.1, hf.2, hPc (T.setVm vm₁) hT hW₁⟩) with ⟨v, vm₁, ⟨U', l2, c2, s2⟩, hW₁, X', ⟨g', mk, t, L, e1, e2, hq, h1, hL, h2, h3⟩, st⟩ | ⟨q, vm₁, ⟨U', l2, c2, s2⟩, hW₁, X', ⟨g', mk, t, L, E, ce, e1, e2, hq, hce, hcv, hcl, h1, hL, h2, h3⟩, st⟩
  · dsimp only [Pt.U, Pt.locs, Pt.cells, Pt.slots] at X' e1 e2 h1 h2 h3 st
    subst h1; subst h2; subst h3
    exact Or.inl ⟨v, (T.setVm vm₁).calling g' mk (Value.ref b :: As).toArray, t, U', L, hT, X', hL, e1, e2, hq, st⟩
  · dsimp only [Pt.U, Pt.locs, Pt.cells, Pt.slots] at X' e1 e2 h1 h2 h3 st hcl
    subst h1; subst h2; subst h3
    exact Or.inr ⟨q, (T.setVm vm₁).calling g' mk (Value.ref b :: As).toArray, t, U', L, E, ce, hT, X', hL, e1, e2, hq, hce, hcv, vx_cls hW₁ hcl, st⟩
end
/-! ===== END ===== -/
/-! ===== BEGIN super.m(..) that may throw (follows va_callSU, va_runSU) ===== -/
section
variable {p : Program} {l : Launch} {e : Env} {R : Room} {s : State} {m : MethodId} {args : Array Value} {below : List Frame} {meth : Method} {c : Code} {H : Heap} {locs : List Loc} {cells slots : Nat}
theorem vx_callSU {T : State} {locs : List Loc} {cells slots : Nat} (X : Stand p l e R s m args below meth c T locs cells slots) (hexec : p.tables.exec = Jvm.exec) {own : String} {index : Nat} {y : MethodName} {bytes : ByteArray} {maxL : Nat} {ret : Option FieldType}
    (hown : s.vm.findClass own = some m.cls) (hlink : (Cond.methodLink own index y).before args s = true) (hsame : (Cond.sameMethod y.cls y.cls y.name y.desc).before args s = true) (hsup : (Cond.superclass own y.cls).before args s = true)
    (hinst : (Cond.instanceMethod y).before args s = true) (hcode : (Cond.code y bytes maxL ret).before args s = true) (hno : y.name ≠ "<init>")
    {W : Nat} {Pre : Pt → Array Value → Prop} {Post : Pt → Array Value → Option Value → Pt → Prop} {PostX : Pt → Array Value → Addr → Pt → Prop} (hK : vx_Back l R p e below s args y 3 W Pre Post PostX)
    {b : Addr} {cellB : Cell} {kB : Class} (hcell : T.heap[b]? = some cellB) (hobj : cellB.vm.isStatics = false) (hkB : s.vm.classes[cellB.cls]? = some kB)
    {g : JFrame} (hg : g.method = m) (hsize : g.locals.size = c.maxLocals) {argsL rest : List Value} (hlen : ∀ sig, parseMethodDescriptor y.desc = some sig → argsL.length = sig.parameters.length)
    (hstack : g.stack = argsL.reverse ++ .ref b :: rest) (hW : 2 * g.monitorRoom + (rest.map fun v => v.category).sum ≤ W) (hdg : decode c.code g.pc = .ok (.invokespecial index, 3))
    (hpre : ∀ vm₁, s.WarmedH vm₁ → Pre ⟨T.setVm vm₁, locs, cells, slots⟩ (Value.ref b :: argsL).toArray) :
    (∃ (v : Option Value) (vm₁ : Vm) (B : Pt), s.WarmedH vm₁ ∧ Stand p l e R s m args below meth c B.U B.locs B.cells B.slots ∧ Post ⟨T.setVm vm₁, locs, cells, slots⟩ (Value.ref b :: argsL).toArray v B ∧
      ∀ target, Steps p.tables e below (B.U.setTop { g with pc := g.pc + 3, stack := v.toList ++ rest }) target → Steps p.tables e below (T.setTop g) target) ∨
    (∃ (q : Addr) (vm₁ : Vm) (B : Pt), s.WarmedH vm₁ ∧ Stand p l e R s m args below meth c B.U B.locs B.cells B.slots ∧ PostX ⟨T.setVm vm₁, locs, cells, slots⟩ (Value.ref b :: argsL).toArray q B ∧
      Steps p.tables e below (T.setTop g) ((B.U.setTop { g with stack := rest }).pushFrame (.throwing q))) := by
  obtain ⟨mk, methM, hnamed, hmethM, hstM, habM⟩ := Cond.instanceMethod_spec hinst
  obtain ⟨methM', cM, hmethM', -, -, -, -, -, -, hsigM⟩ := Cond.code_spec hnamed hcode
  cases hmethM.symm.trans hmethM'
  obtain ⟨ps, dk, kp, hps, hdk, hkp, hsuper, -, -, hnid⟩ := Cond.superclass_spec hown hsup
  have hn : s.methodNamed? ⟨y.cls, y.name, y.desc⟩ = some mk := hnamed
  have hpm : ps = mk.cls := Option.some.inj (hps.symm.trans (findClass_of_methodNamed hnamed))
  have hsub : s.vm.isSubclass ps mk.cls = true := by rw [hpm]; simp [Vm.isSubclass, Vm.isSubclassAux]
  obtain ⟨vm₁, X₁, hstep₁⟩ := X.invokespecialUp hexec hown hlink hsame hn hmethM hstM habM hno hdk hnid hps hsuper hsub (a := b) (cell := cellB) hcell
    (fun z h => by rw [h] at hobj; cases hobj) hkB (g := g) hg (argsL := argsL) (rest := rest) (hlen _ hsigM) hstack hdg
  rcases hK m meth c ⟨T.setVm vm₁, locs, cells, slots⟩ { g with stack := rest } (.invokespecial index) mk (Value.ref b :: argsL).toArray X₁ hg hsize hdg hW (X₁.named hnamed) (hpre vm₁ X₁.warmed) with ⟨v, B, X', hpost, hsteps⟩ | ⟨q, B, X', hpost, hsteps⟩
  · exact Or.inl ⟨v, vm₁, B, X₁.warmed, X', hpost, fun target h => hstep₁ _ (by rw [doInvoke_state]; exact hsteps.trans h)⟩
  · exact Or.inr ⟨q, vm₁, B, X₁.warmed, X', hpost, hstep₁ _ (by rw [doInvoke_state]; exact hsteps)⟩
theorem vx_runSU {y : MethodName} {bytes cc : ByteArray} {maxL nL mc ms n index : Nat} {ret : Option FieldType} {ws : List Cond} {rm : Room} {Pc : Array Value → State → Prop} {Qc : Array Value → State → Outcome → State → Prop} {XC : String → State → State → Prop} {free : Addr → Prop} {Ts : List Cond} {own C : String} {cC : ClassId} {b : Addr} {As rest : List Value} {g : JFrame}
    (hat : ClassAt s C cC) (S : CallFix p m c cc nL s args Ts own) (hM : vx_Met l y ws rm Pc Qc XC mc ms free) (cw : va_CS R s args own index y bytes maxL ret ws rm mc ms n) (hp : PreV s H C b Pc As)
    (hg : g.method = m) (hn : As.length = n) (hsize : g.locals.size = nL) (hstack : g.stack = As.reverse ++ .ref b :: rest) (hW : 2 * g.monitorRoom + (rest.map fun v => v.category).sum ≤ 8) (hdg : decode cc g.pc = .ok (.invokespecial index, 3)) (hf : cells + mc ≤ R.cells ∧ slots + ms ≤ R.slots) :
    vx_Run p l e R s m args below meth c H locs cells slots mc ms g rest (Qc (Value.ref b :: As).toArray) XC free := by
  obtain ⟨⟨hrc, hrs, hfr, hlo, hws, hcw⟩, hl1, hl2, hl3, hl4, hini, hcode, hno, hlen⟩ := cw
  have hK : vx_Back l R p e below s args y 3 8 (PreOf R mc ms Pc) (PostOf Qc mc ms free) (vx_Post XC mc ms free) := vx_back (bytes := bytes) (maxL := maxL) (ret := ret) hM hp.1 hrc hrs hfr hlo hws hcw (fun a' U hW => word_at hW (Or.inl (by first | rfl | simp [Cond.onTables, Cond.keeps, Cond.steady])) hini)
  obtain ⟨hx, hb, hml, ho, -⟩ := S
  obtain ⟨-, ⟨cellB, hcB, hoB, hclB⟩, hPc⟩ := hp
  obtain ⟨hfc, kB, hkB, -⟩ := hat
  cases hfc.symm.trans hclB
  intro T hT X
  rcases vx_callSU X hx (bytes := bytes) (maxL := maxL) (ret := ret) ho hl1 hl2 hl3 hl4 hcode hno hK (by rw [hT]; exact hcB) hoB hkB hg (hsize.trans hml.symm) (argsL := As) (rest := rest) (fun sig h => hn.trans (hlen sig h)) hstack hW (by rw [hb]; exact hdg)
    (fun vm₁ hW₁ => ⟨hf.1, hf.2, hPc (T.setVm vm₁) hT hW₁⟩) with ⟨v, vm₁, ⟨U', l2, c2, s2⟩, hW₁, X', ⟨g', mk, t, L, e1, e2, hq, h1, hL, h2, h3⟩, st⟩ | ⟨q, vm₁, ⟨U', l2, c2, s2⟩, hW₁, X', ⟨g', mk, t, L, E, ce, e1, e2, hq, hce, hcv, hcl, h1, hL, h2, h3⟩, st⟩
  · dsimp only [Pt.U, Pt.locs, Pt.cells, Pt.slots] at X' e1 e2 h1 h2 h3 st
    subst h1; subst h2; subst h3
    exact Or.inl ⟨v, (T.setVm vm₁).calling g' mk (Value.ref b :: As).toArray, t, U', L, hT, X', hL, e1, e2, hq, st⟩
  · dsimp only [Pt.U, Pt.locs, Pt.cells, Pt.slots] at X' e1 e2 h1 h2 h3 st hcl
    subst h1; subst h2; subst h3
    exact Or.inr ⟨q, (T.setVm vm₁).calling g' mk (Value.ref b :: As).toArray, t, U', L, E, ce, hT, X', hL, e1, e2, hq, hce, hcv, vx_cls hW₁ hcl, st⟩
end
/-! ===== END ===== -/
/-- an object of class C at a: one of the world, or one that was there before -/
def RC (f : HT) (C : String) (a : Nat) : Prop := (∃ ci vs, f a = .inr (ci, vs) ∧ (clW[ci]?).map (fun q => q.1) = some C) ∨ ((C, a) ∈ wO ∧ a < o0)
theorem RC.w {f : HT} {C : String} {a ci : Nat} {vs : List Value} (h : f a = .inr (ci, vs)) (hc : (clW[ci]?).map (fun q => q.1) = some C) : RC f C a := Or.inl ⟨ci, vs, h, hc⟩
theorem RC.o {f : HT} {C : String} {a : Nat} (h : (C, a) ∈ wO) (ha : a < o0) : RC f C a := Or.inr ⟨h, ha⟩
def MVC (y : MethodName) (cc : ByteArray) (nL : Nat) (ret : Option FieldType) (k : Nat) (C : String) : Prop := Cond.code y cc nL ret ∈ Big ∧ Cond.instanceMethod y ∈ Big ∧ Cond.selects C y y ∈ Big ∧ Cond.initialized y.cls ∈ Big ∧ (y.cls ≠ "java/lang/invoke/MethodHandle" ∧ y.cls ≠ "java/lang/invoke/VarHandle" ∧ (parseMethodDescriptor y.desc).map (fun d => d.parameters.length) = some k)
theorem MV.c {y : MethodName} {cc : ByteArray} {nL : Nat} {ret : Option FieldType} {k : Nat} (h : MV y cc nL ret k) : MVC y cc nL ret k y.cls := h
section RW3
variable {l : Launch} {G : GT} {M : MT} {fr lo mc ms : Nat} {Post : PT} {n0 nc ns pc : Nat} {L : List (Nat × Value)} {S : List Value} {f : HT} {n : Nat}
theorem rc_cell {C9 : String} {a : Nat} {p : Program} {s : State} {m : MethodId} {args : Array Value} {meth : Method} {c : Code} {ρ0 ρ : Nat → Nat} {H : Heap} {locs : List Loc} {ls : Array Slot} {st : List Value} (h : RC f C9 a) (C : MC l G M p s m args meth c) (R : Rel G M n0 ρ0 ρ L st f n s H locs ls) : ∃ cell : Cell, H[ρ a]? = some cell ∧ cell.vm.isStatics = false ∧ s.vm.findClass C9 = some cell.cls := by
  rcases h with ⟨ci, vs, hf, hci⟩ | ⟨hO, ha⟩
  · obtain ⟨q9, hq9, hq8⟩ := Option.map_eq_some_iff.mp hci
    have hrec := va_recv C.hK R.wd.1 hq9 (wl_get R.wd hf (nilc_o (ci_ne hq9)))
    rw [hq8] at hrec
    exact hrec
  · obtain ⟨cell, h1, h2, h3, -⟩ := (C.old.2.1 _ hO).kept R.hS.2.1
    rw [old_at R ha]
    exact ⟨cell, h1, h2, h3⟩
/-- by its name, on an object of class C9 -/
theorem cr_VC {C9 : String} {y : MethodName} {cc' : ByteArray} {nL' kk ix a fr' lo' mc' ms' : Nat} {ret' : Option FieldType} {as rest : List Value} {Post' : PT} (hMV : MVC y cc' nL' ret' kk C9) (hA : AM l G y (.code y cc' nL' ret') fr' lo' mc' ms' (.ref a :: as) f n Post') (hl : Cond.methodLink M.1 ix y ∈ Big) (hf : RC f C9 a)
    (hdg : decode M.2.1 pc = .ok (.invokevirtual ix, 3)) (hk : as.length = kk) (hR : fr' + 1 ≤ fr ∧ 8 + (nL' + 11) + lo' ≤ lo) (hcat : (rest.map fun v => v.category).sum ≤ 8) (hc : nc + mc' ≤ mc ∧ ns + ms' ≤ ms) : CR l G M fr lo mc ms n0 nc ns pc L (as.reverse ++ .ref a :: rest) rest f n mc' ms' Post' := by
  intro p e s m args below meth c C ρ0 ρ H locs ls R
  obtain ⟨h1, h2, h3, h4, h5⟩ := hMV
  have hcw : CallW (rmA fr lo mc ms) s args M.1 C9 ix y cc' nL' ret' (Cond.code y cc' nL' ret' :: Big) (rmA fr' lo' mc' ms') mc' ms' kk :=
    ⟨callB_of kk C.ts (big_goodIn h1) rfl rfl rfl (C.ts _ h4) (C.ts _ hl) h5 hR, C.ts _ h2, C.ts _ h3⟩
  have hpre : PreV s H C9 (ρ a) (PcA G ρ (.ref a :: as) f n) (as.map (cv ρ)) := ⟨PcA.blind, rc_cell hf C R, fun U hU hW => pc_in (y := y) C R (fun v hv => by
    rcases List.mem_cons.mp hv with rfl | hv
    · exact List.mem_append_right _ List.mem_cons_self
    · exact List.mem_append_left _ (List.mem_reverse.mpr hv)) hU hW⟩
  refine ⟨_, vx_runV ⟨C.hx, C.hb, C.hml, C.own, C.ts⟩ (hA C.tr ρ) hcw hpre rfl (by rw [List.length_map]; exact hk) R.lv.1 ?_ (lv_room (by rw [cat_map]; exact hcat)) hdg hc⟩
  show ((as.reverse ++ .ref a :: rest).map (cv ρ)) = _
  rw [List.map_append, List.map_reverse]
  rfl
/-- the super class' method -/
theorem cr_SU {y : MethodName} {cc' : ByteArray} {nL' kk ix ci a fr' lo' mc' ms' : Nat} {ret' : Option FieldType} {as rest : List Value} {vs : List Value} {Post' : PT} (h1 : Cond.code y cc' nL' ret' ∈ Big) (hA : AM l G y (.code y cc' nL' ret') fr' lo' mc' ms' (.ref a :: as) f n Post') (hl : Cond.methodLink M.1 ix y ∈ Big) (hsm : Cond.sameMethod y.cls y.cls y.name y.desc ∈ Big) (hsu : Cond.superclass M.1 y.cls ∈ Big) (hin : Cond.instanceMethod y ∈ Big) (hii : Cond.initialized y.cls ∈ Big) (hno : y.name ≠ "<init>") (hpd : (parseMethodDescriptor y.desc).map (fun d => d.parameters.length) = some kk) (hf : f a = .inr (ci, vs)) (hci : (clW[ci]?).map (fun q => q.1) = some M.1)
    (hdg : decode M.2.1 pc = .ok (.invokespecial ix, 3)) (hk : as.length = kk) (hR : fr' + 1 ≤ fr ∧ 8 + (nL' + 11) + lo' ≤ lo) (hcat : (rest.map fun v => v.category).sum ≤ 8) (hc : nc + mc' ≤ mc ∧ ns + ms' ≤ ms) : CR l G M fr lo mc ms n0 nc ns pc L (as.reverse ++ .ref a :: rest) rest f n mc' ms' Post' := by
  intro p e s m args below meth c C ρ0 ρ H locs ls R
  obtain ⟨q9, hq9, hq8⟩ := Option.map_eq_some_iff.mp hci
  have hat := (C.hK.1 ci q9 hq9).2
  rw [hq8] at hat
  have hG := big_goodIn h1
  have hcw : va_CS (rmA fr lo mc ms) s args M.1 ix y cc' nL' ret' (Cond.code y cc' nL' ret' :: Big) (rmA fr' lo' mc' ms') mc' ms' kk :=
    ⟨⟨rfl, rfl, hR.1, hR.2, pay_in C.ts hG, List.mem_cons_self⟩, C.ts _ hl, C.ts _ hsm, C.ts _ hsu, C.ts _ hin, C.ts _ hii, C.ts _ h1, hno, fun sig h => by rw [h] at hpd; exact (Option.some.inj hpd).symm⟩
  have hpre : PreV s H M.1 (ρ a) (PcA G ρ (.ref a :: as) f n) (as.map (cv ρ)) := ⟨PcA.blind, rc_cell (RC.w hf hci) C R, fun U hU hW => pc_in (y := y) C R (fun v hv => by
    rcases List.mem_cons.mp hv with rfl | hv
    · exact List.mem_append_right _ List.mem_cons_self
    · exact List.mem_append_left _ (List.mem_reverse.mpr hv)) hU hW⟩
  refine ⟨_, vx_runSU hat ⟨C.hx, C.hb, C.hml, C.own, C.ts⟩ (hA C.tr ρ) hcw hpre rfl (by rw [List.length_map]; exact hk) R.lv.1 ?_ (lv_room (by rw [cat_map]; exact hcat)) hdg hc⟩
  show ((as.reverse ++ .ref a :: rest).map (cv ρ)) = _
  rw [List.map_append, List.map_reverse]
  rfl
/-- a constructor -/
theorem cr_I {y : MethodName} {cc' : ByteArray} {nL' kk ix a fr' lo' mc' ms' : Nat} {as rest : List Value} {Post' : PT} (hMI : MI y cc' nL' kk) (hA : AM l G y (.code y cc' nL' none) fr' lo' mc' ms' (.ref a :: as) f n Post') (hl : Cond.methodLink M.1 ix y ∈ Big)
    (hdg : decode M.2.1 pc = .ok (.invokespecial ix, 3)) (hk : as.length = kk) (hR : fr' + 1 ≤ fr ∧ 8 + (nL' + 11) + lo' ≤ lo) (hcat : (rest.map fun v => v.category).sum ≤ 8) (hc : nc + mc' ≤ mc ∧ ns + ms' ≤ ms) : CR l G M fr lo mc ms n0 nc ns pc L (as.reverse ++ .ref a :: rest) rest f n mc' ms' Post' := by
  intro p e s m args below meth c C ρ0 ρ H locs ls R
  obtain ⟨h1, h2, h4, h6, h5⟩ := hMI
  have hpre : PreS s H (PcA G ρ (.ref a :: as) f n) (.ref (ρ a) :: as.map (cv ρ)) := ⟨PcA.blind, fun U hU hW => pc_in (y := y) C R (fun v hv => by
    rcases List.mem_cons.mp hv with rfl | hv
    · exact List.mem_append_right _ List.mem_cons_self
    · exact List.mem_append_left _ (List.mem_reverse.mpr hv)) hU hW⟩
  refine ⟨_, vx_runI ⟨C.hx, C.hb, C.hml, C.own, C.ts⟩ (hA C.tr ρ) ⟨callB_of kk C.ts (big_goodIn h1) rfl rfl rfl (C.ts _ h4) (C.ts _ hl) h5 hR, h6, C.ts _ h2⟩ hpre rfl (by rw [List.length_map]; exact hk) R.lv.1 ?_ (lv_room (by rw [cat_map]; exact hcat)) hdg hc⟩
  show ((as.reverse ++ .ref a :: rest).map (cv ρ)) = _
  rw [List.map_append, List.map_reverse]
  rfl
/-- a private constructor of a nest mate -/
theorem cr_IN {y : MethodName} {cc' : ByteArray} {nL' kk ix a fr' lo' mc' ms' : Nat} {host : String} {as rest : List Value} {Post' : PT} (hMI : MI y cc' nL' kk) (hA : AM l G y (.code y cc' nL' none) fr' lo' mc' ms' (.ref a :: as) f n Post') (hl : Cond.methodLinkNest M.1 ix y host ∈ lw_nest)
    (hdg : decode M.2.1 pc = .ok (.invokespecial ix, 3)) (hk : as.length = kk) (hR : fr' + 1 ≤ fr ∧ 8 + (nL' + 11) + lo' ≤ lo) (hcat : (rest.map fun v => v.category).sum ≤ 8) (hc : nc + mc' ≤ mc ∧ ns + ms' ≤ ms) : CR l G M fr lo mc ms n0 nc ns pc L (as.reverse ++ .ref a :: rest) rest f n mc' ms' Post' := by
  intro p e s m args below meth c C ρ0 ρ H locs ls R
  obtain ⟨h1, h2, h4, h6, h5⟩ := hMI
  have hpre : PreS s H (PcA G ρ (.ref a :: as) f n) (.ref (ρ a) :: as.map (cv ρ)) := ⟨PcA.blind, fun U hU hW => pc_in (y := y) C R (fun v hv => by
    rcases List.mem_cons.mp hv with rfl | hv
    · exact List.mem_append_right _ List.mem_cons_self
    · exact List.mem_append_left _ (List.mem_reverse.mpr hv)) hU hW⟩
  refine ⟨_, vx_runIN ⟨C.hx, C.hb, C.hml, C.own, C.ts⟩ (hA C.tr ρ) ⟨va_cnB kk C.ts (big_goodIn h1) rfl rfl rfl (C.old.2.2.2.2.2.2.2.2.2.1 _ hl) (C.ts _ h4) h5 hR, h6, C.ts _ h2⟩ hpre rfl (by rw [List.length_map]; exact hk) R.lv.1 ?_ (lv_room (by rw [cat_map]; exact hcat)) hdg hc⟩
  show ((as.reverse ++ .ref a :: rest).map (cv ρ)) = _
  rw [List.map_append, List.map_reverse]
  rfl
/-- a call that answers an int, changes the heap to f2 -/
theorem aw_crI {st rest : List Value} {mc' ms' : Nat} {x : Int32} {f2 : HT} {n2 : Nat} (hr : CR l G M fr lo mc ms n0 nc ns pc L st rest f n mc' ms' (rI x f2 n2)) (hs : ∀ v ∈ rest, v ∈ st) (k : AW l G M fr lo mc ms Post n0 (nc + mc') (ns + ms') (pc + 3) L (.int x :: rest) f2 n2) : AW l G M fr lo mc ms Post n0 nc ns pc L st f n :=
  aw_call hr hs (fun E f' n' _ h => by cases h.1) (fun r f' n' _ h => by
    obtain ⟨h1, h2, h3⟩ := h
    cases h1; subst h2; subst h3
    exact k)
theorem aw_crV {st rest : List Value} {mc' ms' : Nat} {f2 : HT} {n2 : Nat} (hr : CR l G M fr lo mc ms n0 nc ns pc L st rest f n mc' ms' (rV f2 n2)) (hs : ∀ v ∈ rest, v ∈ st) (k : AW l G M fr lo mc ms Post n0 (nc + mc') (ns + ms') (pc + 3) L rest f2 n2) : AW l G M fr lo mc ms Post n0 nc ns pc L st f n :=
  aw_call hr hs (fun E f' n' _ h => by cases h.1) (fun r f' n' _ h => by
    obtain ⟨h1, h2, h3⟩ := h
    cases h1; subst h2; subst h3
    exact k)
/-- a call that answers a reference or null -/
def rR (v : Value) (f : HT) (n : Nat) : PT := fun r f' n' => r = .inl (some v) ∧ f' = f ∧ n' = n
theorem aw_crR {st rest : List Value} {mc' ms' : Nat} {v : Value} {f2 : HT} {n2 : Nat} (hr : CR l G M fr lo mc ms n0 nc ns pc L st rest f n mc' ms' (rR v f2 n2)) (hs : ∀ v ∈ rest, v ∈ st) (k : AW l G M fr lo mc ms Post n0 (nc + mc') (ns + ms') (pc + 3) L (v :: rest) f2 n2) : AW l G M fr lo mc ms Post n0 nc ns pc L st f n :=
  aw_call hr hs (fun E f' n' _ h => by cases h.1) (fun r f' n' _ h => by
    obtain ⟨h1, h2, h3⟩ := h
    cases h1; subst h2; subst h3
    exact k)
theorem aw_crP {st rest : List Value} {mc' ms' : Nat} {P' : PT} (hr : CR l G M fr lo mc ms n0 nc ns pc L st rest f n mc' ms' P') (hs : ∀ v ∈ rest, v ∈ st) (hno : ∀ (E : String) (f' : HT) (n' : Nat), ¬ P' (.inr E) f' n') (k : ∀ (r : Option Value) (f' : HT) (n' : Nat), n ≤ n' → P' (.inl r) f' n' → AW l G M fr lo mc ms Post n0 (nc + mc') (ns + ms') (pc + 3) L (r.toList ++ rest) f' n') : AW l G M fr lo mc ms Post n0 nc ns pc L st f n :=
  aw_call hr hs (fun E f' n' _ h => absurd h (hno E f' n')) k
theorem sub_app {as : List Value} {a : Value} {rest : List Value} : ∀ v ∈ rest, v ∈ as.reverse ++ a :: rest := fun _ h => List.mem_append_right _ (List.mem_cons_of_mem _ h)
theorem sub_app2 {as rest : List Value} : ∀ v ∈ rest, v ∈ as.reverse ++ rest := fun _ h => List.mem_append_right _ h
/-- an element of Word.ALL -/
theorem aw_oaald {a N : Nat} {g : Nat → Value} {i : Int32} {v : Value} (hq : (.object RX9, a, N, g) ∈ wT) (ha : a < o0) (hin : vp_in i N) (hv : g i.toNatClampNeg = v) (hok : vOK o0 v) (hdg : decode M.2.1 pc = .ok (.aaload, 1)) (k : AW l G M fr lo mc ms Post n0 nc ns (pc + 1) L (v :: S) f n) : AW l G M fr lo mc ms Post n0 nc ns pc L (.int i :: .ref a :: S) f n := by
  intro p e s m args below meth c C ρ0 ρ H locs ls R
  show W _ _ _ _ _ _ _ _ _ _ _ _ _ _ _ (F0 m pc ls (.int i :: .ref (ρ a) :: S.map (cv ρ)))
  rw [old_at R ha]
  obtain ⟨cell, h1, h2, h3, h4, h5, h6, h7⟩ := C.old.2.2.1 _ hq
  have hlt : i.toNatClampNeg < N := Nat.not_le.mp fun q => hin (Or.inr q)
  have hin' : ¬ (i < 0 ∨ cell.slots.size ≤ i.toNatClampNeg) := by
    intro q
    rcases q with q | q
    · exact hin (Or.inl q)
    · exact absurd (Nat.le_trans h4 q) (Nat.not_le.mpr hlt)
  refine W.aald (v := cv (gO G) v) (ty := .object RX9) C.hx C.hb (by rw [R.hS.2.1 _ (Array.getElem?_eq_some_iff.mp h1).1 h7]; exact h1) h2 rfl h3 hin' (by rw [h6 _ hlt]; exact congrArg (fun z => some (cv (gO G) z)) hv) rfl rfl hdg ?_
  rw [old_cv R hok]
  exact k C (R.pos (old_ok R hok) (ok_tl (ok_tl R.okS)))
/-- a Word into an array of words -/
theorem aw_aastO {a N v : Nat} {g : Nat → Option Nat} {i : Int32} (hf : f a = .inl (6, (N, .inr (.inr (.inr (.inr g)))))) (hv : (RX9, v) ∈ wO) (hv0 : v < o0) (hin : vp_in i N) (hdg : decode M.2.1 pc = .ok (.aastore, 1)) (k : AW l G M fr lo mc ms Post n0 nc ns (pc + 1) L S (va_up f a (.inl (6, (N, .inr (.inr (.inr (.inr (va_up g i.toNatClampNeg (some v)))))))))  n) : AW l G M fr lo mc ms Post n0 nc ns pc L (.ref v :: .int i :: .ref a :: S) f n := by
  intro p e s m args below meth c C ρ0 ρ H locs ls R
  refine vb_astq (E := RX9) (C := RX9) C.hx C.hb C.hK R.wd.1 R.wd.2.1 R.hS (a - o0) 6 (wl_get R.wd hf nilc_a) rfl (rc_cell (RC.o hv hv0) C R) vb_asgS hin hdg (fun H1 locs1 hP hD hS => ?_)
  rw [va_up_map] at hP hD
  have hok : cOK n (.inl (6, (N, .inr (.inr (.inr (.inr (va_up g i.toNatClampNeg (some v)))))))) := fun j z hz => by
    have h5 := R.wd.2.2.2.2.2 a
    rw [hf] at h5
    by_cases hj : j = i.toNatClampNeg
    · rw [hj, up_self] at hz
      cases hz
      exact ok_hd R.okS
    · rw [up_ne hj] at hz
      exact h5 j z hz
  exact k C (R.heap (R.wd.set hf nilc_a hok hP hD) hS (ok_tl (ok_tl (ok_tl R.okS))))
end RW3
