/-! one form for every call of the gym -/
def qAt9 (s : SG) (v : Int32) : Nat × Nat := if isK v s.2.2.2.2.2.1 = true then (0, s.2.2.2.2.2.2 v.toNatClampNeg) else (1, 0)
theorem at9_eq {s : SG} {Lc : List Nat} (hcl : Lc.length = s.2.2.2.2.2.1) (hcx : ∀ i, i < Lc.length → Lc.getD i 0 = s.2.2.2.2.2.2 i) (hc : s.2.2.2.2.2.1 < 2 ^ 31) (v : Int32) : (if isK v Lc.length = true then (0, Lc.getD v.toNatClampNeg 0) else (1, 0)) = qAt9 s v := by
  unfold qAt9
  rw [← hcl]
  by_cases h : isK v Lc.length = true
  · rw [if_pos h, if_pos h]
    obtain ⟨k, hk, rfl⟩ := isK_of (by omega) h
    rw [nIc (by omega), hcx k hk]
  · rw [if_neg h, if_neg h]
/-- an answer (nothing thrown), the state behind it, the rest of the heap kept -/
def GA (y : Option Value) (x bp : Nat) (H : HT) (n : Nat) (s' : SG) : PT := fun r f' n' => r = .inl y ∧ n ≤ n' ∧ ∃ bp', (bp' = bp ∨ n ≤ bp') ∧ GW f' x bp' n' s' ∧ ∀ a, a < n → (a < x ∨ x + 112 ≤ a) → a ≠ bp → f' a = H a
theorem GX.ga {l : Launch} {G : GT} {y : MethodName} {w : Cond} {fr lo mc ms : Nat} {as : List Value} {H : HT} {n x bp : Nat} {s' : SG} {es : List String} {c : Nat} {v : Value} (hc : c = 0) (h : AM l G y w fr lo mc ms as H n (GX es c v x bp H n s')) : AM l G y w fr lo mc ms as H n (GA (some v) x bp H n s') :=
  AM.post h fun r f' n' hr => ⟨hr.1.trans (by rw [xA, if_pos hc]), hr.2⟩
theorem q_addPendulum {l : Launch} {G : GT} {n : Nat} {H : HT} {x bp K : Nat} {s : SG} (hW : GW H x bp n s) (hSB : SB K s) (hK : K + 30500 < 16000000) (v : Int32) : AM l G yX10_addPendulum (.code yX10_addPendulum cX10_addPendulum 2 (some .int)) 10 600 4 24 [.ref x, .int v] H n (GX [eIA, eIS] ((opAdd s.1 v).1) (.int (nI (opAdd s.1 v).2.1)) x bp H n (opS s (opAdd s.1 v))) := by
  obtain ⟨h0, ⟨J, B, hst, hS⟩, -, -, -, ⟨T1, hk1⟩, ⟨T4, hk4⟩, -, ⟨Lc, hcd, hcl, hcx⟩, hox, hbx⟩ := id hW
  exact g_addPendulum (l := l) (G := G) hW hSB.1 v
theorem q_push {l : Launch} {G : GT} {n : Nat} {H : HT} {x bp K : Nat} {s : SG} (hW : GW H x bp n s) (hSB : SB K s) (hK : K + 30500 < 16000000) (v u : Int32) : AM l G yX10_push (.code yX10_push cX10_push 3 (some .int)) 10 600 4 24 [.ref x, .int v, .int u] H n (GX [eIO, eIA, eIS] ((opPush s.1 v u).1) (.int (nI (opPush s.1 v u).2.1)) x bp H n (opS s (opPush s.1 v u))) := by
  obtain ⟨h0, ⟨J, B, hst, hS⟩, -, -, -, ⟨T1, hk1⟩, ⟨T4, hk4⟩, -, ⟨Lc, hcd, hcl, hcx⟩, hox, hbx⟩ := id hW
  exact g_push (l := l) (G := G) hW hSB.1 v u
theorem q_catchPendulum {l : Launch} {G : GT} {n : Nat} {H : HT} {x bp K : Nat} {s : SG} (hW : GW H x bp n s) (hSB : SB K s) (hK : K + 30500 < 16000000) (v : Int32) : AM l G yX10_catchPendulum (.code yX10_catchPendulum cX10_catchPendulum 2 (some .int)) 10 600 4 24 [.ref x, .int v] H n (GX [eIO, eIS] ((opCatch s.1 v).1) (.int (nI (opCatch s.1 v).2.1)) x bp H n (opS s (opCatch s.1 v))) := by
  obtain ⟨h0, ⟨J, B, hst, hS⟩, -, -, -, ⟨T1, hk1⟩, ⟨T4, hk4⟩, -, ⟨Lc, hcd, hcl, hcx⟩, hox, hbx⟩ := id hW
  exact g_catchPendulum (l := l) (G := G) hW hSB.1 v
theorem q_setFriction {l : Launch} {G : GT} {n : Nat} {H : HT} {x bp K : Nat} {s : SG} (hW : GW H x bp n s) (hSB : SB K s) (hK : K + 30500 < 16000000) (v : Int32) : AM l G yX10_setFriction (.code yX10_setFriction cX10_setFriction 2 (some .int)) 10 600 4 24 [.ref x, .int v] H n (GX [eIA] ((opFric s.1 v).1) (.int (nI (opFric s.1 v).2.1)) x bp H n (opS s (opFric s.1 v))) := by
  obtain ⟨h0, ⟨J, B, hst, hS⟩, -, -, -, ⟨T1, hk1⟩, ⟨T4, hk4⟩, -, ⟨Lc, hcd, hcl, hcx⟩, hox, hbx⟩ := id hW
  exact g_setFriction (l := l) (G := G) hW hSB.1 v
theorem q_pass {l : Launch} {G : GT} {n : Nat} {H : HT} {x bp K : Nat} {s : SG} (hW : GW H x bp n s) (hSB : SB K s) (hK : K + 30500 < 16000000) (v : Int32) : AM l G yX10_pass (.code yX10_pass cX10_pass 2 (some .int)) 10 600 4 24 [.ref x, .int v] H n (GX [eIA] ((opPass s.1 v).1) (.int (nI (opPass s.1 v).2.1)) x bp H n (opS s (opPass s.1 v))) := by
  obtain ⟨h0, ⟨J, B, hst, hS⟩, -, -, -, ⟨T1, hk1⟩, ⟨T4, hk4⟩, -, ⟨Lc, hcd, hcl, hcx⟩, hox, hbx⟩ := id hW
  exact g_pass (l := l) (G := G) hW hSB.1 (by omega) v
theorem q_addLeg {l : Launch} {G : GT} {n : Nat} {H : HT} {x bp K : Nat} {s : SG} (hW : GW H x bp n s) (hSB : SB K s) (hK : K + 30500 < 16000000) (v : Int32) : AM l G yX10_addLeg (.code yX10_addLeg cX10_addLeg 2 (some .int)) 10 600 4 24 [.ref x, .int v] H n (GX [eIA, eIS] ((opLeg s.1 v).1) (.int (nI (opLeg s.1 v).2.1)) x bp H n (opS s (opLeg s.1 v))) := by
  obtain ⟨h0, ⟨J, B, hst, hS⟩, -, -, -, ⟨T1, hk1⟩, ⟨T4, hk4⟩, -, ⟨Lc, hcd, hcl, hcx⟩, hox, hbx⟩ := id hW
  exact g_addLeg (l := l) (G := G) hW hSB.1 v
theorem q_removeLeg {l : Launch} {G : GT} {n : Nat} {H : HT} {x bp K : Nat} {s : SG} (hW : GW H x bp n s) (hSB : SB K s) (hK : K + 30500 < 16000000) (v : Int32) : AM l G yX10_removeLeg (.code yX10_removeLeg cX10_removeLeg 2 (some .int)) 10 600 4 24 [.ref x, .int v] H n (GX [eIO] ((opCut s.1 v).1) (.int (nI (opCut s.1 v).2.1)) x bp H n (opS s (opCut s.1 v))) := by
  obtain ⟨h0, ⟨J, B, hst, hS⟩, -, -, -, ⟨T1, hk1⟩, ⟨T4, hk4⟩, -, ⟨Lc, hcd, hcl, hcx⟩, hox, hbx⟩ := id hW
  exact g_removeLeg (l := l) (G := G) hW hSB.1 v
theorem q_pendulumCount {l : Launch} {G : GT} {n : Nat} {H : HT} {x bp K : Nat} {s : SG} (hW : GW H x bp n s) (hSB : SB K s) (hK : K + 30500 < 16000000)  : AM l G yX10_pendulumCount (.code yX10_pendulumCount cX10_pendulumCount 1 (some .int)) 10 600 4 24 [.ref x] H n (GX [] (0) (.int (nI (s.1 2))) x bp H n (s)) := by
  obtain ⟨h0, ⟨J, B, hst, hS⟩, -, -, -, ⟨T1, hk1⟩, ⟨T4, hk4⟩, -, ⟨Lc, hcd, hcl, hcx⟩, hox, hbx⟩ := id hW
  exact HQ.gx (es := []) (c := 0) hW (g_pendulumCount (l := l) (G := G) (n := n) h0 hst hS hSB.1)
theorem q_clock {l : Launch} {G : GT} {n : Nat} {H : HT} {x bp K : Nat} {s : SG} (hW : GW H x bp n s) (hSB : SB K s) (hK : K + 30500 < 16000000)  : AM l G yX10_clock (.code yX10_clock cX10_clock 1 (some .int)) 10 600 4 24 [.ref x] H n (GX [] (0) (.int (nI (s.1 0))) x bp H n (s)) := by
  obtain ⟨h0, ⟨J, B, hst, hS⟩, -, -, -, ⟨T1, hk1⟩, ⟨T4, hk4⟩, -, ⟨Lc, hcd, hcl, hcx⟩, hox, hbx⟩ := id hW
  exact HQ.gx (es := []) (c := 0) hW (g_clock (l := l) (G := G) (n := n) h0 hst hS hSB.1)
theorem q_friction {l : Launch} {G : GT} {n : Nat} {H : HT} {x bp K : Nat} {s : SG} (hW : GW H x bp n s) (hSB : SB K s) (hK : K + 30500 < 16000000)  : AM l G yX10_friction (.code yX10_friction cX10_friction 1 (some .int)) 10 600 4 24 [.ref x] H n (GX [] (0) (.int (nI (s.1 1))) x bp H n (s)) := by
  obtain ⟨h0, ⟨J, B, hst, hS⟩, -, -, -, ⟨T1, hk1⟩, ⟨T4, hk4⟩, -, ⟨Lc, hcd, hcl, hcx⟩, hox, hbx⟩ := id hW
  exact HQ.gx (es := []) (c := 0) hW (g_friction (l := l) (G := G) (n := n) h0 hst hS hSB.1)
theorem q_legCount {l : Launch} {G : GT} {n : Nat} {H : HT} {x bp K : Nat} {s : SG} (hW : GW H x bp n s) (hSB : SB K s) (hK : K + 30500 < 16000000)  : AM l G yX10_legCount (.code yX10_legCount cX10_legCount 1 (some .int)) 10 600 4 24 [.ref x] H n (GX [] (0) (.int (nI (s.1 3))) x bp H n (s)) := by
  obtain ⟨h0, ⟨J, B, hst, hS⟩, -, -, -, ⟨T1, hk1⟩, ⟨T4, hk4⟩, -, ⟨Lc, hcd, hcl, hcx⟩, hox, hbx⟩ := id hW
  exact HQ.gx (es := []) (c := 0) hW (g_legCount (l := l) (G := G) (n := n) h0 hst hS hSB.1)
theorem q_meetingPairs {l : Launch} {G : GT} {n : Nat} {H : HT} {x bp K : Nat} {s : SG} (hW : GW H x bp n s) (hSB : SB K s) (hK : K + 30500 < 16000000)  : AM l G yX10_meetingPairs (.code yX10_meetingPairs cX10_meetingPairs 1 (some .int)) 10 600 4 24 [.ref x] H n (GX [] (0) (.int (nI (prO s.1 (s.1 2)))) x bp H n (s)) := by
  obtain ⟨h0, ⟨J, B, hst, hS⟩, -, -, -, ⟨T1, hk1⟩, ⟨T4, hk4⟩, -, ⟨Lc, hcd, hcl, hcx⟩, hox, hbx⟩ := id hW
  exact HQ.gx (es := []) (c := 0) hW (g_meetingPairs (l := l) (G := G) (n := n) h0 hst hS hSB.1)
theorem q_lengthOf {l : Launch} {G : GT} {n : Nat} {H : HT} {x bp K : Nat} {s : SG} (hW : GW H x bp n s) (hSB : SB K s) (hK : K + 30500 < 16000000) (v : Int32) : AM l G yX10_lengthOf (.code yX10_lengthOf cX10_lengthOf 2 (some .int)) 10 600 4 24 [.ref x, .int v] H n (GX [eIO] ((qNum s.1 4 v).1) (.int (nI (qNum s.1 4 v).2)) x bp H n (s)) := by
  obtain ⟨h0, ⟨J, B, hst, hS⟩, -, -, -, ⟨T1, hk1⟩, ⟨T4, hk4⟩, -, ⟨Lc, hcd, hcl, hcx⟩, hox, hbx⟩ := id hW
  exact HQ.gx hW (g_lengthOf (l := l) (G := G) h0 hst hS hSB.1 v)
theorem q_classOf {l : Launch} {G : GT} {n : Nat} {H : HT} {x bp K : Nat} {s : SG} (hW : GW H x bp n s) (hSB : SB K s) (hK : K + 30500 < 16000000) (v : Int32) : AM l G yX10_classOf (.code yX10_classOf cX10_classOf 2 (some .int)) 10 600 4 24 [.ref x, .int v] H n (GX [eIO] ((qClass s.1 v).1) (.int (nI (qClass s.1 v).2)) x bp H n (s)) := by
  obtain ⟨h0, ⟨J, B, hst, hS⟩, -, -, -, ⟨T1, hk1⟩, ⟨T4, hk4⟩, -, ⟨Lc, hcd, hcl, hcx⟩, hox, hbx⟩ := id hW
  exact HQ.gx hW (g_classOf (l := l) (G := G) h0 hst hS hSB.1 v)
theorem q_amplitudeOf {l : Launch} {G : GT} {n : Nat} {H : HT} {x bp K : Nat} {s : SG} (hW : GW H x bp n s) (hSB : SB K s) (hK : K + 30500 < 16000000) (v : Int32) : AM l G yX10_amplitudeOf (.code yX10_amplitudeOf cX10_amplitudeOf 2 (some .int)) 10 600 4 24 [.ref x, .int v] H n (GX [eIO] ((qNum s.1 12 v).1) (.int (nI (qNum s.1 12 v).2)) x bp H n (s)) := by
  obtain ⟨h0, ⟨J, B, hst, hS⟩, -, -, -, ⟨T1, hk1⟩, ⟨T4, hk4⟩, -, ⟨Lc, hcd, hcl, hcx⟩, hox, hbx⟩ := id hW
  exact HQ.gx hW (g_amplitudeOf (l := l) (G := G) h0 hst hS hSB.1 v)
theorem q_startOf {l : Launch} {G : GT} {n : Nat} {H : HT} {x bp K : Nat} {s : SG} (hW : GW H x bp n s) (hSB : SB K s) (hK : K + 30500 < 16000000) (v : Int32) : AM l G yX10_startOf (.code yX10_startOf cX10_startOf 2 (some .int)) 10 600 4 24 [.ref x, .int v] H n (GX [eIO, eNS] ((qStart s.1 v).1) (.int (nI (qStart s.1 v).2)) x bp H n (s)) := by
  obtain ⟨h0, ⟨J, B, hst, hS⟩, -, -, -, ⟨T1, hk1⟩, ⟨T4, hk4⟩, -, ⟨Lc, hcd, hcl, hcx⟩, hox, hbx⟩ := id hW
  exact HQ.gx hW (g_startOf (l := l) (G := G) h0 hst hS hSB.1 v)
theorem q_periodOf {l : Launch} {G : GT} {n : Nat} {H : HT} {x bp K : Nat} {s : SG} (hW : GW H x bp n s) (hSB : SB K s) (hK : K + 30500 < 16000000) (v : Int32) : AM l G yX10_periodOf (.code yX10_periodOf cX10_periodOf 2 (some .int)) 10 600 4 24 [.ref x, .int v] H n (GX [eIO] ((qPeriod s.1 v).1) (.int (nI (qPeriod s.1 v).2)) x bp H n (s)) := by
  obtain ⟨h0, ⟨J, B, hst, hS⟩, -, -, -, ⟨T1, hk1⟩, ⟨T4, hk4⟩, -, ⟨Lc, hcd, hcl, hcx⟩, hox, hbx⟩ := id hW
  exact HQ.gx hW (g_periodOf (l := l) (G := G) h0 hst hS hSB.1 v)
theorem q_periodByEstimates {l : Launch} {G : GT} {n : Nat} {H : HT} {x bp K : Nat} {s : SG} (hW : GW H x bp n s) (hSB : SB K s) (hK : K + 30500 < 16000000) (v : Int32) : AM l G yX10_periodByEstimates (.code yX10_periodByEstimates cX10_periodByEstimates 2 (some .int)) 10 600 4 24 [.ref x, .int v] H n (GX [eIO] ((qPeriod s.1 v).1) (.int (nI (qPeriod s.1 v).2)) x bp H n (s)) := by
  obtain ⟨h0, ⟨J, B, hst, hS⟩, -, -, -, ⟨T1, hk1⟩, ⟨T4, hk4⟩, -, ⟨Lc, hcd, hcl, hcx⟩, hox, hbx⟩ := id hW
  exact HQ.gx hW (g_periodByEstimates (l := l) (G := G) h0 hst hS hSB.1 v)
theorem q_swingsOf {l : Launch} {G : GT} {n : Nat} {H : HT} {x bp K : Nat} {s : SG} (hW : GW H x bp n s) (hSB : SB K s) (hK : K + 30500 < 16000000) (v : Int32) : AM l G yX10_swingsOf (.code yX10_swingsOf cX10_swingsOf 2 (some .int)) 10 600 4 24 [.ref x, .int v] H n (GX [eIO] ((qNum s.1 28 v).1) (.int (nI (qNum s.1 28 v).2)) x bp H n (s)) := by
  obtain ⟨h0, ⟨J, B, hst, hS⟩, -, -, -, ⟨T1, hk1⟩, ⟨T4, hk4⟩, -, ⟨Lc, hcd, hcl, hcx⟩, hox, hbx⟩ := id hW
  exact HQ.gx hW (g_swingsOf (l := l) (G := G) h0 hst hS hSB.1 v)
theorem q_recordOf {l : Launch} {G : GT} {n : Nat} {H : HT} {x bp K : Nat} {s : SG} (hW : GW H x bp n s) (hSB : SB K s) (hK : K + 30500 < 16000000) (v : Int32) : AM l G yX10_recordOf (.code yX10_recordOf cX10_recordOf 2 (some .int)) 10 600 4 24 [.ref x, .int v] H n (GX [eIA, eNS] ((qRec s.1 36 v).1) (.int (nI (qRec s.1 36 v).2)) x bp H n (s)) := by
  obtain ⟨h0, ⟨J, B, hst, hS⟩, -, -, -, ⟨T1, hk1⟩, ⟨T4, hk4⟩, -, ⟨Lc, hcd, hcl, hcx⟩, hox, hbx⟩ := id hW
  exact HQ.gx hW (g_recordOf (l := l) (G := G) h0 hst hS hSB.1 v)
theorem q_holderOf {l : Launch} {G : GT} {n : Nat} {H : HT} {x bp K : Nat} {s : SG} (hW : GW H x bp n s) (hSB : SB K s) (hK : K + 30500 < 16000000) (v : Int32) : AM l G yX10_holderOf (.code yX10_holderOf cX10_holderOf 2 (some .int)) 10 600 4 24 [.ref x, .int v] H n (GX [eIA, eNS] ((qRec s.1 39 v).1) (.int (nI (qRec s.1 39 v).2)) x bp H n (s)) := by
  obtain ⟨h0, ⟨J, B, hst, hS⟩, -, -, -, ⟨T1, hk1⟩, ⟨T4, hk4⟩, -, ⟨Lc, hcd, hcl, hcx⟩, hox, hbx⟩ := id hW
  exact HQ.gx hW (g_holderOf (l := l) (G := G) h0 hst hS hSB.1 v)
theorem q_pendulumAtRank {l : Launch} {G : GT} {n : Nat} {H : HT} {x bp K : Nat} {s : SG} (hW : GW H x bp n s) (hSB : SB K s) (hK : K + 30500 < 16000000) (v : Int32) : AM l G yX10_pendulumAtRank (.code yX10_pendulumAtRank cX10_pendulumAtRank 3 (some .int)) 10 600 4 24 [.ref x, .int v] H n (GX [eNS] ((qRank s.1 v).1) (.int (nI (qRank s.1 v).2)) x bp H n (s)) := by
  obtain ⟨h0, ⟨J, B, hst, hS⟩, -, -, -, ⟨T1, hk1⟩, ⟨T4, hk4⟩, -, ⟨Lc, hcd, hcl, hcx⟩, hox, hbx⟩ := id hW
  exact HQ.gx hW (g_pendulumAtRank (l := l) (G := G) h0 hst hS hSB.1 v)
theorem q_swingsToRest {l : Launch} {G : GT} {n : Nat} {H : HT} {x bp K : Nat} {s : SG} (hW : GW H x bp n s) (hSB : SB K s) (hK : K + 30500 < 16000000) (v : Int32) : AM l G yX10_swingsToRest (.code yX10_swingsToRest cX10_swingsToRest 2 (some .int)) 10 600 4 24 [.ref x, .int v] H n (GX [eIO] ((qLeft s.1 v).1) (.int (nI (qLeft s.1 v).2)) x bp H n (s)) := by
  obtain ⟨h0, ⟨J, B, hst, hS⟩, -, -, -, ⟨T1, hk1⟩, ⟨T4, hk4⟩, -, ⟨Lc, hcd, hcl, hcx⟩, hox, hbx⟩ := id hW
  exact HQ.gx hW (g_swingsToRest (l := l) (G := G) h0 hst hS hSB.1 hk1 v)
theorem q_swingsToRestByTable {l : Launch} {G : GT} {n : Nat} {H : HT} {x bp K : Nat} {s : SG} (hW : GW H x bp n s) (hSB : SB K s) (hK : K + 30500 < 16000000) (v : Int32) : AM l G yX10_swingsToRestByTable (.code yX10_swingsToRestByTable cX10_swingsToRestByTable 2 (some .int)) 10 600 4 24 [.ref x, .int v] H n (GX [eIO] ((qLeft s.1 v).1) (.int (nI (qLeft s.1 v).2)) x bp H n (s)) := by
  obtain ⟨h0, ⟨J, B, hst, hS⟩, -, -, -, ⟨T1, hk1⟩, ⟨T4, hk4⟩, -, ⟨Lc, hcd, hcl, hcx⟩, hox, hbx⟩ := id hW
  exact TQ.gx1 hW (g_swingsToRestByTable (l := l) (G := G) h0 hst hS hSB.1 hk1 v)
theorem q_restTick {l : Launch} {G : GT} {n : Nat} {H : HT} {x bp K : Nat} {s : SG} (hW : GW H x bp n s) (hSB : SB K s) (hK : K + 30500 < 16000000) (v : Int32) : AM l G yX10_restTick (.code yX10_restTick cX10_restTick 2 (some .int)) 10 600 4 24 [.ref x, .int v] H n (GX [eIO, eNS] ((qRest s.1 v).1) (.int (nI (qRest s.1 v).2)) x bp H n (s)) := by
  obtain ⟨h0, ⟨J, B, hst, hS⟩, -, -, -, ⟨T1, hk1⟩, ⟨T4, hk4⟩, -, ⟨Lc, hcd, hcl, hcx⟩, hox, hbx⟩ := id hW
  exact HQ.gx hW (g_restTick (l := l) (G := G) h0 hst hS hSB.1 hk1 v)
theorem q_amplitudeAfter {l : Launch} {G : GT} {n : Nat} {H : HT} {x bp K : Nat} {s : SG} (hW : GW H x bp n s) (hSB : SB K s) (hK : K + 30500 < 16000000) (v u : Int32) : AM l G yX10_amplitudeAfter (.code yX10_amplitudeAfter cX10_amplitudeAfter 3 (some .int)) 10 600 4 24 [.ref x, .int v, .int u] H n (GX [eIO, eIA] ((qAfter s.1 v u).1) (.int (nI (qAfter s.1 v u).2)) x bp H n (s)) := by
  obtain ⟨h0, ⟨J, B, hst, hS⟩, -, -, -, ⟨T1, hk1⟩, ⟨T4, hk4⟩, -, ⟨Lc, hcd, hcl, hcx⟩, hox, hbx⟩ := id hW
  exact HQ.gx hW (g_amplitudeAfter (l := l) (G := G) h0 hst hS hSB.1 hk1 v u)
theorem q_meeting {l : Launch} {G : GT} {n : Nat} {H : HT} {x bp K : Nat} {s : SG} (hW : GW H x bp n s) (hSB : SB K s) (hK : K + 30500 < 16000000) (v u : Int32) : AM l G yX10_meeting (.code yX10_meeting cX10_meeting 3 (some .int)) 10 600 8 48 [.ref x, .int v, .int u] H n (GX [eIO, eIS, eNS] ((qMeet s.1 v u).1) (.int (nI (qMeet s.1 v u).2)) x bp H n (s)) := by
  obtain ⟨h0, ⟨J, B, hst, hS⟩, -, -, -, ⟨T1, hk1⟩, ⟨T4, hk4⟩, -, ⟨Lc, hcd, hcl, hcx⟩, hox, hbx⟩ := id hW
  exact HQ.gx hW (g_meeting (l := l) (G := G) h0 hst hS hSB.1 v u)
theorem q_meetingByDivisors {l : Launch} {G : GT} {n : Nat} {H : HT} {x bp K : Nat} {s : SG} (hW : GW H x bp n s) (hSB : SB K s) (hK : K + 30500 < 16000000) (v u : Int32) : AM l G yX10_meetingByDivisors (.code yX10_meetingByDivisors cX10_meetingByDivisors 3 (some .int)) 10 600 8 48 [.ref x, .int v, .int u] H n (GX [eIO, eIS, eNS] ((qMeet s.1 v u).1) (.int (nI (qMeet s.1 v u).2)) x bp H n (s)) := by
  obtain ⟨h0, ⟨J, B, hst, hS⟩, -, -, -, ⟨T1, hk1⟩, ⟨T4, hk4⟩, -, ⟨Lc, hcd, hcl, hcx⟩, hox, hbx⟩ := id hW
  exact HQ.gx hW (g_meetingByDivisors (l := l) (G := G) h0 hst hS hSB.1 v u)
theorem q_cycleOf {l : Launch} {G : GT} {n : Nat} {H : HT} {x bp K : Nat} {s : SG} (hW : GW H x bp n s) (hSB : SB K s) (hK : K + 30500 < 16000000) (v u : Int32) : AM l G yX10_cycleOf (.code yX10_cycleOf cX10_cycleOf 3 (some .int)) 10 600 4 24 [.ref x, .int v, .int u] H n (GX [eIO] ((qCycle s.1 v u).1) (.int (nI (qCycle s.1 v u).2)) x bp H n (s)) := by
  obtain ⟨h0, ⟨J, B, hst, hS⟩, -, -, -, ⟨T1, hk1⟩, ⟨T4, hk4⟩, -, ⟨Lc, hcd, hcl, hcx⟩, hox, hbx⟩ := id hW
  exact HQ.gx hW (g_cycleOf (l := l) (G := G) h0 hst hS hSB.1 v u)
theorem q_wishOf {l : Launch} {G : GT} {n : Nat} {H : HT} {x bp K : Nat} {s : SG} (hW : GW H x bp n s) (hSB : SB K s) (hK : K + 30500 < 16000000) (v : Int32) : AM l G yX10_wishOf (.code yX10_wishOf cX10_wishOf 2 (some .int)) 10 600 4 24 [.ref x, .int v] H n (GX [eIO] ((qWish s.1 v).1) (.int (nI (qWish s.1 v).2)) x bp H n (s)) := by
  obtain ⟨h0, ⟨J, B, hst, hS⟩, -, -, -, ⟨T1, hk1⟩, ⟨T4, hk4⟩, -, ⟨Lc, hcd, hcl, hcx⟩, hox, hbx⟩ := id hW
  exact HQ.gx hW (g_wishOf (l := l) (G := G) h0 hst hS hSB.1 v)
theorem q_leastRelay {l : Launch} {G : GT} {n : Nat} {H : HT} {x bp K : Nat} {s : SG} (hW : GW H x bp n s) (hSB : SB K s) (hK : K + 30500 < 16000000)  : AM l G yX10_leastRelay (.code yX10_leastRelay cX10_leastRelay 1 (some .int)) 10 600 4 24 [.ref x] H n (GX [eIS] ((qRelay s.1).1) (.int (nI (qRelay s.1).2)) x bp H n (s)) := by
  obtain ⟨h0, ⟨J, B, hst, hS⟩, -, -, -, ⟨T1, hk1⟩, ⟨T4, hk4⟩, -, ⟨Lc, hcd, hcl, hcx⟩, hox, hbx⟩ := id hW
  exact TQ.gx4 hW (g_leastRelay (l := l) (G := G) h0 hst hS hSB.1 hk4)
theorem q_leastRelayByTrying {l : Launch} {G : GT} {n : Nat} {H : HT} {x bp K : Nat} {s : SG} (hW : GW H x bp n s) (hSB : SB K s) (hK : K + 30500 < 16000000)  : AM l G yX10_leastRelayByTrying (.code yX10_leastRelayByTrying cX10_leastRelayByTrying 1 (some .int)) 10 600 4 24 [.ref x] H n (GX [eIS] ((qRelay s.1).1) (.int (nI (qRelay s.1).2)) x bp H n (s)) := by
  obtain ⟨h0, ⟨J, B, hst, hS⟩, -, -, -, ⟨T1, hk1⟩, ⟨T4, hk4⟩, -, ⟨Lc, hcd, hcl, hcx⟩, hox, hbx⟩ := id hW
  exact HQ.gx hW (g_leastRelayByTrying (l := l) (G := G) h0 hst hS hSB.1 )
theorem q_runnerOf {l : Launch} {G : GT} {n : Nat} {H : HT} {x bp K : Nat} {s : SG} (hW : GW H x bp n s) (hSB : SB K s) (hK : K + 30500 < 16000000) (v : Int32) : AM l G yX10_runnerOf (.code yX10_runnerOf cX10_runnerOf 2 (some .int)) 10 600 4 24 [.ref x, .int v] H n (GX [eIO, eIS] ((qRunner s.1 v).1) (.int (nI (qRunner s.1 v).2)) x bp H n (s)) := by
  obtain ⟨h0, ⟨J, B, hst, hS⟩, -, -, -, ⟨T1, hk1⟩, ⟨T4, hk4⟩, -, ⟨Lc, hcd, hcl, hcx⟩, hox, hbx⟩ := id hW
  exact TQ.gx4 hW (g_runnerOf (l := l) (G := G) h0 hst hS hSB.1 hk4 v)
theorem q_fewestFor {l : Launch} {G : GT} {n : Nat} {H : HT} {x bp K : Nat} {s : SG} (hW : GW H x bp n s) (hSB : SB K s) (hK : K + 30500 < 16000000) (v : Int32) : AM l G yX10_fewestFor (.code yX10_fewestFor cX10_fewestFor 2 (some .int)) 10 600 4 24 [.ref x, .int v] H n (GX [eIA, eNS] ((qFew s.1 v).1) (.int (nI (qFew s.1 v).2)) x bp H n (s)) := by
  obtain ⟨h0, ⟨J, B, hst, hS⟩, -, -, -, ⟨T1, hk1⟩, ⟨T4, hk4⟩, -, ⟨Lc, hcd, hcl, hcx⟩, hox, hbx⟩ := id hW
  exact HQ.gx hW (g_fewestFor (l := l) (G := G) h0 hst hS hSB.1 v)
theorem q_fewestForBySets {l : Launch} {G : GT} {n : Nat} {H : HT} {x bp K : Nat} {s : SG} (hW : GW H x bp n s) (hSB : SB K s) (hK : K + 30500 < 16000000) (v : Int32) : AM l G yX10_fewestForBySets (.code yX10_fewestForBySets cX10_fewestForBySets 2 (some .int)) 10 600 4 24 [.ref x, .int v] H n (GX [eIA, eNS] ((qFew s.1 v).1) (.int (nI (qFew s.1 v).2)) x bp H n (s)) := by
  obtain ⟨h0, ⟨J, B, hst, hS⟩, -, -, -, ⟨T1, hk1⟩, ⟨T4, hk4⟩, -, ⟨Lc, hcd, hcl, hcx⟩, hox, hbx⟩ := id hW
  exact HQ.gx hW (g_fewestForBySets (l := l) (G := G) h0 hst hS hSB.1 v)
theorem q_exactSets {l : Launch} {G : GT} {n : Nat} {H : HT} {x bp K : Nat} {s : SG} (hW : GW H x bp n s) (hSB : SB K s) (hK : K + 30500 < 16000000) (v : Int32) : AM l G yX10_exactSets (.code yX10_exactSets cX10_exactSets 2 (some .int)) 10 600 4 24 [.ref x, .int v] H n (GX [eIA] ((qExa s.1 v).1) (.int (nI (qExa s.1 v).2)) x bp H n (s)) := by
  obtain ⟨h0, ⟨J, B, hst, hS⟩, -, -, -, ⟨T1, hk1⟩, ⟨T4, hk4⟩, -, ⟨Lc, hcd, hcl, hcx⟩, hox, hbx⟩ := id hW
  exact HQ.gx hW (g_exactSets (l := l) (G := G) h0 hst hS hSB.1 v)
theorem q_meanAmplitude {l : Launch} {G : GT} {n : Nat} {H : HT} {x bp K : Nat} {s : SG} (hW : GW H x bp n s) (hSB : SB K s) (hK : K + 30500 < 16000000)  : AM l G yX10_meanAmplitude (.code yX10_meanAmplitude cX10_meanAmplitude 2 (some .double)) 10 600 4 24 [.ref x] H n (GX [eAR] ((qMean s.1).1) (.double (qMean s.1).2) x bp H n (s)) := by
  obtain ⟨h0, ⟨J, B, hst, hS⟩, -, -, -, ⟨T1, hk1⟩, ⟨T4, hk4⟩, -, ⟨Lc, hcd, hcl, hcx⟩, hox, hbx⟩ := id hW
  exact HQ.gx hW (g_meanAmplitude (l := l) (G := G) h0 hst hS hSB.1)
theorem q_writeCard {l : Launch} {G : GT} {n : Nat} {H : HT} {x bp K : Nat} {s : SG} (hW : GW H x bp n s) (hSB : SB K s) (hK : K + 30500 < 16000000) (v : Int32) : AM l G yX10_writeCard (.code yX10_writeCard cX10_writeCard 2 (some .int)) 10 600 12 360 [.ref x, .int v] H n (GX [eIO] ((qCard s.1 v).1) (.int (nI (qCard s.1 v).2.length)) x bp H n (cardS s (qCard s.1 v))) := by
  obtain ⟨h0, ⟨J, B, hst, hS⟩, -, -, -, ⟨T1, hk1⟩, ⟨T4, hk4⟩, -, ⟨Lc, hcd, hcl, hcx⟩, hox, hbx⟩ := id hW
  exact g_writeCard (l := l) (G := G) hW hSB v
theorem q_type {l : Launch} {G : GT} {n : Nat} {H : HT} {x bp K : Nat} {s : SG} (hW : GW H x bp n s) (hSB : SB K s) (hK : K + 30500 < 16000000) (v : Int32) : AM l G yX10_type (.code yX10_type cX10_type 2 (some .int)) 10 600 4 24 [.ref x, .int v] H n (GX [eIA, eIS] ((qType s v).1) (.int (nI (qType s v).2)) x bp H n (typS s v)) := by
  obtain ⟨h0, ⟨J, B, hst, hS⟩, -, -, -, ⟨T1, hk1⟩, ⟨T4, hk4⟩, -, ⟨Lc, hcd, hcl, hcx⟩, hox, hbx⟩ := id hW
  exact g_type (l := l) (G := G) hW hSB v
theorem q_execute {l : Launch} {G : GT} {n : Nat} {H : HT} {x bp K : Nat} {s : SG} (hW : GW H x bp n s) (hSB : SB K s) (hK : K + 30500 < 16000000)  : AM l G yX10_execute (.code yX10_execute cX10_execute 3 (some .int)) 10 600 4 24 [.ref x] H n (GX [eIA, eIS] ((qExe s).1) (.int (nI (qExe s).2.1)) x bp H n ((qExe s).2.2)) := by
  obtain ⟨h0, ⟨J, B, hst, hS⟩, -, -, -, ⟨T1, hk1⟩, ⟨T4, hk4⟩, -, ⟨Lc, hcd, hcl, hcx⟩, hox, hbx⟩ := id hW
  exact g_execute (l := l) (G := G) hW hSB hK
theorem q_errorPosition {l : Launch} {G : GT} {n : Nat} {H : HT} {x bp K : Nat} {s : SG} (hW : GW H x bp n s) (hSB : SB K s) (hK : K + 30500 < 16000000)  : AM l G yX10_errorPosition (.code yX10_errorPosition cX10_errorPosition 1 (some .int)) 10 600 4 24 [.ref x] H n (GX [eNS] ((qE s.2.2.2.2.1.1).1) (.int (qE s.2.2.2.2.1.1).2) x bp H n (s)) := by
  obtain ⟨h0, ⟨J, B, hst, hS⟩, -, -, -, ⟨T1, hk1⟩, ⟨T4, hk4⟩, -, ⟨Lc, hcd, hcl, hcx⟩, hox, hbx⟩ := id hW
  exact HQ.gx hW (g_errorPosition (l := l) (G := G) h0 hst hS hSB.1)
theorem q_failedCommand {l : Launch} {G : GT} {n : Nat} {H : HT} {x bp K : Nat} {s : SG} (hW : GW H x bp n s) (hSB : SB K s) (hK : K + 30500 < 16000000)  : AM l G yX10_failedCommand (.code yX10_failedCommand cX10_failedCommand 1 (some .int)) 10 600 4 24 [.ref x] H n (GX [eNS] ((qE s.2.2.2.2.1.2).1) (.int (qE s.2.2.2.2.1.2).2) x bp H n (s)) := by
  obtain ⟨h0, ⟨J, B, hst, hS⟩, -, -, -, ⟨T1, hk1⟩, ⟨T4, hk4⟩, -, ⟨Lc, hcd, hcl, hcx⟩, hox, hbx⟩ := id hW
  exact HQ.gx hW (g_failedCommand (l := l) (G := G) h0 hst hS hSB.1)
theorem q_undo {l : Launch} {G : GT} {n : Nat} {H : HT} {x bp K : Nat} {s : SG} (hW : GW H x bp n s) (hSB : SB K s) (hK : K + 30500 < 16000000)  : AM l G yX10_undo (.code yX10_undo cX10_undo 1 (some .int)) 10 600 4 24 [.ref x] H n (GX [eIS] ((qUndo s).1) (.int (nI (qUndo s).2)) x bp H n (undS s)) := by
  obtain ⟨h0, ⟨J, B, hst, hS⟩, -, -, -, ⟨T1, hk1⟩, ⟨T4, hk4⟩, -, ⟨Lc, hcd, hcl, hcx⟩, hox, hbx⟩ := id hW
  exact g_undo (l := l) (G := G) hW hSB
theorem q_save {l : Launch} {G : GT} {n : Nat} {H : HT} {x bp K : Nat} {s : SG} (hW : GW H x bp n s) (hSB : SB K s) (hK : K + 30500 < 16000000)  : AM l G yX10_save (.code yX10_save cX10_save 1 (some .int)) 10 600 4 24 [.ref x] H n (GX [] (0) (.int (nI (s.1 0))) x bp H n (savS s)) := by
  obtain ⟨h0, ⟨J, B, hst, hS⟩, -, -, -, ⟨T1, hk1⟩, ⟨T4, hk4⟩, -, ⟨Lc, hcd, hcl, hcx⟩, hox, hbx⟩ := id hW
  exact g_save (l := l) (G := G) hW hSB
theorem q_restore {l : Launch} {G : GT} {n : Nat} {H : HT} {x bp K : Nat} {s : SG} (hW : GW H x bp n s) (hSB : SB K s) (hK : K + 30500 < 16000000)  : AM l G yX10_restore (.code yX10_restore cX10_restore 1 (some .int)) 10 600 4 24 [.ref x] H n (GX [eIS] ((qRes s).1) (.int (nI (qRes s).2)) x bp H n (resS s)) := by
  obtain ⟨h0, ⟨J, B, hst, hS⟩, -, -, -, ⟨T1, hk1⟩, ⟨T4, hk4⟩, -, ⟨Lc, hcd, hcl, hcx⟩, hox, hbx⟩ := id hW
  exact g_restore (l := l) (G := G) hW hSB
theorem q_cardAt {l : Launch} {G : GT} {n : Nat} {H : HT} {x bp K : Nat} {s : SG} (hW : GW H x bp n s) (hSB : SB K s) (hK : K + 30500 < 16000000) (v : Int32) : AM l G yX10_cardAt (.code yX10_cardAt cX10_cardAt 2 (some .char)) 10 600 4 24 [.ref x, .int v] H n (GX [eIO] ((qAt9 s v).1) (.int (nI (qAt9 s v).2)) x bp H n (s)) := by
  obtain ⟨h0, ⟨J, B, hst, hS⟩, -, -, -, ⟨T1, hk1⟩, ⟨T4, hk4⟩, -, ⟨Lc, hcd, hcl, hcx⟩, hox, hbx⟩ := id hW
  have hc60 := hSB.2.2.2.2.2.2.1
  have hA9 := HQ.gx hW (g_cardAt (l := l) (G := G) h0 hst hS hSB.1 hcd v)
  rw [at9_eq hcl hcx (by omega) v] at hA9
  exact hA9
/-! two gyms, apart -/
def W2 (f : HT) (n x : Nat) (s : SG) (y : Nat) (t : SG) : Prop := ∃ bx cy, GW f x bx n s ∧ GW f y cy n t ∧ x + 112 ≤ n ∧ y + 112 ≤ n ∧ bx < n ∧ cy < n ∧ (x + 112 ≤ y ∨ y + 112 ≤ x) ∧ (bx < y ∨ y + 112 ≤ bx) ∧ (cy < x ∨ x + 112 ≤ cy) ∧ bx ≠ cy
theorem GW.bn {H : HT} {x bp n : Nat} {s : SG} (h : GW H x bp n s) : bp < n := by
  obtain ⟨-, -, -, -, -, -, -, -, ⟨L, ⟨N, B, ml, b0, b1, hN, hL, hm, hne, hcn, hbn, hB, hq⟩, -, -⟩, -⟩ := h
  exact hbn
theorem W2.swap {f : HT} {n x y : Nat} {s t : SG} (h : W2 f n x s y t) : W2 f n y t x s := by
  obtain ⟨bx, cy, h1, h2, h3, h4, h5, h6, h7, h8, h9, h10⟩ := h
  exact ⟨cy, bx, h2, h1, h4, h3, h6, h5, h7.symm, h9, h8, fun z => h10 z.symm⟩
/-- a call of the first -/
theorem W2.ga {f f' : HT} {n n' x y bx : Nat} {s s' t : SG} {v : Option Value} {r : Option Value ⊕ String} {cy : Nat} (h1 : GW f x bx n s) (h2 : GW f y cy n t) (h3 : x + 112 ≤ n) (h4 : y + 112 ≤ n) (h5 : bx < n) (h6 : cy < n) (h7 : x + 112 ≤ y ∨ y + 112 ≤ x) (h8 : bx < y ∨ y + 112 ≤ bx) (h9 : cy < x ∨ x + 112 ≤ cy) (h10 : bx ≠ cy) (hg : GA v x bx f n s' r f' n') : W2 f' n' x s' y t := by
  obtain ⟨-, hn, bp', hb, hG, hF⟩ := hg
  have hbn := hG.bn
  refine ⟨bp', cy, hG, h2.fr (fun a z1 z2 => hF a (by omega) (by omega) (by omega)) (hF cy h6 (by omega) (fun z => h10 z.symm)) hn, by omega, by omega, hbn, by omega, h7, by omega, h9, by omega⟩
/-- the heap grew, both stay -/
theorem W2.fr {f f' : HT} {n n' x y : Nat} {s t : SG} (h : W2 f n x s y t) (hn : n ≤ n') (e : ∀ a, a < n → f' a = f a) : W2 f' n' x s y t := by
  obtain ⟨bx, cy, h1, h2, h3, h4, h5, h6, h7⟩ := h
  exact ⟨bx, cy, h1.fr (fun a z1 z2 => e a (by omega)) (e bx h5) hn, h2.fr (fun a z1 z2 => e a (by omega)) (e cy h6) hn, by omega, by omega, by omega, by omega, h7⟩
theorem W2.obj {f : HT} {n x y : Nat} {s t : SG} (h : W2 f n x s y t) : RC f RX10 x := by
  obtain ⟨bx, cy, h1, -⟩ := h
  exact RC.w h1.1 rfl
section W2C
variable {l : Launch} {G : GT} {M : MT} {fr lo mc ms : Nat} {Post : PT} {n0 nc ns pc : Nat} {L : List (Nat × Value)} {st rest : List Value} {f : HT} {n x y : Nat} {s s' t : SG} {v : Option Value} {mc' ms' : Nat}
theorem aw_ga (hW : W2 f n x s y t) (hs : ∀ v ∈ rest, v ∈ st) (hcr : ∀ bx, GW f x bx n s → CR l G M fr lo mc ms n0 nc ns pc L st rest f n mc' ms' (GA v x bx f n s')) (k : ∀ f' n', n ≤ n' → W2 f' n' x s' y t → AW l G M fr lo mc ms Post n0 (nc + mc') (ns + ms') (pc + 3) L (v.toList ++ rest) f' n') : AW l G M fr lo mc ms Post n0 nc ns pc L st f n := by
  obtain ⟨bx, cy, h1, h2, h3, h4, h5, h6, h7, h8, h9, h10⟩ := hW
  refine aw_crP (hcr bx h1) hs (fun _ _ _ h => by cases h.1) (fun r f' n' hn h => ?_)
  have hw := W2.ga h1 h2 h3 h4 h5 h6 h7 h8 h9 h10 h
  obtain ⟨h0, -⟩ := h
  cases h0
  exact k f' n' hn hw
/-- a method of the gym, by name, on the first; on the second -/
theorem aw_g1 {y9 : MethodName} {cc' : ByteArray} {nL' kk ix : Nat} {ret' : Option FieldType} {as : List Value} {fr' lo' : Nat} (hMV : MV y9 cc' nL' ret' kk) (hcl : y9.cls = RX10) (hW : W2 f n x s y t) (hA : ∀ bx, GW f x bx n s → AM l G y9 (.code y9 cc' nL' ret') fr' lo' mc' ms' (.ref x :: as) f n (GA v x bx f n s')) (hl : Cond.methodLink M.1 ix y9 ∈ Big)
    (hdg : decode M.2.1 pc = .ok (.invokevirtual ix, 3)) (hst : as.reverse ++ .ref x :: rest = st) (hk : as.length = kk) (hR : fr' + 1 ≤ fr ∧ 8 + (nL' + 11) + lo' ≤ lo) (hcat : (rest.map fun v => v.category).sum ≤ 8) (hc : nc + mc' ≤ mc ∧ ns + ms' ≤ ms) (k : ∀ f' n', n ≤ n' → W2 f' n' x s' y t → AW l G M fr lo mc ms Post n0 (nc + mc') (ns + ms') (pc + 3) L (v.toList ++ rest) f' n') : AW l G M fr lo mc ms Post n0 nc ns pc L st f n := by
  subst hst
  exact aw_ga hW sub_app (fun bx h => cr_VC (C9 := RX10) (by have h9 := hMV.c; rw [hcl] at h9; exact h9) (hA bx h) hl (RC.w h.1 rfl) hdg hk hR hcat hc) k
theorem aw_g2 {y9 : MethodName} {cc' : ByteArray} {nL' kk ix : Nat} {ret' : Option FieldType} {as : List Value} {fr' lo' : Nat} (hMV : MV y9 cc' nL' ret' kk) (hcl : y9.cls = RX10) (hW : W2 f n y t x s) (hA : ∀ bx, GW f x bx n s → AM l G y9 (.code y9 cc' nL' ret') fr' lo' mc' ms' (.ref x :: as) f n (GA v x bx f n s')) (hl : Cond.methodLink M.1 ix y9 ∈ Big)
    (hdg : decode M.2.1 pc = .ok (.invokevirtual ix, 3)) (hst : as.reverse ++ .ref x :: rest = st) (hk : as.length = kk) (hR : fr' + 1 ≤ fr ∧ 8 + (nL' + 11) + lo' ≤ lo) (hcat : (rest.map fun v => v.category).sum ≤ 8) (hc : nc + mc' ≤ mc ∧ ns + ms' ≤ ms) (k : ∀ f' n', n ≤ n' → W2 f' n' y t x s' → AW l G M fr lo mc ms Post n0 (nc + mc') (ns + ms') (pc + 3) L (v.toList ++ rest) f' n') : AW l G M fr lo mc ms Post n0 nc ns pc L st f n :=
  aw_g1 hMV hcl hW.swap hA hl hdg hst hk hR hcat hc (fun f' n' hn h => k f' n' hn h.swap)
/-- a static method of the law on the first; on the second -/
theorem aw_t1 {y9 : MethodName} {cc' : ByteArray} {nL' kk ix : Nat} {ret' : Option FieldType} {as : List Value} {fr' lo' : Nat} (hMS : MS y9 cc' nL' ret' kk) (hW : W2 f n x s y t) (hA : ∀ bx, GW f x bx n s → AM l G y9 (.code y9 cc' nL' ret') fr' lo' mc' ms' as f n (GA v x bx f n s')) (hl : Cond.methodLink M.1 ix y9 ∈ Big)
    (hdg : decode M.2.1 pc = .ok (.invokestatic ix, 3)) (hst : as.reverse ++ rest = st) (hk : as.length = kk) (hR : fr' + 1 ≤ fr ∧ 8 + (nL' + 11) + lo' ≤ lo) (hcat : (rest.map fun v => v.category).sum ≤ 8) (hc : nc + mc' ≤ mc ∧ ns + ms' ≤ ms) (k : ∀ f' n', n ≤ n' → W2 f' n' x s' y t → AW l G M fr lo mc ms Post n0 (nc + mc') (ns + ms') (pc + 3) L (v.toList ++ rest) f' n') : AW l G M fr lo mc ms Post n0 nc ns pc L st f n := by
  subst hst
  exact aw_ga hW sub_app2 (fun bx h => cr_S hMS (hA bx h) hl hdg hk hR.1 hR.2 hcat hc.1 hc.2) k
theorem aw_t2 {y9 : MethodName} {cc' : ByteArray} {nL' kk ix : Nat} {ret' : Option FieldType} {as : List Value} {fr' lo' : Nat} (hMS : MS y9 cc' nL' ret' kk) (hW : W2 f n y t x s) (hA : ∀ bx, GW f x bx n s → AM l G y9 (.code y9 cc' nL' ret') fr' lo' mc' ms' as f n (GA v x bx f n s')) (hl : Cond.methodLink M.1 ix y9 ∈ Big)
    (hdg : decode M.2.1 pc = .ok (.invokestatic ix, 3)) (hst : as.reverse ++ rest = st) (hk : as.length = kk) (hR : fr' + 1 ≤ fr ∧ 8 + (nL' + 11) + lo' ≤ lo) (hcat : (rest.map fun v => v.category).sum ≤ 8) (hc : nc + mc' ≤ mc ∧ ns + ms' ≤ ms) (k : ∀ f' n', n ≤ n' → W2 f' n' y t x s' → AW l G M fr lo mc ms Post n0 (nc + mc') (ns + ms') (pc + 3) L (v.toList ++ rest) f' n') : AW l G M fr lo mc ms Post n0 nc ns pc L st f n :=
  aw_t1 hMS hW.swap hA hl hdg hst hk hR hcat hc (fun f' n' hn h => k f' n' hn h.swap)
/-- .. one with handlers -/
theorem aw_x1 {y9 : MethodName} {cc' : ByteArray} {nL' kk ix : Nat} {ret' : Option FieldType} {hh : List (Nat × Nat × Nat × Nat)} {as : List Value} {fr' lo' : Nat} (hMW : MW y9 cc' nL' ret' hh kk) (hW : W2 f n x s y t) (hA : ∀ bx, GW f x bx n s → AM l G y9 (.codeWith y9 cc' nL' ret' hh) fr' lo' mc' ms' as f n (GA v x bx f n s')) (hl : Cond.methodLink M.1 ix y9 ∈ Big)
    (hdg : decode M.2.1 pc = .ok (.invokestatic ix, 3)) (hst : as.reverse ++ rest = st) (hk : as.length = kk) (hR : fr' + 1 ≤ fr ∧ 8 + (nL' + 11) + lo' ≤ lo) (hcat : (rest.map fun v => v.category).sum ≤ 8) (hc : nc + mc' ≤ mc ∧ ns + ms' ≤ ms) (k : ∀ f' n', n ≤ n' → W2 f' n' x s' y t → AW l G M fr lo mc ms Post n0 (nc + mc') (ns + ms') (pc + 3) L (v.toList ++ rest) f' n') : AW l G M fr lo mc ms Post n0 nc ns pc L st f n := by
  subst hst
  exact aw_ga hW sub_app2 (fun bx h => cr_SX hMW (hA bx h) hl hdg hk hR hcat hc) k
theorem aw_x2 {y9 : MethodName} {cc' : ByteArray} {nL' kk ix : Nat} {ret' : Option FieldType} {hh : List (Nat × Nat × Nat × Nat)} {as : List Value} {fr' lo' : Nat} (hMW : MW y9 cc' nL' ret' hh kk) (hW : W2 f n y t x s) (hA : ∀ bx, GW f x bx n s → AM l G y9 (.codeWith y9 cc' nL' ret' hh) fr' lo' mc' ms' as f n (GA v x bx f n s')) (hl : Cond.methodLink M.1 ix y9 ∈ Big)
    (hdg : decode M.2.1 pc = .ok (.invokestatic ix, 3)) (hst : as.reverse ++ rest = st) (hk : as.length = kk) (hR : fr' + 1 ≤ fr ∧ 8 + (nL' + 11) + lo' ≤ lo) (hcat : (rest.map fun v => v.category).sum ≤ 8) (hc : nc + mc' ≤ mc ∧ ns + ms' ≤ ms) (k : ∀ f' n', n ≤ n' → W2 f' n' y t x s' → AW l G M fr lo mc ms Post n0 (nc + mc') (ns + ms') (pc + 3) L (v.toList ++ rest) f' n') : AW l G M fr lo mc ms Post n0 nc ns pc L st f n :=
  aw_x1 hMW hW.swap hA hl hdg hst hk hR hcat hc (fun f' n' hn h => k f' n' hn h.swap)
/-! .. one gym alone: the same, with the world as one gym and what the call leaves -/
theorem aw_v0 {y9 : MethodName} {cc' : ByteArray} {nL' kk ix bx : Nat} {ret' : Option FieldType} {as : List Value} {fr' lo' : Nat} (hMV : MV y9 cc' nL' ret' kk) (hcl : y9.cls = RX10) (hA : AM l G y9 (.code y9 cc' nL' ret') fr' lo' mc' ms' (.ref x :: as) f n (GA v x bx f n s')) (hG : GW f x bx n s) (hl : Cond.methodLink M.1 ix y9 ∈ Big)
    (hdg : decode M.2.1 pc = .ok (.invokevirtual ix, 3)) (hst : as.reverse ++ .ref x :: rest = st) (hk : as.length = kk) (hR : fr' + 1 ≤ fr ∧ 8 + (nL' + 11) + lo' ≤ lo) (hcat : (rest.map fun v => v.category).sum ≤ 8) (hc : nc + mc' ≤ mc ∧ ns + ms' ≤ ms) (k : ∀ f' n' bx', n ≤ n' → (bx' = bx ∨ n ≤ bx') → GW f' x bx' n' s' → (∀ a, a < n → (a < x ∨ x + 112 ≤ a) → a ≠ bx → f' a = f a) → AW l G M fr lo mc ms Post n0 (nc + mc') (ns + ms') (pc + 3) L (v.toList ++ rest) f' n') : AW l G M fr lo mc ms Post n0 nc ns pc L st f n := by
  subst hst
  refine aw_crP (cr_VC (C9 := RX10) (by have h9 := hMV.c; rw [hcl] at h9; exact h9) hA hl (RC.w hG.1 rfl) hdg hk hR hcat hc) sub_app (fun _ _ _ h => by cases h.1) (fun r f' n' hn h => ?_)
  obtain ⟨h0, -, bx', hb, hG', hF⟩ := h
  cases h0
  exact k f' n' bx' hn hb hG' hF
theorem aw_s0 {y9 : MethodName} {cc' : ByteArray} {nL' kk ix bx : Nat} {ret' : Option FieldType} {as : List Value} {fr' lo' : Nat} (hMS : MS y9 cc' nL' ret' kk) (hA : AM l G y9 (.code y9 cc' nL' ret') fr' lo' mc' ms' as f n (GA v x bx f n s')) (hl : Cond.methodLink M.1 ix y9 ∈ Big)
    (hdg : decode M.2.1 pc = .ok (.invokestatic ix, 3)) (hst : as.reverse ++ rest = st) (hk : as.length = kk) (hR : fr' + 1 ≤ fr ∧ 8 + (nL' + 11) + lo' ≤ lo) (hcat : (rest.map fun v => v.category).sum ≤ 8) (hc : nc + mc' ≤ mc ∧ ns + ms' ≤ ms) (k : ∀ f' n' bx', n ≤ n' → (bx' = bx ∨ n ≤ bx') → GW f' x bx' n' s' → (∀ a, a < n → (a < x ∨ x + 112 ≤ a) → a ≠ bx → f' a = f a) → AW l G M fr lo mc ms Post n0 (nc + mc') (ns + ms') (pc + 3) L (v.toList ++ rest) f' n') : AW l G M fr lo mc ms Post n0 nc ns pc L st f n := by
  subst hst
  refine aw_crP (cr_S hMS hA hl hdg hk hR.1 hR.2 hcat hc.1 hc.2) sub_app2 (fun _ _ _ h => by cases h.1) (fun r f' n' hn h => ?_)
  obtain ⟨h0, -, bx', hb, hG', hF⟩ := h
  cases h0
  exact k f' n' bx' hn hb hG' hF
theorem aw_x0 {y9 : MethodName} {cc' : ByteArray} {nL' kk ix bx : Nat} {ret' : Option FieldType} {hh : List (Nat × Nat × Nat × Nat)} {as : List Value} {fr' lo' : Nat} (hMW : MW y9 cc' nL' ret' hh kk) (hA : AM l G y9 (.codeWith y9 cc' nL' ret' hh) fr' lo' mc' ms' as f n (GA v x bx f n s')) (hl : Cond.methodLink M.1 ix y9 ∈ Big)
    (hdg : decode M.2.1 pc = .ok (.invokestatic ix, 3)) (hst : as.reverse ++ rest = st) (hk : as.length = kk) (hR : fr' + 1 ≤ fr ∧ 8 + (nL' + 11) + lo' ≤ lo) (hcat : (rest.map fun v => v.category).sum ≤ 8) (hc : nc + mc' ≤ mc ∧ ns + ms' ≤ ms) (k : ∀ f' n' bx', n ≤ n' → (bx' = bx ∨ n ≤ bx') → GW f' x bx' n' s' → (∀ a, a < n → (a < x ∨ x + 112 ≤ a) → a ≠ bx → f' a = f a) → AW l G M fr lo mc ms Post n0 (nc + mc') (ns + ms') (pc + 3) L (v.toList ++ rest) f' n') : AW l G M fr lo mc ms Post n0 nc ns pc L st f n := by
  subst hst
  refine aw_crP (cr_SX hMW hA hl hdg hk hR hcat hc) sub_app2 (fun _ _ _ h => by cases h.1) (fun r f' n' hn h => ?_)
  obtain ⟨h0, -, bx', hb, hG', hF⟩ := h
  cases h0
  exact k f' n' bx' hn hb hG' hF
/-- answers compose: behind a call that left (bx1, f1, n1), one more -/
theorem GA.after {f1 f' : HT} {n1 n' bx bx1 : Nat} {r : Option Value ⊕ String} (hn1 : n ≤ n1) (hb : bx1 = bx ∨ n ≤ bx1) (hF : ∀ a, a < n → (a < x ∨ x + 112 ≤ a) → a ≠ bx → f1 a = f a) (h : GA v x bx1 f1 n1 s' r f' n') : GA v x bx f n s' r f' n' := by
  obtain ⟨h1, h2, b', h3, h4, h5⟩ := h
  exact ⟨h1, by omega, b', by omega, h4, fun a z1 z2 z3 => (h5 a (by omega) z2 (by omega)).trans (hF a z1 z2 z3)⟩
end W2C
