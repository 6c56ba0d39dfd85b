/-! a throw: its words, and what must stand for it -/
abbrev nseC : String := "java/util/NoSuchElementException"
abbrev nseN : List String := ["java/lang/RuntimeException", "java/lang/Exception"]
theorem th_in : ∀ w ∈ vx_at0 RX11 194 nseC nseN, w ∈ lw_tbl := by decide +kernel
theorem th_ot : ∀ w ∈ Cond.classLink RX11 192 nseC :: Cond.initialized nseC :: vx_at0 RX11 194 nseC nseN, vx_ot w = true := by decide +kernel
def dcR : MethodName := ⟨"java/lang/RuntimeException", "<init>", "()V"⟩
def dcE : MethodName := ⟨"java/lang/Exception", "<init>", "()V"⟩
def dcT : MethodName := ⟨"java/lang/Throwable", "<init>", "()V"⟩
theorem th_gd : ∀ w ∈ vx_at0 RX11 194 nseC nseN, goodWord w = true ∨ w = Cond.castable nseC nseC ∨ w = Cond.declares dcR ∨ w = Cond.declares dcE ∨ w = Cond.declares dcT := by decide +kernel
theorem th_m : ∀ w ∈ [Cond.classLink RX11 192 nseC, Cond.initialized nseC, Cond.classLink RL 13 nseC, Cond.castable nseC nseC, Cond.declares dcR, Cond.declares dcE, Cond.declares dcT, Cond.laysStatic Bundle.tN "UNASSIGNED_STACK" Bundle.steD, Cond.laysStatic Bundle.tN "SUPPRESSED_SENTINEL" Bundle.listD, Cond.initialized Bundle.tN, Cond.codeWith yL_person cL_person 5 (some .int) [(0, 10, 13, 13)], Cond.static yL_person, Cond.initialized RL], w ∈ lw_tbl := by decide +kernel
theorem th_mg : ∀ w ∈ [Cond.classLink RX11 192 nseC, Cond.initialized nseC, Cond.classLink RL 13 nseC, Cond.codeWith yL_person cL_person 5 (some .int) [(0, 10, 13, 13)], Cond.static yL_person, Cond.initialized RL], goodWord w = true := by decide +kernel
theorem TB.of {w : Cond} (h : w ∈ lw_tbl) (g : goodWord w = true) : w ∈ TB := List.mem_filter.mpr ⟨h, g⟩
def XT (G : Gt) (s : State) : Prop := vx_Zq Bundle.tN "UNASSIGNED_STACK" Bundle.steD (gA G) s s.heap ∧ vx_Zq Bundle.tN "SUPPRESSED_SENTINEL" Bundle.listD (gA G) s s.heap ∧ va_Nw (.castable nseC nseC) s ∧ va_Nw (.declares dcR) s ∧ va_Nw (.declares dcE) s ∧ va_Nw (.declares dcT) s
theorem XT.move {G : Gt} {s U : State} {H : Heap} {locs : List Loc} (h : XT G s) (hS : va_S (gA G) s.heap H locs) (hU : U.heap = H) (hW : s.WarmedH U.vm) : XT G U := by
  have hk : ∀ a : Nat, a < s.heap.size → ¬ gA G a → U.heap[a]? = s.heap[a]? := by rw [hU]; exact hS.2.1
  exact ⟨(vx_Zq.moved hW.alike h.1).kept hk, (vx_Zq.moved hW.alike h.2.1).kept hk, va_Nw.warmC hW h.2.2.1, va_Nw.warmD hW h.2.2.2.1, va_Nw.warmD hW h.2.2.2.2.1, va_Nw.warmD hW h.2.2.2.2.2⟩
theorem XT.hat {G : Gt} {s : State} {args : Array Value} (h : XT G s) (ht : ∀ w ∈ TB, w.before args s = true) : ∀ w ∈ vx_at0 RX11 194 nseC nseN, w.before args s = true := by
  intro w hw
  rcases th_gd w hw with q | rfl | rfl | rfl | rfl
  · exact ht w (TB.of (th_in w hw) q)
  · exact va_Nw.use rfl h.2.2.1
  · exact va_Nw.use rfl h.2.2.2.1
  · exact va_Nw.use rfl h.2.2.2.2.1
  · exact va_Nw.use rfl h.2.2.2.2.2
theorem XT.blind {G : Gt} {U : State} {g : JFrame} {mk : MethodId} {a : Array Value} (h : XT G U) : XT G (U.calling g mk a) := by
  have hv : U.vm.Alike (U.calling g mk a).vm := Vm.Alike.refl U.vm
  exact ⟨vx_Zq.moved hv h.1, vx_Zq.moved hv h.2.1, va_Nw.same rfl rfl h.2.2.1, va_Nw.same rfl rfl h.2.2.2.1, va_Nw.same rfl rfl h.2.2.2.2.1, va_Nw.same rfl rfl h.2.2.2.2.2⟩
