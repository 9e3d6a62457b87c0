/-! ===== the surroundings: the tables' numbers, texts, statics; what a call keeps of them ===== -/
/-- the tables' numbers: fields' places; the classes of int[], Object[], int[][]; ArrayList's empty row; the script: its cell, its length, its ints -/
abbrev gT : Type := va_G × ClassId × ClassId × ClassId × Nat × Nat × Nat × (Nat → Int32)
abbrev gI (g : gT) : ClassId := g.2.1
abbrev gO (g : gT) : ClassId := g.2.2.1
abbrev gA (g : gT) : ClassId := g.2.2.2.1
abbrev gE (g : gT) : Nat := g.2.2.2.2.1
abbrev gB (g : gT) : Nat := g.2.2.2.2.2.1
abbrev gL (g : gT) : Nat := g.2.2.2.2.2.2.1
abbrev gX (g : gT) : Nat → Int32 := g.2.2.2.2.2.2.2
abbrev gTy (g : gT) : List (ClassId × FieldType) := [(gI g, .int), (gO g, .object "java/lang/Object"), (gA g, .array .int)]
abbrev xN : List String := ["java/lang/RuntimeException", "java/lang/Exception"]
abbrev xI : String := "java/lang/IndexOutOfBoundsException"
abbrev xA : String := "java/lang/IllegalArgumentException"
abbrev xS : String := "java/lang/IllegalStateException"
def q_strs : List (Nat × String) := [(34, "power is not 0 to 4"), (62, "there are 8 hills"), (82, "the hill has 12 words"), (108, "place is not 0 to 19"), (111, "storm is not -99 to 99"), (137, "there is no such word"), (150, "what is not 0 to 2"), (165, "what is not 0 to 6"), (182, "shift is not 0 to L - 1"), (217, "there is no such hill"), (223, "there is no such code"), (225, "strength is not 1 to 9"), (227, "delay is not 0 to L - 1"), (229, "time is not 0 to 999")]
/-- words that no list of a method may hold: they go from state to state here -/
def q_nws : List Cond := [.castable RX1 RX1, .castable RX1 "java/lang/Object", .castable xI xI, .castable xA xA, .castable xS xS] ++ ((vx_atS RX3 110 xI xN).filter (fun w => !goodWord w) ++ ((vx_atS RX3 36 xA xN).filter (fun w => !goodWord w) ++ (vx_atS RX3 64 xS xN).filter (fun w => !goodWord w)))
def q_ncs : List (String × String) := []
def q_V (g : gT) (U : State) : Prop := va_K g.1 vwCl (gTy g) U ∧ va_AO "java/lang/Object" U ∧ (∀ q ∈ q_strs, ∃ sa, vk_R RX3 q.1 q.2 sa U) ∧ (∀ w ∈ q_nws, va_Nw w U) ∧ (∀ q ∈ q_ncs, va_Nc q.1 q.2 U) ∧ va_Nw (.methodLinkNest RX3 11 yX0_init RX3) U ∧ va_Nw (.methodLinkNest RL 71 yX4_init RL) U ∧ va_AOA .int U
def q_T (g : gT) (A : Nat → Prop) (U : State) (H : Heap) : Prop := vx_Zq Bundle.tN "UNASSIGNED_STACK" Bundle.steD A U H ∧ vx_Zq Bundle.tN "SUPPRESSED_SENTINEL" Bundle.listD A U H ∧ va_Z "java/util/ArrayList" "DEFAULTCAPACITY_EMPTY_ELEMENTDATA" "[Ljava/lang/Object;" (.ref (gE g)) A U H ∧ va_T (.object "java/lang/Object") (gE g) 0 (fun _ => .null) A U H ∧ va_T .int (gB g) (gL g) (fun j => .int (gX g j)) A U H
def Ev (g : gT) (A : Nat → Prop) (U : State) (H : Heap) : Prop := q_V g U ∧ q_T g A U H
theorem q_nws_ok : ∀ w ∈ q_nws, (w.keepsCast && w.onTables) = true := by decide +kernel
theorem Ev.warm {g : gT} {A : Nat → Prop} {s U : State} {H : Heap} (hW : s.WarmedH U.vm) (h : Ev g A s H) : Ev g A U H := by
  obtain ⟨⟨h1, h2, h3, h4, h5, h6, h7, h8⟩, k1, k2, k3, k4, k5⟩ := h
  have hv := hW.alike
  refine ⟨⟨va_K.moved hv h1, va_AO.moved hv h2, fun q hq => ?_, fun w hw => ?_, fun q hq => va_Nc.moved hv (h5 q hq), va_Nw.warmM hW h6, va_Nw.warmM hW h7, va_AOA.moved hv h8⟩, vx_Zq.moved hv k1, vx_Zq.moved hv k2, va_Z.moved hv k3, va_T.moved hv k4, va_T.moved hv k5⟩
  · obtain ⟨sa, h⟩ := h3 q hq
    exact ⟨sa, h.warm hW⟩
  · have ok := q_nws_ok w hw
    rw [Bool.and_eq_true] at ok
    have e : w.before #[] (s.setVm U.vm) = true := Cond.before_shiftedCast (State.Shifted.of_warmed hW) w ok.1 (h4 w hw)
    exact va_tabs ok.2 (rfl : (s.setVm U.vm).vm = U.vm) e
theorem Ev.kept {g : gT} {A : Nat → Prop} {U : State} {H H1 : Heap} (h : Ev g A U H) (hq : ∀ a : Nat, a < H.size → ¬ A a → H1[a]? = H[a]?) : Ev g A U H1 :=
  ⟨h.1, h.2.1.kept hq, h.2.2.1.kept hq, h.2.2.2.1.kept hq, h.2.2.2.2.1.kept hq, h.2.2.2.2.2.kept hq⟩
theorem Ev.narrow {g : gT} {A B : Nat → Prop} {U : State} {H : Heap} (h : Ev g A U H) (hAB : ∀ q, B q → A q) : Ev g B U H :=
  ⟨h.1, h.2.1.narrow hAB, h.2.2.1.narrow hAB, h.2.2.2.1.narrow hAB, h.2.2.2.2.1.narrow hAB, h.2.2.2.2.2.narrow hAB⟩
theorem Ev.K {g : gT} {A : Nat → Prop} {U : State} {H : Heap} (h : Ev g A U H) : va_K g.1 vwCl (gTy g) U := h.1.1
theorem Ev.calling {g : gT} {A : Nat → Prop} {U : State} {H : Heap} (h : Ev g A U H) (f : JFrame) (mk : MethodId) (a : Array Value) : Ev g A (U.calling f mk a) H := Ev.warm (State.WarmedH.refl U) h
/-- only new cells -/
abbrev q_n (H : Heap) : Nat → Prop := fun q => H.size ≤ q
/-- a reader's start: the surroundings, and what it reads -/
def q_F (av : List Value) (g : gT) (F : Heap → Prop) : Array Value → State → Prop := va_Pc av (fun U => Ev g (q_n U.heap) U U.heap ∧ F U.heap)
theorem q_F.blind {av : List Value} {g : gT} {F : Heap → Prop} : FrameBlind (q_F av g F) := fun a U f mk h => ⟨h.1, Ev.calling h.2.1 f mk a, h.2.2⟩
theorem q_F.of {av : List Value} {g : gT} {F : Heap → Prop} {A : Nat → Prop} {s U : State} {H : Heap} (hE : Ev g A s H) (hA : ∀ q, H.size ≤ q → A q) (hF : F H) (hU : U.heap = H) (hW : s.WarmedH U.vm) : q_F av g F av.toArray U := by
  subst hU
  exact ⟨rfl, Ev.warm hW (hE.narrow hA), hF⟩
/-- what a reader answers: v, and the heap as it was -/
def q_Q (v : Option Value) : Array Value → State → Outcome → State → Prop := fun _ st o t => o = .returned v ∧ t.heap = st.heap
def RO (l : Launch) (y : MethodName) (ws : List Cond) (rm : Room) (av : List Value) (g : gT) (F : Heap → Prop) (v : Option Value) : Prop := Met l y ws rm (q_F av g F) (q_Q v) 0 0 (fun _ => False)
/-- what a thrower tells: the exception's class; all old cells as they were -/
def q_X (E : String) : String → State → State → Prop := fun E' st t => E' = E ∧ st.heap.size ≤ t.heap.size ∧ ∀ q : Nat, q < st.heap.size → t.heap[q]? = st.heap[q]?
def TH (l : Launch) (y : MethodName) (ws : List Cond) (rm : Room) (av : List Value) (g : gT) (F : Heap → Prop) (E : String) : Prop := vx_Met l y ws rm (q_F av g F) (fun _ _ _ _ => False) (q_X E) 1 6 (fun _ => False)
/-- a writer's start: its world -/
def q_W (av : List Value) (g : gT) (wc : va_W) (sz : Nat) : Array Value → State → Prop := va_Pc av (fun U => U.heap.size = sz ∧ Ev g (va_A wc sz) U U.heap ∧ va_P g.1 vwCl wc U.heap ∧ va_D (fun _ => True) wc)
theorem q_W.blind {av : List Value} {g : gT} {wc : va_W} {sz : Nat} : FrameBlind (q_W av g wc sz) := fun a U f mk h => ⟨h.1, h.2.1, Ev.calling h.2.2.1 f mk a, h.2.2.2⟩
theorem q_W.of {av : List Value} {g : gT} {wr wc : va_W} {A : Nat → Prop} {s U : State} {H0 H : Heap} {locs : List Loc} (hE : Ev g A s H) (hP : va_P g.1 vwCl (wr ++ wc) H) (hD : va_D A (wr ++ wc)) (hS : va_S A H0 H locs) (hA : ∀ q, H0.size ≤ q → A q) (hU : U.heap = H) (hW : s.WarmedH U.vm) : q_W av g wc H.size av.toArray U := by
  subst hU
  have e : ∀ (k : Nat) (q : Nat × va_E), wc[k]? = some q → (wr ++ wc)[wr.length + k]? = some q := fun k q h => by
    rw [List.getElem?_append_right (Nat.le_add_right _ _), Nat.add_sub_cancel_left]; exact h
  refine ⟨rfl, rfl, Ev.warm hW (hE.narrow (fun q h => ?_)), fun k q h => hP _ q (e k q h), ⟨fun i j x y hi hj hxy => ?_, fun _ _ _ => trivial⟩⟩
  · rcases h with ⟨k, z, h⟩ | h
    · exact hD.2 _ (q, z) (e k _ h)
    · exact hA q (Nat.le_trans hS.1 h)
  · have := hD.1 _ _ x y (e i x hi) (e j y hj) hxy
    omega
/-- what a writer leaves: its answer, its new world; all else as it was -/
def q_Qw {S : Type} (B : S → va_W) (v : S → Option Value) (g : gT) (wc : va_W) (sz : Nat) : Array Value → State → Outcome → State → Prop := fun _ st o t => (∃ u : S, o = .returned (v u) ∧ va_P g.1 vwCl (B u) t.heap ∧ va_D (va_A wc sz) (B u)) ∧ va_F (va_A wc sz) st t
def WR {S : Type} (l : Launch) (y : MethodName) (ws : List Cond) (rm : Room) (av : List Value) (g : gT) (wc : va_W) (sz : Nat) (B : S → va_W) (v : S → Option Value) (mc ms : Nat) : Prop := Met l y ws rm (q_W av g wc sz) (q_Qw B v g wc sz) mc ms (va_A wc sz)
section QB
variable {l : Launch} {y : MethodName} {ws ws' : List Cond} {rm : Room} {av : List Value} {g : gT} {cc : ByteArray} {maxL : Nat} {ret : Option FieldType}
theorem RO.of {F : Heap → Prop} {v : Option Value} (hy : plainName y.cls = true) (hw : ws = Cond.code y cc maxL ret :: ws') (hlen : (lg_sl av).length ≤ maxL)
    (body : ∀ (p : Program) (e : Env) (s : State) (m : MethodId) (below : List Frame) (meth : Method) (c : Code), p.tables.exec = Jvm.exec → c.code = cc → c.maxLocals = maxL → meth.sig.returnType = ret → meth.locks = false → s.vm.findClass y.cls = some m.cls → (∀ w ∈ ws, w.before av.toArray s = true) →
      Ev g (q_n s.heap) s s.heap → F s.heap → ∀ ls : Array Slot, lv_has ls maxL (lv_args 0 av) → W p l e rm s m av.toArray below meth c s.heap [] 0 0 (MQ below (q_Q v) av.toArray s 0 0 (fun _ => False)) (F0 m 0 ls [])) : RO l y ws rm av g F v := by
  refine Met.ofW (cc := cc) (maxL := maxL) (ret := ret) hy hw ?_
  intro p e s m args below meth c s₁ B hml hv
  obtain ⟨rfl, hE, hF⟩ := hv
  rw [lg_entry_eq]
  exact body p e s m below meth c B.exec B.bytes hml B.returns B.notSynchronized (findClass_of_methodNamed B.named) (atoms_spec (ws := ws) B.pre) hE hF _ (lv_entry av hlen)
theorem WR.of {S : Type} {wc : va_W} {sz : Nat} {B : S → va_W} {v : S → Option Value} {mc ms : Nat} (hy : plainName y.cls = true) (hw : ws = Cond.code y cc maxL ret :: ws') (hlen : (lg_sl av).length ≤ maxL)
    (body : ∀ (p : Program) (e : Env) (s : State) (m : MethodId) (below : List Frame) (meth : Method) (c : Code), p.tables.exec = Jvm.exec → c.code = cc → c.maxLocals = maxL → meth.sig.returnType = ret → meth.locks = false → s.vm.findClass y.cls = some m.cls → (y.name = "<init>" → meth.name = "<init>") → (∀ w ∈ ws, w.before av.toArray s = true) →
      s.heap.size = sz → Ev g (va_A wc sz) s s.heap → va_P g.1 vwCl wc s.heap → va_D (va_A wc sz) wc → ∀ ls : Array Slot, lv_has ls maxL (lv_args 0 av) → W p l e rm s m av.toArray below meth c s.heap [] 0 0 (MQ below (q_Qw B v g wc sz) av.toArray s mc ms (va_A wc sz)) (F0 m 0 ls [])) : WR l y ws rm av g wc sz B v mc ms := by
  refine Met.ofW (cc := cc) (maxL := maxL) (ret := ret) hy hw ?_
  intro p e s m args below meth c s₁ B hml hv
  obtain ⟨rfl, hsz, hE, hP, hD⟩ := hv
  rw [lg_entry_eq]
  exact body p e s m below meth c B.exec B.bytes hml B.returns B.notSynchronized (findClass_of_methodNamed B.named) (fun h => (name_of_methodNamed B.named B.method).1.trans h) (atoms_spec (ws := ws) B.pre) hsz hE hP hD.self _ (lv_entry av hlen)
theorem TH.of {F : Heap → Prop} {E : String} (hy : plainName y.cls = true) (hw : ws = Cond.code y cc maxL ret :: ws') (hlen : (lg_sl av).length ≤ maxL)
    (body : ∀ (p : Program) (e : Env) (s : State) (m : MethodId) (below : List Frame) (meth : Method) (c : Code), p.tables.exec = Jvm.exec → c.code = cc → c.maxLocals = maxL → meth.sig.returnType = ret → meth.locks = false → s.vm.findClass y.cls = some m.cls → (∀ w ∈ ws, w.before av.toArray s = true) → (∀ x ∈ c.exceptionTable.toList, False) →
      Ev g (q_n s.heap) s s.heap → F s.heap → ∀ ls : Array Slot, lv_has ls maxL (lv_args 0 av) → W p l e rm s m av.toArray below meth c s.heap [] 0 0 (vx_MQ below (fun _ _ _ _ => False) (q_X E) av.toArray s 1 6 (fun _ => False)) (F0 m 0 ls [])) : TH l y ws rm av g F E := by
  refine vx_ofW (cc := cc) (maxL := maxL) (ret := ret) hy hw ?_
  intro p e s m args below meth c s₁ B hml hno hv
  obtain ⟨rfl, hE, hF⟩ := hv
  rw [lg_entry_eq]
  exact body p e s m below meth c B.exec B.bytes hml B.returns B.notSynchronized (findClass_of_methodNamed B.named) (atoms_spec (ws := ws) B.pre) hno hE hF _ (lv_entry av hlen)
end QB
