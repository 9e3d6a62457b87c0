/-! ===== calls of readers, writers, throwers; ends; reads ===== -/
theorem q_P1 {D : va_G} {cl : List vw_C} {q : Nat × va_E} {H : Heap} (h : va_at D cl q H) : va_P D cl [q] H := by
  intro k z hk
  match k, hk with
  | 0, hk => cases hk; exact h
theorem q_join {A0 : Nat → Prop} {D : va_G} {cl : List vw_C} {wr wc w1 : va_W} {H H1 : Heap} (hP : va_P D cl (wr ++ wc) H) (hD : va_D A0 (wr ++ wc)) (hk : ∀ q : Nat, q < H.size → ¬ va_A wc H.size q → H1[q]? = H[q]?) (hF : ∀ q, va_A wc H.size q → A0 q) (hP1 : va_P D cl w1 H1) (hD1 : va_D (va_A wc H.size) w1) : va_P D cl (wr ++ w1) H1 ∧ va_D A0 (wr ++ w1) := by
  have eR : ∀ (k : Nat) (q : Nat × va_E), wr[k]? = some q → (wr ++ wc)[k]? = some q ∧ k < wr.length := fun k q h => by
    have hl := (List.getElem?_eq_some_iff.mp h).1
    exact ⟨by rw [List.getElem?_append_left hl]; exact h, hl⟩
  have eC : ∀ (k : Nat) (q : Nat × va_E), wc[k]? = some q → (wr ++ wc)[wr.length + k]? = some q := fun k q h => by
    rw [List.getElem?_append_right (Nat.le_add_right _ _), Nat.add_sub_cancel_left]; exact h
  have apart : ∀ (k : Nat) (q : Nat × va_E), wr[k]? = some q → q.1 < H.size ∧ ¬ va_A wc H.size q.1 := by
    intro k q hq
    obtain ⟨h1, hl⟩ := eR k q hq
    have hlt := (hP k q h1).lt
    refine ⟨hlt, fun h => ?_⟩
    rcases h with ⟨k2, z, h⟩ | h
    · have hij := hD.1 k _ q (q.1, z) h1 (eC k2 _ h) rfl
      omega
    · omega
  refine ⟨va_P.app (fun k q hq => ?_) hP1, va_D.app ⟨fun i j x y hi hj hxy => hD.1 i j x y (eR i x hi).1 (eR j y hj).1 hxy, fun k q hq => hD.2 k q (eR k q hq).1⟩ (hD1.weaken (fun k q _ h => hF q.1 h)) (fun i j x y hx hy hxy => (apart i x hx).2 (by rw [hxy]; exact hD1.2 j y hy))⟩
  obtain ⟨g1, g2⟩ := apart k q hq
  exact (hP k q (eR k q hq).1).kept (hk q.1 g1 g2)
theorem q_freeC {A0 : Nat → Prop} {wr wc : va_W} {H0 H : Heap} {locs : List Loc} (hD : va_D A0 (wr ++ wc)) (hS : va_S A0 H0 H locs) (hA : ∀ q, H0.size ≤ q → A0 q) : ∀ q, va_A wc H.size q → A0 q := by
  intro q h
  rcases h with ⟨k, z, h⟩ | h
  · refine hD.2 (wr.length + k) (q, z) ?_
    rw [List.getElem?_append_right (Nat.le_add_right _ _), Nat.add_sub_cancel_left]; exact h
  · exact hA q (Nat.le_trans hS.1 h)
section QC
variable {p : Program} {l : Launch} {e : Env} {R : Room} {s : State} {m : MethodId} {args : Array Value} {below : List Frame} {meth : Method} {c : Code} {H : Heap} {locs : List Loc} {cells slots : Nat} {Q : State → Prop}
variable {cc bytes : ByteArray} {pc maxL nL n index mc ms : Nat} {ls : Array Slot} {rest As st0 : List Value} {y : MethodName} {ret : Option FieldType} {ws Ts : List Cond} {rm : Room} {own C : String} {b : Nat} {g : gT} {A : Nat → Prop} {H0 : Heap}
theorem q_roV {F : Heap → Prop} {v : Option Value} (S : CallFix p m c cc nL s args Ts own) (hM : RO l y ws rm (.ref b :: As) g F v) (cw : CallW R s args own C index y bytes maxL ret ws rm 0 0 n) (hE : Ev g A s H) (hA : ∀ q, H.size ≤ q → A q) (hF : F H)
    (hrecv : ∃ cellB : Cell, H[b]? = some cellB ∧ cellB.vm.isStatics = false ∧ s.vm.findClass C = some cellB.cls) (hn : As.length = n) (hsize : ls.size = nL) (hst : st0 = As.reverse ++ .ref b :: rest) (hW : (rest.map fun v => v.category).sum ≤ 8) (d : decode cc pc = .ok (.invokevirtual index, 3)) (hf : cells ≤ R.cells ∧ slots ≤ R.slots)
    (kk : W p l e R s m args below meth c H locs cells slots Q (F0 m (pc + 3) ls (v.toList ++ rest))) : W p l e R s m args below meth c H locs cells slots Q (F0 m pc ls st0) := by
  subst hst
  have hr := W.runV (g := F0 m pc ls (As.reverse ++ .ref b :: rest)) (rest := rest) (As := As) (H := H) (locs := locs) (cells := cells) (slots := slots) (e := e) (below := below) (meth := meth) S hM cw ⟨q_F.blind, hrecv, fun U hU hW => q_F.of hE hA hF hU hW⟩ rfl hn hsize rfl (lv_room hW) d hf
  intro T hT X
  obtain ⟨v', st₀, t, T', L, h0, X', hL, e1, ⟨hv, hh⟩, st⟩ := hr T hT X
  cases hv
  obtain ⟨t2, a1, b1⟩ := kk T' (by rw [e1, hh, h0]) (Stand.forget X' (fun q h => (hL q h).elim))
  exact ⟨t2, st t2 a1, b1⟩
theorem q_roS {F : Heap → Prop} {v : Option Value} (S : CallFix p m c cc nL s args Ts own) (hM : RO l y ws rm As g F v) (cw : CallB R s args own index y bytes maxL ret ws rm 0 0 n ∧ (Cond.static y).before args s = true) (hE : Ev g A s H) (hA : ∀ q, H.size ≤ q → A q) (hF : F H)
    (hn : As.length = n) (hsize : ls.size = nL) (hst : st0 = As.reverse ++ rest) (hW : (rest.map fun v => v.category).sum ≤ 8) (d : decode cc pc = .ok (.invokestatic index, 3)) (hf : cells ≤ R.cells ∧ slots ≤ R.slots)
    (kk : W p l e R s m args below meth c H locs cells slots Q (F0 m (pc + 3) ls (v.toList ++ rest))) : W p l e R s m args below meth c H locs cells slots Q (F0 m pc ls st0) := by
  subst hst
  have hr := W.runS (g := F0 m pc ls (As.reverse ++ rest)) (rest := rest) (As := As) (H := H) (locs := locs) (cells := cells) (slots := slots) (e := e) (below := below) (meth := meth) S hM cw ⟨q_F.blind, fun U hU hW => q_F.of hE hA hF hU hW⟩ rfl hn hsize rfl (lv_room hW) d hf
  intro T hT X
  obtain ⟨v', st₀, t, T', L, h0, X', hL, e1, ⟨hv, hh⟩, st⟩ := hr T hT X
  cases hv
  obtain ⟨t2, a1, b1⟩ := kk T' (by rw [e1, hh, h0]) (Stand.forget X' (fun q h => (hL q h).elim))
  exact ⟨t2, st t2 a1, b1⟩
/-- behind a writer's run -/
theorem q_wrK {S0 : Type} {B : S0 → va_W} {v : S0 → Option Value} {wr wc : va_W} {a : Array Value} (hr : va_Run p l e R s m args below meth c H locs cells slots mc ms (F0 m pc ls st0) rest (q_Qw B v g wc H.size a) (va_A wc H.size))
    (hE : Ev g A s H) (hP : va_P g.1 vwCl (wr ++ wc) H) (hD : va_D A (wr ++ wc)) (hS : va_S A H0 H locs) (hA : ∀ q, H0.size ≤ q → A q)
    (kk : ∀ (u : S0) (H1 : Heap) (locs1 : List Loc), va_P g.1 vwCl (wr ++ B u) H1 → va_D A (wr ++ B u) → va_S A H0 H1 locs1 → Ev g A s H1 → W p l e R s m args below meth c H1 locs1 (cells + mc) (slots + ms) Q (F0 m (pc + 3) ls ((v u).toList ++ rest))) : W p l e R s m args below meth c H locs cells slots Q (F0 m pc ls st0) := by
  have hf := q_freeC hD hS hA
  intro T hT X
  obtain ⟨v', st₀, t, T', L, h0, X', hL, e1, e2, ⟨⟨u, hv, hP1, hD1⟩, hF⟩, st⟩ := hr T hT X
  obtain ⟨k1, k2, k3⟩ := vx_keep h0 e1 hS (fun q _ h => hf q h) hf hL hF
  rw [← e1] at hP1
  obtain ⟨j1, j2⟩ := q_join hP hD k2 hf hP1 hD1
  have hv := Outcome.returned.inj hv
  subst hv
  obtain ⟨t2, a1, b1⟩ := kk u T'.heap (locs ++ L) j1 j2 k3 (hE.kept (fun q h1 h2 => k2 q h1 (fun z => h2 (hf q z)))) T' rfl X'
  exact ⟨t2, st t2 a1, b1⟩
theorem q_wrV {S0 : Type} {B : S0 → va_W} {v : S0 → Option Value} {wr wc : va_W} (S : CallFix p m c cc nL s args Ts own) (hM : WR l y ws rm (.ref b :: As) g wc H.size B v mc ms) (cw : CallW R s args own C index y bytes maxL ret ws rm mc ms n)
    (hE : Ev g A s H) (hP : va_P g.1 vwCl (wr ++ wc) H) (hD : va_D A (wr ++ wc)) (hS : va_S A H0 H locs) (hA : ∀ q, H0.size ≤ q → A q)
    (hrecv : ∃ cellB : Cell, H[b]? = some cellB ∧ cellB.vm.isStatics = false ∧ s.vm.findClass C = some cellB.cls) (hn : As.length = n) (hsize : ls.size = nL) (hst : st0 = As.reverse ++ .ref b :: rest) (hW : (rest.map fun v => v.category).sum ≤ 8) (d : decode cc pc = .ok (.invokevirtual index, 3)) (hf : cells + mc ≤ R.cells ∧ slots + ms ≤ R.slots)
    (kk : ∀ (u : S0) (H1 : Heap) (locs1 : List Loc), va_P g.1 vwCl (wr ++ B u) H1 → va_D A (wr ++ B u) → va_S A H0 H1 locs1 → Ev g A s H1 → W p l e R s m args below meth c H1 locs1 (cells + mc) (slots + ms) Q (F0 m (pc + 3) ls ((v u).toList ++ rest))) : W p l e R s m args below meth c H locs cells slots Q (F0 m pc ls st0) := by
  subst hst
  exact q_wrK (va_runV (g := F0 m pc ls (As.reverse ++ .ref b :: rest)) (rest := rest) (As := As) S hM cw ⟨q_W.blind, hrecv, fun U hU hW => q_W.of hE hP hD hS hA hU hW⟩ rfl hn hsize rfl (lv_room hW) d hf) hE hP hD hS hA kk
theorem q_wrS {S0 : Type} {B : S0 → va_W} {v : S0 → Option Value} {wr wc : va_W} (S : CallFix p m c cc nL s args Ts own) (hM : WR l y ws rm As g wc H.size B v mc ms) (cw : CallB R s args own index y bytes maxL ret ws rm mc ms n ∧ (Cond.static y).before args s = true)
    (hE : Ev g A s H) (hP : va_P g.1 vwCl (wr ++ wc) H) (hD : va_D A (wr ++ wc)) (hS : va_S A H0 H locs) (hA : ∀ q, H0.size ≤ q → A q)
    (hn : As.length = n) (hsize : ls.size = nL) (hst : st0 = As.reverse ++ rest) (hW : (rest.map fun v => v.category).sum ≤ 8) (d : decode cc pc = .ok (.invokestatic index, 3)) (hf : cells + mc ≤ R.cells ∧ slots + ms ≤ R.slots)
    (kk : ∀ (u : S0) (H1 : Heap) (locs1 : List Loc), va_P g.1 vwCl (wr ++ B u) H1 → va_D A (wr ++ B u) → va_S A H0 H1 locs1 → Ev g A s H1 → W p l e R s m args below meth c H1 locs1 (cells + mc) (slots + ms) Q (F0 m (pc + 3) ls ((v u).toList ++ rest))) : W p l e R s m args below meth c H locs cells slots Q (F0 m pc ls st0) := by
  subst hst
  exact q_wrK (va_runS (g := F0 m pc ls (As.reverse ++ rest)) (rest := rest) (As := As) S hM cw ⟨q_W.blind, fun U hU hW => q_W.of hE hP hD hS hA hU hW⟩ rfl hn hsize rfl (lv_room hW) d hf) hE hP hD hS hA kk
theorem q_wrI {S0 : Type} {B : S0 → va_W} {v : S0 → Option Value} {wr wc : va_W} (S : CallFix p m c cc nL s args Ts own) (hM : WR l y ws rm (.ref b :: As) g wc H.size B v mc ms) (cw : CallB R s args own index y bytes maxL none ws rm mc ms n ∧ y.name = "<init>" ∧ (Cond.instanceMethod y).before args s = true)
    (hE : Ev g A s H) (hP : va_P g.1 vwCl (wr ++ wc) H) (hD : va_D A (wr ++ wc)) (hS : va_S A H0 H locs) (hA : ∀ q, H0.size ≤ q → A q)
    (hn : As.length = n) (hsize : ls.size = nL) (hst : st0 = As.reverse ++ .ref b :: rest) (hW : (rest.map fun v => v.category).sum ≤ 8) (d : decode cc pc = .ok (.invokespecial index, 3)) (hf : cells + mc ≤ R.cells ∧ slots + ms ≤ R.slots)
    (kk : ∀ (u : S0) (H1 : Heap) (locs1 : List Loc), va_P g.1 vwCl (wr ++ B u) H1 → va_D A (wr ++ B u) → va_S A H0 H1 locs1 → Ev g A s H1 → W p l e R s m args below meth c H1 locs1 (cells + mc) (slots + ms) Q (F0 m (pc + 3) ls ((v u).toList ++ rest))) : W p l e R s m args below meth c H locs cells slots Q (F0 m pc ls st0) := by
  subst hst
  exact q_wrK (va_runI (g := F0 m pc ls (As.reverse ++ .ref b :: rest)) (rest := rest) (As := As) S hM cw ⟨q_W.blind, fun U hU hW => q_W.of hE hP hD hS hA hU hW⟩ rfl hn hsize rfl (lv_room hW) d hf) hE hP hD hS hA kk
theorem q_wrIN {S0 : Type} {B : S0 → va_W} {v : S0 → Option Value} {wr wc : va_W} {host : String} (S : CallFix p m c cc nL s args Ts own) (hM : WR l y ws rm (.ref b :: As) g wc H.size B v mc ms) (cw : va_CN R s args own index y host bytes maxL none ws rm mc ms n ∧ y.name = "<init>" ∧ (Cond.instanceMethod y).before args s = true)
    (hE : Ev g A s H) (hP : va_P g.1 vwCl (wr ++ wc) H) (hD : va_D A (wr ++ wc)) (hS : va_S A H0 H locs) (hA : ∀ q, H0.size ≤ q → A q)
    (hn : As.length = n) (hsize : ls.size = nL) (hst : st0 = As.reverse ++ .ref b :: rest) (hW : (rest.map fun v => v.category).sum ≤ 8) (d : decode cc pc = .ok (.invokespecial index, 3)) (hf : cells + mc ≤ R.cells ∧ slots + ms ≤ R.slots)
    (kk : ∀ (u : S0) (H1 : Heap) (locs1 : List Loc), va_P g.1 vwCl (wr ++ B u) H1 → va_D A (wr ++ B u) → va_S A H0 H1 locs1 → Ev g A s H1 → W p l e R s m args below meth c H1 locs1 (cells + mc) (slots + ms) Q (F0 m (pc + 3) ls ((v u).toList ++ rest))) : W p l e R s m args below meth c H locs cells slots Q (F0 m pc ls st0) := by
  subst hst
  exact q_wrK (va_runIN (g := F0 m pc ls (As.reverse ++ .ref b :: rest)) (rest := rest) (As := As) S hM cw ⟨q_W.blind, fun U hU hW => q_W.of hE hP hD hS hA hU hW⟩ rfl hn hsize rfl (lv_room hW) d hf) hE hP hD hS hA kk
/-- a thrower is called: what goes on with the exception q9 over the frame -/
theorem q_thV {F : Heap → Prop} {E : String} (S : CallFix p m c cc nL s args Ts own) (hM : TH l y ws rm (.ref b :: As) g F E) (cw : CallW R s args own C index y bytes maxL ret ws rm 1 6 n) (hE : Ev g A s H) (hA : ∀ q, H.size ≤ q → A q) (hF : F H)
    (hrecv : ∃ cellB : Cell, H[b]? = some cellB ∧ cellB.vm.isStatics = false ∧ s.vm.findClass C = some cellB.cls) (hn : As.length = n) (hsize : ls.size = nL) (hst : st0 = As.reverse ++ .ref b :: rest) (hW : (rest.map fun v => v.category).sum ≤ 8) (d : decode cc pc = .ok (.invokevirtual index, 3)) (hf : cells + 1 ≤ R.cells ∧ slots + 6 ≤ R.slots)
    (kx : ∀ (ce : Cell) (q9 : Addr) (H1 : Heap), H.size ≤ H1.size → (∀ q : Nat, q < H.size → H1[q]? = H[q]?) → H1[q9]? = some ce → ce.vm = .none → s.vm.findClass E = some ce.cls → vx_W p l e R s m args below meth c H1 locs (cells + 1) (slots + 6) Q (F0 m pc ls rest) q9) : W p l e R s m args below meth c H locs cells slots Q (F0 m pc ls st0) := by
  subst hst
  have hr := vx_runV (g := F0 m pc ls (As.reverse ++ .ref b :: rest)) (rest := rest) (As := As) (H := H) (locs := locs) (cells := cells) (slots := slots) (e := e) (below := below) (meth := meth) S hM cw ⟨q_F.blind, hrecv, fun U hU hW => q_F.of hE hA hF hU hW⟩ rfl hn hsize rfl (lv_room hW) d hf
  intro T hT X
  rcases hr T hT X with ⟨v, st₀, t, T', L, h0, X', hL, e1, e2, hq, st⟩ | ⟨q, st₀, t, T', L, E', ce, h0, X', hL, e1, e2, ⟨rfl, hz, hk⟩, hce, hcv, hcl, st⟩
  · exact hq.elim
  · rw [h0] at hz hk
    obtain ⟨t2, a1, b1⟩ := kx ce q T'.heap (by rw [e1]; exact hz) (fun q h => by rw [e1]; exact hk q h) (by rw [e1]; exact hce) hcv hcl T' rfl (Stand.forget X' (fun q h => (hL q h).elim))
    exact ⟨t2, st.trans a1, b1⟩
/-- .. it goes on to the caller -/
theorem q_thVo {F : Heap → Prop} {E : String} {Qc : Array Value → State → Outcome → State → Prop} (hno : ∀ x ∈ c.exceptionTable.toList, False) (hlocks : meth.locks = false) (S : CallFix p m c cc nL s args Ts own) (hM : TH l y ws rm (.ref b :: As) g F E) (cw : CallW R s args own C index y bytes maxL ret ws rm 1 6 n) (hE : Ev g A s s.heap) (hA : ∀ q, s.heap.size ≤ q → A q) (hF : F s.heap)
    (hrecv : ∃ cellB : Cell, s.heap[b]? = some cellB ∧ cellB.vm.isStatics = false ∧ s.vm.findClass C = some cellB.cls) (hn : As.length = n) (hsize : ls.size = nL) (hst : st0 = As.reverse ++ .ref b :: rest) (hW : (rest.map fun v => v.category).sum ≤ 8) (d : decode cc pc = .ok (.invokevirtual index, 3)) (hf : 0 + 1 ≤ R.cells ∧ 0 + 6 ≤ R.slots) :
    W p l e R s m args below meth c s.heap [] 0 0 (vx_MQ below Qc (q_X E) args s 1 6 (fun _ => False)) (F0 m pc ls st0) := by
  refine q_thV S hM cw hE hA hF hrecv hn hsize hst hW d hf (fun ce q9 H1 z k h1 h2 h3 => ?_)
  exact vx_out (fun x hx => (hno x hx).elim) hlocks h1 h2 h3 (fun t ht _ => ⟨rfl, by rw [ht]; exact z, fun q h => by rw [ht]; exact k q h⟩) (fun _ h => nomatch h) (Nat.le_refl 1) (Nat.le_refl 6)
/-- 'throw new E("text")' of the class FlagChips -/
theorem q_throw {E text : String} {ik is ic : Nat} {Qc : Array Value → State → Outcome → State → Prop} (hx : p.tables.exec = Jvm.exec) (hb : c.code = cc) (hl : l.stackTraces = false) (hno : ∀ x ∈ c.exceptionTable.toList, False) (hlocks : meth.locks = false) (hown : s.vm.findClass RX3 = some m.cls) (hE : Ev g (q_n s.heap) s s.heap)
    (hts : ∀ w ∈ Ts, w.before args s = true) (hcls : Bundle.fit E = true) (hnames : ∀ n ∈ xN, Bundle.fit n = true) (hk : Cond.classLink RX3 ik E ∈ Ts) (hini : Cond.initialized E ∈ Ts) (hmem : (is, text) ∈ q_strs) (hin : ∀ w ∈ (vx_atS RX3 ic E xN).filter goodWord, w ∈ Ts) (hnin : ∀ w ∈ (vx_atS RX3 ic E xN).filter (fun w => !goodWord w), w ∈ q_nws)
    (hgood : ∀ w ∈ Cond.classLink RX3 ik E :: Cond.initialized E :: vx_atS RX3 ic E xN, vx_ot w = true) (hsize : ls.size = c.maxLocals)
    (d0 : decode cc pc = .ok (.new ik, 3)) (d3 : decode cc (pc + 3) = .ok (.dup, 1)) (d4 : decode cc (pc + 4) = .ok (.ldc is, 2)) (d6 : decode cc (pc + 6) = .ok (.invokespecial ic, 3)) (d9 : decode cc (pc + 9) = .ok (.athrow, 1))
    (hRf : 5 < R.frames) (hRl : (rest.map fun v => v.category).sum + 82 ≤ R.locals) (hRc : 1 ≤ R.cells) (hRs : 6 ≤ R.slots) :
    W p l e R s m args below meth c s.heap [] 0 0 (vx_MQ below Qc (q_X E) args s 1 6 (fun _ => False)) (F0 m pc ls rest) := by
  obtain ⟨sa, hstr⟩ := hE.1.2.2.1 _ hmem
  refine vx_throwS (own := RX3) (names := xN) (A := q_n s.heap) hx hb hl hown hcls hnames (hts _ hk) (hts _ hini) hstr (vx_hat (B := q_nws) (fun w h => hts w (hin w h)) hnin (fun w h => ?_)) hgood hE.2.1 hE.2.2.1 va_S.rf hsize d0 d3 d4 d6 d9 (fun x hx => (hno x hx).elim) hRf hRl (by omega) (by omega) hlocks (fun t _ z k => ⟨rfl, z, k⟩) (fun _ h => nomatch h) (Nat.le_refl _) (Nat.le_refl _)
  have ok := q_nws_ok w h
  rw [Bool.and_eq_true] at ok
  exact va_Nw.use ok.2 (hE.1.2.2.2.1 w h)
/-! ends -/
theorem q_iret {x v : Int32} (hx : p.tables.exec = Jvm.exec) (hb : c.code = cc) (hr : meth.sig.returnType = some .int) (hlocks : meth.locks = false) (d : decode cc pc = .ok (.ireturn, 1)) (hv : x = v) : W p l e R s m args below meth c s.heap [] 0 0 (MQ below (q_Q (some (.int v))) args s 0 0 (fun _ => False)) (F0 m pc ls [.int x]) := by
  subst hv
  exact W.iret hx hb hr (fun t ht _ => ⟨rfl, ht⟩) (fun _ h => nomatch h) d hlocks
theorem q_zret {x v : Int32} (hx : p.tables.exec = Jvm.exec) (hb : c.code = cc) (hr : meth.sig.returnType = some .boolean) (hlocks : meth.locks = false) (d : decode cc pc = .ok (.ireturn, 1)) (hn : narrow .boolean (.int x) = .int x) (hv : x = v) : W p l e R s m args below meth c s.heap [] 0 0 (MQ below (q_Q (some (.int v))) args s 0 0 (fun _ => False)) (F0 m pc ls [.int x]) := by
  subst hv
  exact W.zret hx hb hr hn (fun t ht _ => ⟨rfl, ht⟩) (fun _ h => nomatch h) d hlocks
theorem q_lret {x v : Int64} (hx : p.tables.exec = Jvm.exec) (hb : c.code = cc) (hr : meth.sig.returnType = some .long) (hlocks : meth.locks = false) (d : decode cc pc = .ok (.lreturn, 1)) (hv : x = v) : W p l e R s m args below meth c s.heap [] 0 0 (MQ below (q_Q (some (.long v))) args s 0 0 (fun _ => False)) (F0 m pc ls [.long x]) := by
  subst hv
  exact W.lret hx hb hr (fun t ht _ => ⟨rfl, ht⟩) (fun _ h => nomatch h) d hlocks
theorem q_dret {x v : UInt64} (hx : p.tables.exec = Jvm.exec) (hb : c.code = cc) (hr : meth.sig.returnType = some .double) (hlocks : meth.locks = false) (d : decode cc pc = .ok (.dreturn, 1)) (hv : x = v) : W p l e R s m args below meth c s.heap [] 0 0 (MQ below (q_Q (some (.double v))) args s 0 0 (fun _ => False)) (F0 m pc ls [.double x]) := by
  subst hv
  exact W.dret hx hb hr (fun t ht _ => ⟨rfl, ht⟩) (fun _ h => nomatch h) d hlocks
theorem q_aret {a : Nat} {rt : FieldType} (hx : p.tables.exec = Jvm.exec) (hb : c.code = cc) (hr : meth.sig.returnType = some rt) (hrt : (∃ n, rt = .object n) ∨ ∃ t, rt = .array t) (hlocks : meth.locks = false) (d : decode cc pc = .ok (.areturn, 1)) : W p l e R s m args below meth c s.heap [] 0 0 (MQ below (q_Q (some (.ref a))) args s 0 0 (fun _ => False)) (F0 m pc ls [.ref a]) :=
  W.aret hx hb hr hrt (Or.inr ⟨a, rfl⟩) (fun t ht _ => ⟨rfl, ht⟩) (fun _ h => nomatch h) d hlocks
theorem q_vret (hx : p.tables.exec = Jvm.exec) (hb : c.code = cc) (hr : meth.sig.returnType = none) (hlocks : meth.locks = false) (d : decode cc pc = .ok (.return_, 1)) : W p l e R s m args below meth c s.heap [] 0 0 (MQ below (q_Q none) args s 0 0 (fun _ => False)) (F0 m pc ls []) :=
  W.vret hx hb hr (fun t ht _ => ⟨rfl, ht⟩) (fun _ h => nomatch h) d hlocks
section QCW
variable {S0 : Type} {B : S0 → va_W} {v : S0 → Option Value} {wc : va_W} {sz : Nat}
theorem q_wiret {x : Int32} (u : S0) (hx : p.tables.exec = Jvm.exec) (hb : c.code = cc) (hr : meth.sig.returnType = some .int) (hlocks : meth.locks = false) (hP : va_P g.1 vwCl (B u) H) (hD : va_D (va_A wc sz) (B u)) (hS : va_S (va_A wc sz) s.heap H locs) (d : decode cc pc = .ok (.ireturn, 1)) (hv : v u = some (.int x)) : W p l e R s m args below meth c H locs cells slots (MQ below (q_Qw B v g wc sz) args s cells slots (va_A wc sz)) (F0 m pc ls [.int x]) :=
  W.iret hx hb hr (fun t ht _ => ⟨⟨u, by rw [hv], by rw [ht]; exact hP, hD⟩, hS.F ht⟩) hS.2.2 d hlocks
theorem q_wzret {x : Int32} (u : S0) (hx : p.tables.exec = Jvm.exec) (hb : c.code = cc) (hr : meth.sig.returnType = some .boolean) (hlocks : meth.locks = false) (hn : narrow .boolean (.int x) = .int x) (hP : va_P g.1 vwCl (B u) H) (hD : va_D (va_A wc sz) (B u)) (hS : va_S (va_A wc sz) s.heap H locs) (d : decode cc pc = .ok (.ireturn, 1)) (hv : v u = some (.int x)) : W p l e R s m args below meth c H locs cells slots (MQ below (q_Qw B v g wc sz) args s cells slots (va_A wc sz)) (F0 m pc ls [.int x]) :=
  W.zret hx hb hr hn (fun t ht _ => ⟨⟨u, by rw [hv], by rw [ht]; exact hP, hD⟩, hS.F ht⟩) hS.2.2 d hlocks
theorem q_wlret {x : Int64} (u : S0) (hx : p.tables.exec = Jvm.exec) (hb : c.code = cc) (hr : meth.sig.returnType = some .long) (hlocks : meth.locks = false) (hP : va_P g.1 vwCl (B u) H) (hD : va_D (va_A wc sz) (B u)) (hS : va_S (va_A wc sz) s.heap H locs) (d : decode cc pc = .ok (.lreturn, 1)) (hv : v u = some (.long x)) : W p l e R s m args below meth c H locs cells slots (MQ below (q_Qw B v g wc sz) args s cells slots (va_A wc sz)) (F0 m pc ls [.long x]) :=
  W.lret hx hb hr (fun t ht _ => ⟨⟨u, by rw [hv], by rw [ht]; exact hP, hD⟩, hS.F ht⟩) hS.2.2 d hlocks
theorem q_wdret {x : UInt64} (u : S0) (hx : p.tables.exec = Jvm.exec) (hb : c.code = cc) (hr : meth.sig.returnType = some .double) (hlocks : meth.locks = false) (hP : va_P g.1 vwCl (B u) H) (hD : va_D (va_A wc sz) (B u)) (hS : va_S (va_A wc sz) s.heap H locs) (d : decode cc pc = .ok (.dreturn, 1)) (hv : v u = some (.double x)) : W p l e R s m args below meth c H locs cells slots (MQ below (q_Qw B v g wc sz) args s cells slots (va_A wc sz)) (F0 m pc ls [.double x]) :=
  W.dret hx hb hr (fun t ht _ => ⟨⟨u, by rw [hv], by rw [ht]; exact hP, hD⟩, hS.F ht⟩) hS.2.2 d hlocks
theorem q_waret {a : Nat} {rt : FieldType} (u : S0) (hx : p.tables.exec = Jvm.exec) (hb : c.code = cc) (hr : meth.sig.returnType = some rt) (hrt : (∃ n, rt = .object n) ∨ ∃ t, rt = .array t) (hlocks : meth.locks = false) (hP : va_P g.1 vwCl (B u) H) (hD : va_D (va_A wc sz) (B u)) (hS : va_S (va_A wc sz) s.heap H locs) (d : decode cc pc = .ok (.areturn, 1)) (hv : v u = some (.ref a)) : W p l e R s m args below meth c H locs cells slots (MQ below (q_Qw B v g wc sz) args s cells slots (va_A wc sz)) (F0 m pc ls [.ref a]) :=
  W.aret hx hb hr hrt (Or.inr ⟨a, rfl⟩) (fun t ht _ => ⟨⟨u, by rw [hv], by rw [ht]; exact hP, hD⟩, hS.F ht⟩) hS.2.2 d hlocks
theorem q_wvret (u : S0) (hx : p.tables.exec = Jvm.exec) (hb : c.code = cc) (hr : meth.sig.returnType = none) (hlocks : meth.locks = false) (hP : va_P g.1 vwCl (B u) H) (hD : va_D (va_A wc sz) (B u)) (hS : va_S (va_A wc sz) s.heap H locs) (d : decode cc pc = .ok (.return_, 1)) (hv : v u = none) : W p l e R s m args below meth c H locs cells slots (MQ below (q_Qw B v g wc sz) args s cells slots (va_A wc sz)) (F0 m pc ls []) :=
  W.vret hx hb hr (fun t ht _ => ⟨⟨u, by rw [hv], by rw [ht]; exact hP, hD⟩, hS.F ht⟩) hS.2.2 d hlocks
end QCW
end QC
section QD
variable {p : Program} {l : Launch} {e : Env} {R : Room} {s : State} {m : MethodId} {args : Array Value} {below : List Frame} {meth : Method} {c : Code} {H : Heap} {locs : List Loc} {cells slots : Nat} {Q : State → Prop}
variable {cc : ByteArray} {pc index : Nat} {ls : Array Slot} {rest : List Value} {own : String} {g : gT} {A : Nat → Prop}
theorem q_iald {a n j : Nat} {f : Nat → Int32} {v : Int32} (hx : p.tables.exec = Jvm.exec) (hb : c.code = cc) (hE : Ev g A s H) (hat : va_at g.1 vwCl (a, .inl (gI g, n, .inl f)) H) (hj : j < n) (hn : n < 2147483648) (d : decode cc pc = .ok (.iaload, 1)) (hv : f j = v)
    (kk : W p l e R s m args below meth c H locs cells slots Q (F0 m (pc + 1) ls (.int v :: rest))) : W p l e R s m args below meth c H locs cells slots Q (F0 m pc ls (.int (nI j) :: .ref a :: rest)) := by
  refine va_iald hx hb hE.K (q_P1 hat) 0 0 rfl rfl (vp_in_nI hj hn) d ?_
  rw [nI_clamp (Nat.lt_trans hj hn), hv]
  exact kk
theorem q_alen {a n : Nat} {f : Nat → Int32} {v : Int32} (hx : p.tables.exec = Jvm.exec) (hb : c.code = cc) (hE : Ev g A s H) (hat : va_at g.1 vwCl (a, .inl (gI g, n, .inl f)) H) (d : decode cc pc = .ok (.arraylength, 1)) (hv : nI n = v)
    (kk : W p l e R s m args below meth c H locs cells slots Q (F0 m (pc + 1) ls (.int v :: rest))) : W p l e R s m args below meth c H locs cells slots Q (F0 m pc ls (.ref a :: rest)) :=
  va_alen hx hb hE.K (q_P1 hat) 0 0 rfl rfl hv d kk
theorem q_mmax {x y v : Int32} (hx : p.tables.exec = Jvm.exec) (hb : c.code = cc) (hml : c.maxLocals = ls.size) (hown : s.vm.findClass own = some m.cls) (h1 : (Cond.methodLink own index Lib.Math.max.name).before args s = true) (h2 : (Cond.static Lib.Math.max.name).before args s = true) (h3 : (Cond.initialized "java/lang/Math").before args s = true) (h4 : (Cond.code Lib.Math.max.name Lib.Math.max.code 2 (some .int)).before args s = true)
    (h5 : 1 ≤ R.frames) (h6 : (rest.map fun v => v.category).sum + 13 ≤ R.locals) (h7 : cells ≤ R.cells) (h8 : slots ≤ R.slots) (d : decode cc pc = .ok (.invokestatic index, 3)) (hv : (if x < y then y else x) = v)
    (kk : W p l e R s m args below meth c H locs cells slots Q (F0 m (pc + 3) ls (.int v :: rest))) : W p l e R s m args below meth c H locs cells slots Q (F0 m pc ls (.int y :: .int x :: rest)) := by
  subst hv; exact va_mmax hx hb hml hown h1 h2 h3 h4 h5 h6 h7 h8 d kk
theorem q_mmin {x y v : Int32} (hx : p.tables.exec = Jvm.exec) (hb : c.code = cc) (hml : c.maxLocals = ls.size) (hown : s.vm.findClass own = some m.cls) (h1 : (Cond.methodLink own index Lib.Math.min.name).before args s = true) (h2 : (Cond.static Lib.Math.min.name).before args s = true) (h3 : (Cond.initialized "java/lang/Math").before args s = true) (h4 : (Cond.code Lib.Math.min.name Lib.Math.min.code 2 (some .int)).before args s = true)
    (h5 : 1 ≤ R.frames) (h6 : (rest.map fun v => v.category).sum + 13 ≤ R.locals) (h7 : cells ≤ R.cells) (h8 : slots ≤ R.slots) (d : decode cc pc = .ok (.invokestatic index, 3)) (hv : (if y < x then y else x) = v)
    (kk : W p l e R s m args below meth c H locs cells slots Q (F0 m (pc + 3) ls (.int v :: rest))) : W p l e R s m args below meth c H locs cells slots Q (F0 m pc ls (.int y :: .int x :: rest)) := by
  subst hv; exact va_mmin hx hb hml hown h1 h2 h3 h4 h5 h6 h7 h8 d kk
theorem q_mabs {x v : Int32} (hx : p.tables.exec = Jvm.exec) (hb : c.code = cc) (hml : c.maxLocals = ls.size) (hown : s.vm.findClass own = some m.cls) (h1 : (Cond.methodLink own index Lib.Math.abs.name).before args s = true) (h2 : (Cond.static Lib.Math.abs.name).before args s = true) (h3 : (Cond.initialized "java/lang/Math").before args s = true) (h4 : (Cond.code Lib.Math.abs.name Lib.Math.abs.code 1 (some .int)).before args s = true)
    (h5 : 1 ≤ R.frames) (h6 : (rest.map fun v => v.category).sum + 13 ≤ R.locals) (h7 : cells ≤ R.cells) (h8 : slots ≤ R.slots) (d : decode cc pc = .ok (.invokestatic index, 3)) (hv : (if 0 ≤ x then x else 0 - x) = v)
    (kk : W p l e R s m args below meth c H locs cells slots Q (F0 m (pc + 3) ls (.int v :: rest))) : W p l e R s m args below meth c H locs cells slots Q (F0 m pc ls (.int x :: rest)) := by
  subst hv; exact va_mabs hx hb hml hown h1 h2 h3 h4 h5 h6 h7 h8 d kk
end QD
theorem q_sub {Ts : List Cond} (ws : List Cond) (k : Nat) (h : (Ts.drop k).take ws.length = ws) : ∀ w ∈ ws, w ∈ Ts := fun w hw => List.mem_of_mem_drop (List.mem_of_mem_take (i := ws.length) (by rw [h]; exact hw))
