/-! ===== worlds as sets of cells; contracts of methods that only make cells; rows of arrays of arrays ===== -/
theorem q_Pi {D : va_G} {cl : List vw_C} {w : va_W} {H : Heap} : va_P D cl w H ↔ ∀ q ∈ w, va_at D cl q H := by
  constructor
  · intro h q hq
    obtain ⟨k, hk⟩ := List.getElem?_of_mem hq
    exact h k q hk
  · intro h k q hk
    exact h q (List.mem_of_getElem? hk)
theorem q_Di {A : Nat → Prop} {w : va_W} : va_D A w ↔ (w.map (fun q => q.1)).Nodup ∧ ∀ q ∈ w, A q.1 := by
  constructor
  · intro h
    refine ⟨List.pairwise_iff_getElem.mpr (fun i j hi hj hij e => ?_), fun q hq => ?_⟩
    · rw [List.length_map] at hi hj
      rw [List.getElem_map, List.getElem_map] at e
      have := h.1 i j _ _ (List.getElem?_eq_getElem hi) (List.getElem?_eq_getElem hj) e
      omega
    · obtain ⟨k, hk⟩ := List.getElem?_of_mem hq
      exact h.2 k q hk
  · rintro ⟨h1, h2⟩
    refine ⟨fun i j x y hi hj e => ?_, fun k q hk => h2 q (List.mem_of_getElem? hk)⟩
    obtain ⟨li, ei⟩ := List.getElem?_eq_some_iff.mp hi
    obtain ⟨lj, ej⟩ := List.getElem?_eq_some_iff.mp hj
    have h3 := List.pairwise_iff_getElem.mp h1
    rcases Nat.lt_trichotomy i j with h | h | h
    · exact absurd (by rw [List.getElem_map, List.getElem_map, ei, ej]; exact e) (h3 i j (by rw [List.length_map]; exact li) (by rw [List.length_map]; exact lj) h)
    · exact h
    · exact absurd (by rw [List.getElem_map, List.getElem_map, ei, ej]; exact e.symm) (h3 j i (by rw [List.length_map]; exact lj) (by rw [List.length_map]; exact li) h)
/-- fewer cells, in another order -/
def q_SP (w' w : va_W) : Prop := ∃ l : va_W, w'.Perm l ∧ l.Sublist w
theorem q_SP.sub {w' w : va_W} (h : q_SP w' w) : ∀ q ∈ w', q ∈ w := by
  obtain ⟨l, h1, h2⟩ := h
  exact fun q hq => h2.subset (h1.subset hq)
theorem q_spP {D : va_G} {cl : List vw_C} {w w' : va_W} {H : Heap} (h : q_SP w' w) (hP : va_P D cl w H) : va_P D cl w' H :=
  q_Pi.mpr (fun q hq => q_Pi.mp hP q (h.sub q hq))
theorem q_spD {A : Nat → Prop} {w w' : va_W} (h : q_SP w' w) (hD : va_D A w) : va_D A w' := by
  obtain ⟨h1, h2⟩ := q_Di.mp hD
  refine q_Di.mpr ⟨?_, fun q hq => h2 q (h.sub q hq)⟩
  obtain ⟨l, hl, hs⟩ := h
  have h3 : (l.map (fun q => q.1)).Nodup := (List.Sublist.map _ hs).nodup h1
  exact (hl.map (fun q : Nat × va_E => q.1)).nodup_iff.mpr h3
theorem q_pe {w w' : va_W} (h : w'.Perm w) : q_SP w' w := ⟨w, h, List.Sublist.refl w⟩
theorem q_sl {w w' : va_W} (h : w'.Sublist w) : q_SP w' w := ⟨w', List.Perm.refl w', h⟩
theorem q_SP.trans {a b c : va_W} (h1 : q_SP a b) (h2 : c = b) : q_SP a c := h2 ▸ h1
/-- old cells stay as they were while only cells are made -/
theorem q_keep {D : va_G} {cl : List vw_C} {w : va_W} {H0 H : Heap} {locs : List Loc} (hP : va_P D cl w H0) (hS : va_S (va_A [] H0.size) H0 H locs) : va_P D cl w H := by
  intro k q hk
  have hlt := (hP k q hk).lt
  refine (hP k q hk).kept (hS.2.1 q.1 hlt ?_)
  rintro (⟨k2, z, h⟩ | h)
  · exact nomatch h
  · omega
theorem q_keep1 {D : va_G} {cl : List vw_C} {q : Nat × va_E} {H0 H : Heap} {locs : List Loc} (hP : va_at D cl q H0) (hS : va_S (va_A [] H0.size) H0 H locs) : va_at D cl q H := by
  have hlt := hP.lt
  refine hP.kept (hS.2.1 q.1 hlt ?_)
  rintro (⟨k2, z, h⟩ | h)
  · exact nomatch h
  · omega
theorem q_fst {D : va_G} {cl : List vw_C} {a b : va_W} {H : Heap} (hP : va_P D cl (a ++ b) H) : va_P D cl a H := q_Pi.mpr (fun q hq => q_Pi.mp hP q (List.mem_append_left _ hq))
theorem q_snd {D : va_G} {cl : List vw_C} {a b : va_W} {H : Heap} (hP : va_P D cl (a ++ b) H) : va_P D cl b H := q_Pi.mpr (fun q hq => q_Pi.mp hP q (List.mem_append_right _ hq))
/-- a start of a method that only makes cells: the surroundings, and what it reads -/
def q_N (av : List Value) (g : gT) (F : Heap → Prop) (sz : Nat) : Array Value → State → Prop := va_Pc av (fun U => U.heap.size = sz ∧ Ev g (va_A [] sz) U U.heap ∧ F U.heap)
theorem q_N.blind {av : List Value} {g : gT} {F : Heap → Prop} {sz : Nat} : FrameBlind (q_N av g F sz) := fun a U f mk h => ⟨h.1, h.2.1, Ev.calling h.2.2.1 f mk a, h.2.2.2⟩
theorem q_nil {sz q : Nat} (h : va_A [] sz q) : sz ≤ q := by
  rcases h with ⟨k, z, h⟩ | h
  · exact nomatch h
  · exact h
theorem q_N.of {av : List Value} {g : gT} {F : Heap → Prop} {A : Nat → Prop} {s U : State} {H : Heap} (hE : Ev g A s H) (hA : ∀ q, H.size ≤ q → A q) (hF : F H) (hU : U.heap = H) (hW : s.WarmedH U.vm) : q_N av g F H.size av.toArray U := by
  subst hU
  exact ⟨rfl, rfl, Ev.warm hW (hE.narrow (fun q h => hA q (q_nil h))), hF⟩
def NW {S : Type} (l : Launch) (y : MethodName) (ws : List Cond) (rm : Room) (av : List Value) (g : gT) (F : Heap → Prop) (sz : Nat) (B : S → va_W) (v : S → Option Value) (mc ms : Nat) : Prop := Met l y ws rm (q_N av g F sz) (q_Qw B v g [] sz) mc ms (va_A [] sz)
theorem NW.of {l : Launch} {y : MethodName} {ws ws' : List Cond} {rm : Room} {av : List Value} {g : gT} {cc : ByteArray} {maxL : Nat} {ret : Option FieldType} {S : Type} {F : Heap → Prop} {sz : Nat} {B : S → va_W} {v : S → Option Value} {mc ms : Nat} (hy : plainName y.cls = true) (hw : ws = Cond.code y cc maxL ret :: ws') (hlen : (lg_sl av).length ≤ maxL)
    (body : ∀ (p : Program) (e : Env) (s : State) (m : MethodId) (below : List Frame) (meth : Method) (c : Code), p.tables.exec = Jvm.exec → c.code = cc → c.maxLocals = maxL → meth.sig.returnType = ret → meth.locks = false → s.vm.findClass y.cls = some m.cls → (y.name = "<init>" → meth.name = "<init>") → (∀ w ∈ ws, w.before av.toArray s = true) →
      s.heap.size = sz → Ev g (va_A [] sz) s s.heap → F s.heap → ∀ ls : Array Slot, lv_has ls maxL (lv_args 0 av) → W p l e rm s m av.toArray below meth c s.heap [] 0 0 (MQ below (q_Qw B v g [] sz) av.toArray s mc ms (va_A [] sz)) (F0 m 0 ls [])) : NW l y ws rm av g F sz B v mc ms := by
  refine Met.ofW (cc := cc) (maxL := maxL) (ret := ret) hy hw ?_
  intro p e s m args below meth c s₁ B hml hv
  obtain ⟨rfl, hsz, hE, hF⟩ := hv
  rw [lg_entry_eq]
  exact body p e s m below meth c B.exec B.bytes hml B.returns B.notSynchronized (findClass_of_methodNamed B.named) (fun h => (name_of_methodNamed B.named B.method).1.trans h) (atoms_spec (ws := ws) B.pre) hsz hE hF _ (lv_entry av hlen)
theorem q_Pnil {D : va_G} {cl : List vw_C} {H : Heap} : va_P D cl [] H := fun _ _ h => nomatch h
theorem q_Dnil {A : Nat → Prop} : va_D A [] := And.intro (fun _ _ _ _ h => nomatch h) (fun _ _ h => nomatch h)
section QNW
variable {p : Program} {l : Launch} {e : Env} {R : Room} {s : State} {m : MethodId} {args : Array Value} {below : List Frame} {meth : Method} {c : Code} {H : Heap} {locs : List Loc} {cells slots : Nat} {Q : State → Prop}
variable {cc bytes : ByteArray} {pc maxL nL n index mc ms : Nat} {ls : Array Slot} {rest As st0 : List Value} {y : MethodName} {ret : Option FieldType} {ws Ts : List Cond} {rm : Room} {own C : String} {b : Nat} {g : gT} {A : Nat → Prop} {H0 : Heap}
theorem q_nwV {S0 : Type} {B : S0 → va_W} {v : S0 → Option Value} {wr : va_W} {F : Heap → Prop} (S : CallFix p m c cc nL s args Ts own) (hM : NW l y ws rm (.ref b :: As) g F H.size B v mc ms) (cw : CallW R s args own C index y bytes maxL ret ws rm mc ms n)
    (hE : Ev g A s H) (hP : va_P g.1 vwCl wr H) (hD : va_D A wr) (hS : va_S A H0 H locs) (hA : ∀ q, H0.size ≤ q → A q) (hF : F H)
    (hrecv : ∃ cellB : Cell, H[b]? = some cellB ∧ cellB.vm.isStatics = false ∧ s.vm.findClass C = some cellB.cls) (hn : As.length = n) (hsize : ls.size = nL) (hst : st0 = As.reverse ++ .ref b :: rest) (hW : (rest.map fun v => v.category).sum ≤ 8) (d : decode cc pc = .ok (.invokevirtual index, 3)) (hf : cells + mc ≤ R.cells ∧ slots + ms ≤ R.slots)
    (kk : ∀ (u : S0) (H1 : Heap) (locs1 : List Loc), va_P g.1 vwCl (wr ++ B u) H1 → va_D A (wr ++ B u) → va_S A H0 H1 locs1 → Ev g A s H1 → W p l e R s m args below meth c H1 locs1 (cells + mc) (slots + ms) Q (F0 m (pc + 3) ls ((v u).toList ++ rest))) : W p l e R s m args below meth c H locs cells slots Q (F0 m pc ls st0) := by
  subst hst
  exact q_wrK (wc := []) (va_runV (g := F0 m pc ls (As.reverse ++ .ref b :: rest)) (rest := rest) (As := As) S hM cw ⟨q_N.blind, hrecv, fun U hU hW => q_N.of hE (fun q h => hA q (Nat.le_trans hS.1 h)) hF hU hW⟩ rfl hn hsize rfl (lv_room hW) d hf) hE (by rw [List.append_nil]; exact hP) (by rw [List.append_nil]; exact hD) hS hA kk
theorem q_nwS {S0 : Type} {B : S0 → va_W} {v : S0 → Option Value} {wr : va_W} {F : Heap → Prop} (S : CallFix p m c cc nL s args Ts own) (hM : NW l y ws rm As g F H.size B v mc ms) (cw : CallB R s args own index y bytes maxL ret ws rm mc ms n ∧ (Cond.static y).before args s = true)
    (hE : Ev g A s H) (hP : va_P g.1 vwCl wr H) (hD : va_D A wr) (hS : va_S A H0 H locs) (hA : ∀ q, H0.size ≤ q → A q) (hF : F H)
    (hn : As.length = n) (hsize : ls.size = nL) (hst : st0 = As.reverse ++ rest) (hW : (rest.map fun v => v.category).sum ≤ 8) (d : decode cc pc = .ok (.invokestatic index, 3)) (hf : cells + mc ≤ R.cells ∧ slots + ms ≤ R.slots)
    (kk : ∀ (u : S0) (H1 : Heap) (locs1 : List Loc), va_P g.1 vwCl (wr ++ B u) H1 → va_D A (wr ++ B u) → va_S A H0 H1 locs1 → Ev g A s H1 → W p l e R s m args below meth c H1 locs1 (cells + mc) (slots + ms) Q (F0 m (pc + 3) ls ((v u).toList ++ rest))) : W p l e R s m args below meth c H locs cells slots Q (F0 m pc ls st0) := by
  subst hst
  exact q_wrK (wc := []) (va_runS (g := F0 m pc ls (As.reverse ++ rest)) (rest := rest) (As := As) S hM cw ⟨q_N.blind, fun U hU hW => q_N.of hE (fun q h => hA q (Nat.le_trans hS.1 h)) hF hU hW⟩ rfl hn hsize rfl (lv_room hW) d hf) hE (by rw [List.append_nil]; exact hP) (by rw [List.append_nil]; exact hD) hS hA kk
/-- int[][]: read, length, write, make -/
theorem q_aldA {a n j r : Nat} {f : Nat → Option Nat} (hx : p.tables.exec = Jvm.exec) (hb : c.code = cc) (hE : Ev g A s H) (hat : va_at g.1 vwCl (a, .inl (gA g, n, .inr (.inr (.inr (.inr f))))) H) (hj : j < n) (hn : n < 2147483648) (d : decode cc pc = .ok (.aaload, 1)) (hv : f j = some r)
    (kk : W p l e R s m args below meth c H locs cells slots Q (F0 m (pc + 1) ls (.ref r :: rest))) : W p l e R s m args below meth c H locs cells slots Q (F0 m pc ls (.int (nI j) :: .ref a :: rest)) := by
  have hin := vp_in_nI hj hn
  have hc : (nI j).toNatClampNeg = j := nI_clamp (Nat.lt_trans hj hn)
  refine W.aald (v := .ref r) (ty := .array .int) hx hb hat ((hE.K.2 2 _ rfl).1 n (fun j => va_rf (f j))) rfl (fun q => by cases q) (by show ¬ (_ ∨ (arrV _ _ _).slots.size ≤ _); rw [arrV_size]; exact hin) ?_ rfl rfl d kk
  show (arrV _ _ _).slots[_]? = _
  rw [hc, arrV_read _ _ hj, hv]; rfl
theorem q_alenA {a n : Nat} {z : (Nat → Int32) ⊕ (Nat → Int64) ⊕ (Nat → UInt32) ⊕ (Nat → UInt64) ⊕ (Nat → Option Nat)} {v : Int32} (hx : p.tables.exec = Jvm.exec) (hb : c.code = cc) (hE : Ev g A s H) (hat : va_at g.1 vwCl (a, .inl (gA g, n, z)) H) (d : decode cc pc = .ok (.arraylength, 1)) (hv : nI n = v)
    (kk : W p l e R s m args below meth c H locs cells slots Q (F0 m (pc + 1) ls (.int v :: rest))) : W p l e R s m args below meth c H locs cells slots Q (F0 m pc ls (.ref a :: rest)) :=
  va_alen hx hb hE.K (q_P1 hat) 0 2 rfl rfl hv d kk
theorem q_asg {s : State} {c : ClassId} : s.vm.assignable c c = true := by
  show s.vm.assignableAux 256 c c = true
  unfold Vm.assignableAux; simp
theorem q_aastA {wd : va_W} {a n j q0 r k : Nat} {f : Nat → Option Nat} {fr : Nat → Int32} (hx : p.tables.exec = Jvm.exec) (hb : c.code = cc) (hE : Ev g A s H) (hP : va_P g.1 vwCl wd H) (hD : va_D A wd) (hS : va_S A H0 H locs) (ha : wd[q0]? = some (a, .inl (gA g, n, .inr (.inr (.inr (.inr f)))))) (hr : va_at g.1 vwCl (r, .inl (gI g, k, .inl fr)) H) (hj : j < n) (hn : n < 2147483648) (d : decode cc pc = .ok (.aastore, 1))
    (kk : ∀ (H1 : Heap) (locs1 : List Loc), va_P g.1 vwCl (wd.set q0 (a, .inl (gA g, n, .inr (.inr (.inr (.inr (va_up f j (some r)))))))) H1 → va_D A (wd.set q0 (a, .inl (gA g, n, .inr (.inr (.inr (.inr (va_up f j (some r)))))))) → va_S A H0 H1 locs1 → W p l e R s m args below meth c H1 locs1 cells slots Q (F0 m (pc + 1) ls rest)) : W p l e R s m args below meth c H locs cells slots Q (F0 m pc ls (.ref r :: .int (nI j) :: .ref a :: rest)) := by
  have hin := vp_in_nI hj hn
  have hc : (nI j).toNatClampNeg = j := nI_clamp (Nat.lt_trans hj hn)
  obtain ⟨comp, cA, kA, f1, -, f2, f3, f4⟩ := arrayOverA_spec (va_AOA.use (A := args) hE.1.2.2.2.2.2.2.2)
  have e1 : some (gA g) = some cA := Eq.trans (Eq.symm (show s.vm.findClass ("[" ++ (FieldType.array .int).toString) = some (gA g) from (hE.K.2 2 _ rfl).2)) f4
  cases Option.some.inj e1
  have e2 : some (gI g) = some comp := Eq.trans (Eq.symm (show s.vm.findClass (FieldType.array .int).toString = some (gI g) from (hE.K.2 0 _ rfl).2)) f1
  cases Option.some.inj e2
  obtain ⟨-, kI, hkI, -⟩ := (hE.K.2 0 _ rfl).1 0 (fun _ => .null)
  refine W.aast hx hb (hP q0 _ ha) (fun q h => by cases h) (fun h => by cases h) f2 f3 rfl hkI ⟨fun q => hin (Or.inl q), by show _ < (arrV _ _ _).slots.size; rw [arrV_size, hc]; exact hj⟩ hr (fun q h => by cases h) hkI q_asg rfl rfl d fun H1 e z oq => ?_
  rw [hc] at e ⊢
  refine kk H1 _ (hP.set hD ha ?_ oq) (hD.set ha) (hS.put z oq (hD.2 q0 _ ha))
  show H1[a]? = some (vp_cell _ _)
  rw [e]
  rw [vp_cell_q, vp_cell_q, arrV_store]
  congr 2
  funext q
  by_cases hq : q = j
  · subst hq
    simp [updV, va_up, va_rf]
  · simp [updV, va_up, hq]
theorem q_newA {wd : va_W} {n : Nat} (hx : p.tables.exec = Jvm.exec) (hb : c.code = cc) (hown : s.vm.findClass own = some m.cls) (hlink : (Cond.classLink own index "[I").before args s = true) (hE : Ev g A s H) (hP : va_P g.1 vwCl wd H) (hD : va_D A wd) (hS : va_S A H0 H locs) (hA : ∀ q, H0.size ≤ q → A q) (hn : n ≤ 1000) (hcells : cells + 1 ≤ R.cells) (hslots : slots + n ≤ R.slots) (d : decode cc pc = .ok (.anewarray index, 3))
    (kk : ∀ (q : Nat) (H1 : Heap), va_P g.1 vwCl (wd ++ [(q, .inl (gA g, n, .inr (.inr (.inr (.inr (fun _ => none))))))]) H1 → va_D A (wd ++ [(q, .inl (gA g, n, .inr (.inr (.inr (.inr (fun _ => none))))))]) → va_S A H0 H1 locs → W p l e R s m args below meth c H1 locs (cells + 1) (slots + n) Q (F0 m (pc + 3) ls (.ref q :: rest))) : W p l e R s m args below meth c H locs cells slots Q (F0 m pc ls (.int (nI n) :: rest)) := by
  have hc : (nI n).toNatClampNeg = n := nI_clamp (by omega)
  refine W.anewA (t := .int) hx hb hown hlink (va_AOA.use hE.1.2.2.2.2.2.2.2) rfl d rfl (nI_pos (by omega)) (by rw [hc]; omega) hcells (by rw [hc]; exact hslots) (fun cA kA comp f1 f2 f3 f4 => ?_)
  have e1 : some (gA g) = some cA := Eq.trans (Eq.symm (show s.vm.findClass ("[" ++ (FieldType.array .int).toString) = some (gA g) from (hE.K.2 2 _ rfl).2)) f1
  cases Option.some.inj e1
  rw [hc]
  have hnew : va_at g.1 vwCl (H.size, .inl (gA g, n, .inr (.inr (.inr (.inr (fun _ => none)))))) (H.push { cls := gA g, slots := Array.replicate n .null, vm := .none }) := by
    show (H.push _)[H.size]? = some (vp_cell _ _)
    rw [Array.getElem?_push_size, vp_cell_q]
    exact congrArg some (arrV_new (gA g) n .null)
  have hP1 : va_P g.1 vwCl wd (H.push { cls := gA g, slots := Array.replicate n .null, vm := .none }) := hP.kept (fun k x hk => (Array.getElem?_push (xs := H)).trans (if_neg (Nat.ne_of_lt ((hP k x hk).lt))))
  refine kk H.size _ (hP1.app (q_P1 hnew)) (hD.push hP rfl (hA _ hS.1)) ?_
  refine ⟨?_, fun q h1 h2 => ?_, hS.2.2⟩
  · rw [Array.size_push]; have := hS.1; omega
  · rw [← hS.2.1 q h1 h2]
    have := hS.1
    exact (Array.getElem?_push (xs := H)).trans (if_neg (by omega))
end QNW
def sh (x : Int32) (k : Nat) : Int32 := x >>> (nI k &&& 31)
section QSH
variable {p : Program} {l : Launch} {e : Env} {R : Room} {s : State} {m : MethodId} {args : Array Value} {below : List Frame} {meth : Method} {c : Code} {H : Heap} {locs : List Loc} {cells slots : Nat} {Q : State → Prop}
variable {cc : ByteArray} {pc : Nat} {ls : Array Slot} {rest : List Value}
theorem q_ishr (hx : p.tables.exec = Jvm.exec) (hb : c.code = cc) {x y v : Int32} (d : decode cc pc = .ok (.ishr, 1)) (hv : x >>> (y &&& 31) = v) (k : W p l e R s m args below meth c H locs cells slots Q (F0 m (pc + 1) ls (.int v :: rest))) : W p l e R s m args below meth c H locs cells slots Q (F0 m (pc) ls (.int y :: .int x :: rest)) := by
  subst hv; exact lv_ishr hx hb d k
theorem q_ior (hx : p.tables.exec = Jvm.exec) (hb : c.code = cc) {x y v : Int32} (d : decode cc pc = .ok (.ior, 1)) (hv : x ||| y = v) (k : W p l e R s m args below meth c H locs cells slots Q (F0 m (pc + 1) ls (.int v :: rest))) : W p l e R s m args below meth c H locs cells slots Q (F0 m (pc) ls (.int y :: .int x :: rest)) := by
  subst hv; exact lv_ior hx hb d k
theorem q_lsub (hx : p.tables.exec = Jvm.exec) (hb : c.code = cc) {x y v : Int64} (d : decode cc pc = .ok (.lsub, 1)) (hv : x - y = v) (k : W p l e R s m args below meth c H locs cells slots Q (F0 m (pc + 1) ls (.long v :: rest))) : W p l e R s m args below meth c H locs cells slots Q (F0 m (pc) ls (.long y :: .long x :: rest)) := by
  subst hv; exact lv_lsub hx hb d k
end QSH
