/-! ===== the law's own calls ===== -/
abbrev oW (g : gT) (oa : Nat) (f : Nat → Int64) : Nat × va_E := (oa, .inl (gJ g, 1, .inr (.inl f)))
theorem q_tl {D : va_G} {cl : List vw_C} {x : Nat × va_E} {w : va_W} {H : Heap} (hP : va_P D cl (x :: w) H) : va_P D cl w H := fun k q h => hP (k + 1) q h
theorem q_cast {g : gT} {A : Nat → Prop} {s : State} {H : Heap} {w : Cond} {args : Array Value} (h : w ∈ q_nws) (hE : Ev g A s H) : w.before args s = true := by
  have ok := q_nws_ok w h
  rw [Bool.and_eq_true] at ok
  exact va_Nw.use ok.2 (hE.1.2.2.2.1 w h)
theorem WR.ofX {l : Launch} {y : MethodName} {ws ws' : List Cond} {rm : Room} {av : List Value} {g : gT} {cc : ByteArray} {maxL : Nat} {ret : Option FieldType} {hh : List (Nat × Nat × Nat × Nat)} {S : Type} {wc : va_W} {sz : Nat} {B : S → va_W} {v : S → Option Value} {mc ms : Nat} (hy : plainName y.cls = true) (hw : ws = Cond.codeWith y cc maxL ret hh :: ws') (hlen : (lg_sl av).length ≤ maxL)
    (body : ∀ (p : Program) (e : Env) (s : State) (m : MethodId) (below : List Frame) (meth : Method) (c : Code), p.tables.exec = Jvm.exec → c.code = cc → c.maxLocals = maxL → meth.sig.returnType = ret → meth.locks = false → s.vm.findClass y.cls = some m.cls → (∀ w ∈ ws, w.before av.toArray s = true) → c.exceptionTable.toList = tableOf hh →
      s.heap.size = sz → Ev g (va_A wc sz) s s.heap → va_P g.1 vwCl wc s.heap → va_D (va_A wc sz) wc → ∀ ls : Array Slot, lv_has ls maxL (lv_args 0 av) → W p l e rm s m av.toArray below meth c s.heap [] 0 0 (MQ below (q_Qw B v g wc sz) av.toArray s mc ms (va_A wc sz)) (F0 m 0 ls [])) : WR l y ws rm av g wc sz B v mc ms := by
  refine va_MetW (cc := cc) (maxL := maxL) (ret := ret) hy hw ?_
  intro p e s m args below meth c s₁ B hml hv
  obtain ⟨rfl, hsz, hE, hP, hD⟩ := hv
  rw [lg_entry_eq]
  have hts := atoms_spec (ws := ws) B.pre
  exact body p e s m below meth c B.exec B.bytes hml B.returns B.notSynchronized (findClass_of_methodNamed B.named) hts (vx_table (x := y) B (hts _ (by rw [hw]; exact List.mem_cons_self))) hsz hE hP hD.self _ (lv_entry av hlen)
section QX
variable {p : Program} {l : Launch} {e : Env} {R : Room} {s : State} {m : MethodId} {args : Array Value} {below : List Frame} {meth : Method} {c : Code} {H : Heap} {locs : List Loc} {cells slots : Nat} {Q : State → Prop}
variable {cc bytes : ByteArray} {pc maxL nL n index mc ms : Nat} {ls : Array Slot} {rest As st0 : List Value} {y : MethodName} {ret : Option FieldType} {ws Ts : List Cond} {rm : Room} {own C : String} {b : Nat} {g : gT} {A : Nat → Prop} {H0 : Heap}
theorem q_wrSW {S0 : Type} {B : S0 → va_W} {v : S0 → Option Value} {wr wc : va_W} {hh : List (Nat × Nat × Nat × Nat)} (S : CallFix p m c cc nL s args Ts own) (hM : WR l y ws rm As g wc H.size B v mc ms) (cw : vx_CSW R s args own index y bytes maxL ret hh ws rm mc ms n)
    (hE : Ev g A s H) (hP : va_P g.1 vwCl (wr ++ wc) H) (hD : va_D A (wr ++ wc)) (hS : va_S A H0 H locs) (hA : ∀ q, H0.size ≤ q → A q)
    (hn : As.length = n) (hsize : ls.size = nL) (hst : st0 = As.reverse ++ rest) (hW : (rest.map fun v => v.category).sum ≤ 8) (d : decode cc pc = .ok (.invokestatic index, 3)) (hf : cells + mc ≤ R.cells ∧ slots + ms ≤ R.slots)
    (kk : ∀ (u : S0) (H1 : Heap) (locs1 : List Loc), va_P g.1 vwCl (wr ++ B u) H1 → va_D A (wr ++ B u) → va_S A H0 H1 locs1 → Ev g A s H1 → W p l e R s m args below meth c H1 locs1 (cells + mc) (slots + ms) Q (F0 m (pc + 3) ls ((v u).toList ++ rest))) : W p l e R s m args below meth c H locs cells slots Q (F0 m pc ls st0) := by
  subst hst
  exact q_wrK (vx_runSW (g := F0 m pc ls (As.reverse ++ rest)) (rest := rest) (As := As) S hM cw ⟨q_W.blind, fun U hU hW => q_W.of hE hP hD hS hA hU hW⟩ rfl hn hsize rfl (lv_room hW) d hf) hE hP hD hS hA kk
theorem q_last {a q0 : Nat} {wc : va_W} {f : Nat → Int64} {x : Int64} (hx : p.tables.exec = Jvm.exec) (hb : c.code = cc) (hE : Ev g A s H) (hP : va_P g.1 vwCl wc H) (hD : va_D A wc) (hS : va_S A H0 H locs) (ha : wc[q0]? = some (a, .inl (gJ g, 1, .inr (.inl f)))) (d : decode cc pc = .ok (.lastore, 1))
    (kk : ∀ (H1 : Heap) (locs1 : List Loc), va_P g.1 vwCl (wc.set q0 (a, .inl (gJ g, 1, .inr (.inl (vp_updL f 0 x))))) H1 → va_D A (wc.set q0 (a, .inl (gJ g, 1, .inr (.inl (vp_updL f 0 x))))) → va_S A H0 H1 locs1 → W p l e R s m args below meth c H1 locs1 cells slots Q (F0 m (pc + 1) ls rest)) : W p l e R s m args below meth c H locs cells slots Q (F0 m pc ls (.long x :: .int (nI 0) :: .ref a :: rest)) :=
  va_last hx hb hE.K hP hD hS q0 2 ha rfl (vp_in_nI (by omega) (by omega)) d kk
/-- a thrower is called, and its exception caught -/
theorem q_thX {F : Heap → Prop} {E name : String} {wc : va_W} (S : CallFix p m c cc nL s args Ts own) (hM : TH l y ws rm (.ref b :: As) g F E) (cw : CallW R s args own C index y bytes maxL ret ws rm 1 6 n) (hE : Ev g A s H) (hA : ∀ q, H.size ≤ q → A q) (hF : F H)
    (hrecv : ∃ cellB : Cell, H[b]? = some cellB ∧ cellB.vm.isStatics = false ∧ s.vm.findClass C = some cellB.cls) (hn : As.length = n) (hsize : ls.size = nL) (hst : st0 = As.reverse ++ .ref b :: rest) (hW : (rest.map fun v => v.category).sum ≤ 8) (d : decode cc pc = .ok (.invokevirtual index, 3)) (hf : cells + 1 ≤ R.cells ∧ slots + 6 ≤ R.slots)
    (hP : va_P g.1 vwCl wc H) (hS : va_S A H0 H locs) (pre : List ExceptionTableEntry) (x : ExceptionTableEntry) (suf : List ExceptionTableEntry) (hsplit : c.exceptionTable.toList = pre ++ x :: suf)
    (hpass : ∀ z ∈ pre, covers z pc = false ∨ (z.catchType ≠ 0 ∧ ∃ nm : String, (Cond.classLink own z.catchType nm).before args s = true ∧ va_Nc E nm s)) (hx : covers x pc = true) (h0 : x.catchType ≠ 0)
    (hlink : (Cond.classLink own x.catchType name).before args s = true) (hcast : (Cond.castable E name).before args s = true)
    (kk : ∀ (q9 : Addr) (H1 : Heap), va_P g.1 vwCl wc H1 → va_S A H0 H1 locs → W p l e R s m args below meth c H1 locs (cells + 1) (slots + 6) Q (F0 m x.handlerPc ls [.ref q9])) : W p l e R s m args below meth c H locs cells slots Q (F0 m pc ls st0) := by
  refine q_thV S hM cw hE hA hF hrecv hn hsize hst hW d hf (fun ce q9 H1 z k h1 h2 h3 => ?_)
  refine vx_catch S.2.2.2.1 pre x suf hsplit hpass hx h0 hlink hcast h1 h2 h3 (kk q9 H1 (fun i q hq => (hP i q hq).kept (k q.1 ((hP i q hq).lt))) ?_)
  exact ⟨Nat.le_trans hS.1 z, fun q h4 h5 => (k q (Nat.lt_of_lt_of_le h4 hS.1)).trans (hS.2.1 q h4 h5), hS.2.2⟩
end QX
set_option maxHeartbeats 4000000 in
set_option maxRecDepth 100000 in
theorem w_L_chip {l : Launch} {g : gT} {sz : Nat} {oa : Nat} {f : Nat → Int64} {ad : Nat → Nat} {mc : Int32} {M : Nat} {sig : Nat → Int32} {z : sT} (hM : wM M (sn z)) (hV : VS z) {a b : Nat} (ha_ : a < sL z) (hb_ : b < sL z) : WR (S := Unit) l yL_chip wsL_chip ({ frames := 3, cells := 0, slots := 0, locals := 64 } : Room) [.ref (ad 0), .int (nI a), .int (nI b), .ref oa] g (oW g oa (f) :: wC g ad mc M sig z) sz (fun _ : Unit => oW g oa (vp_updL f 0 (chip a b).toInt64) :: wC g ad mc M sig z) (fun _ => some (.int (nI 0))) 0 0 := by
  refine WR.ofX (cc := cL_chip) (maxL := 5) (ret := (some .int)) (hh := [(0, 10, 13, 19)]) (by decide) rfl (Nat.le_of_ble_eq_true rfl) ?_
  intro p e s m below meth c hx hb hml hr hlocks hown hts htab hsz hE0 hP hD ls hl
  subst hsz
  have hown : s.vm.findClass RL = some m.cls := hown
  have hA : ∀ q, s.heap.size ≤ q → va_A (oW g oa (f) :: wC g ad mc M sig z) s.heap.size q := fun q h => Or.inr h
  have hE := hE0
  have hS : va_S (va_A (oW g oa (f) :: wC g ad mc M sig z) s.heap.size) s.heap s.heap [] := va_S.rf
  have hl : lv_has ls 5 [(0, .ref (ad 0)), (1, .int (nI a)), (2, .int (nI b)), (3, .ref oa)] := hl
  refine lv_aload_n hx hb dL_chip_0 rfl (lv_at hl 3 rfl) ?_
  refine lv_iconst (v := nI 0) hx hb dL_chip_1 (by decide) ?_
  refine lv_aload_n hx hb dL_chip_2 rfl (lv_at hl 0 rfl) ?_
  refine lv_iload_n hx hb dL_chip_3 rfl (lv_at hl 1 rfl) ?_
  refine lv_iload_n hx hb dL_chip_4 rfl (lv_at hl 2 rfl) ?_
  refine q_roV (As := [.int (nI a), .int (nI b)]) (rest := [.int (nI 0), .ref oa]) ⟨hx, hb, hml, hown, hts⟩ (c_X3_chip hM hV ha_ hb_) (cwV 2 hts gL_chip_X3_chip rfl rfl rfl (by decide +kernel) ⟨Nat.le_of_ble_eq_true rfl, Nat.le_of_ble_eq_true rfl⟩) hE (fun q h => hA q (Nat.le_trans hS.1 h)) (q_tl hP) (va_recv hE.K hP (ci := 4) (q0 := 1) rfl rfl) rfl hl.1 rfl (Nat.le_of_ble_eq_true rfl) dL_chip_5 ⟨Nat.le_of_ble_eq_true rfl, Nat.le_of_ble_eq_true rfl⟩ ?_
  refine lv_i2l (v := (chip a b).toInt64) hx hb dL_chip_8 rfl ?_
  refine q_last hx hb hE hP hD hS (q0 := 0) rfl dL_chip_9 (fun H locs hP hD hS => ?_)
  have hP : va_P g.1 vwCl (oW g oa (vp_updL f 0 (chip a b).toInt64) :: wC g ad mc M sig z) H := hP
  have hD : va_D (va_A (oW g oa (f) :: wC g ad mc M sig z) s.heap.size) (oW g oa (vp_updL f 0 (chip a b).toInt64) :: wC g ad mc M sig z) := hD
  have hE := hE0.kept hS.2.1
  refine lv_goto (tgt := 17) hx hb dL_chip_10 (by decide) ?_
  refine lv_iconst (v := nI 0) hx hb dL_chip_17 (by decide) ?_
  exact q_wiret (()) hx hb hr hlocks hP hD hS dL_chip_18 rfl
set_option maxHeartbeats 4000000 in
set_option maxRecDepth 100000 in
theorem w_L_sky {l : Launch} {g : gT} {sz : Nat} {oa : Nat} {f : Nat → Int64} {ad : Nat → Nat} {mc : Int32} {M : Nat} {sig : Nat → Int32} {z : sT} (hM : wM M (sn z)) (hV : VS z) {t : Nat} (ht_ : t < 1000) : WR (S := Unit) l yL_sky wsL_sky ({ frames := 2, cells := 0, slots := 0, locals := 43 } : Room) [.ref (ad 0), .int (nI t), .ref oa] g (oW g oa (f) :: wC g ad mc M sig z) sz (fun _ : Unit => oW g oa (vp_updL f 0 (atF (sst z) sig t).toInt64) :: wC g ad mc M sig z) (fun _ => some (.int (nI 0))) 0 0 := by
  refine WR.ofX (cc := cL_sky) (maxL := 4) (ret := (some .int)) (hh := [(0, 9, 12, 13)]) (by decide) rfl (Nat.le_of_ble_eq_true rfl) ?_
  intro p e s m below meth c hx hb hml hr hlocks hown hts htab hsz hE0 hP hD ls hl
  subst hsz
  have hown : s.vm.findClass RL = some m.cls := hown
  have hA : ∀ q, s.heap.size ≤ q → va_A (oW g oa (f) :: wC g ad mc M sig z) s.heap.size q := fun q h => Or.inr h
  have hE := hE0
  have hS : va_S (va_A (oW g oa (f) :: wC g ad mc M sig z) s.heap.size) s.heap s.heap [] := va_S.rf
  have hl : lv_has ls 4 [(0, .ref (ad 0)), (1, .int (nI t)), (2, .ref oa)] := hl
  refine lv_aload_n hx hb dL_sky_0 rfl (lv_at hl 2 rfl) ?_
  refine lv_iconst (v := nI 0) hx hb dL_sky_1 (by decide) ?_
  refine lv_aload_n hx hb dL_sky_2 rfl (lv_at hl 0 rfl) ?_
  refine lv_iload_n hx hb dL_sky_3 rfl (lv_at hl 1 rfl) ?_
  refine q_roV (As := [.int (nI t)]) (rest := [.int (nI 0), .ref oa]) ⟨hx, hb, hml, hown, hts⟩ (c_X3_sky hM hV ht_) (cwV 1 hts gL_sky_X3_sky rfl rfl rfl (by decide +kernel) ⟨Nat.le_of_ble_eq_true rfl, Nat.le_of_ble_eq_true rfl⟩) hE (fun q h => hA q (Nat.le_trans hS.1 h)) (q_tl hP) (va_recv hE.K hP (ci := 4) (q0 := 1) rfl rfl) rfl hl.1 rfl (Nat.le_of_ble_eq_true rfl) dL_sky_4 ⟨Nat.le_of_ble_eq_true rfl, Nat.le_of_ble_eq_true rfl⟩ ?_
  refine lv_i2l (v := (atF (sst z) sig t).toInt64) hx hb dL_sky_7 rfl ?_
  refine q_last hx hb hE hP hD hS (q0 := 0) rfl dL_sky_8 (fun H locs hP hD hS => ?_)
  have hP : va_P g.1 vwCl (oW g oa (vp_updL f 0 (atF (sst z) sig t).toInt64) :: wC g ad mc M sig z) H := hP
  have hD : va_D (va_A (oW g oa (f) :: wC g ad mc M sig z) s.heap.size) (oW g oa (vp_updL f 0 (atF (sst z) sig t).toInt64) :: wC g ad mc M sig z) := hD
  have hE := hE0.kept hS.2.1
  refine lv_goto (tgt := 15) hx hb dL_sky_9 (by decide) ?_
  refine lv_iconst (v := nI 0) hx hb dL_sky_15 (by decide) ?_
  exact q_wiret (()) hx hb hr hlocks hP hD hS dL_sky_16 rfl
set_option maxHeartbeats 4000000 in
set_option maxRecDepth 100000 in
theorem w_L_hear {l : Launch} {g : gT} {sz : Nat} {oa : Nat} {f : Nat → Int64} {ad : Nat → Nat} {mc : Int32} {M : Nat} {sig : Nat → Int32} {z : sT} (hM : wM M (sn z)) (hV : VS z) {a t : Nat} (ha_ : a < sL z) (ht_ : t < 1000) : WR (S := Unit) l yL_hear wsL_hear ({ frames := 4, cells := 0, slots := 0, locals := 88 } : Room) [.ref (ad 0), .int (nI a), .int (nI t), .ref oa] g (oW g oa (f) :: wC g ad mc M sig z) sz (fun _ : Unit => oW g oa (vp_updL f 0 (hearF (sL z) (atF (sst z) sig) a t).toInt64) :: wC g ad mc M sig z) (fun _ => some (.int (nI 0))) 0 0 := by
  refine WR.ofX (cc := cL_hear) (maxL := 5) (ret := (some .int)) (hh := [(0, 10, 13, 19), (0, 10, 17, 13)]) (by decide) rfl (Nat.le_of_ble_eq_true rfl) ?_
  intro p e s m below meth c hx hb hml hr hlocks hown hts htab hsz hE0 hP hD ls hl
  subst hsz
  have hown : s.vm.findClass RL = some m.cls := hown
  have hA : ∀ q, s.heap.size ≤ q → va_A (oW g oa (f) :: wC g ad mc M sig z) s.heap.size q := fun q h => Or.inr h
  have hE := hE0
  have hS : va_S (va_A (oW g oa (f) :: wC g ad mc M sig z) s.heap.size) s.heap s.heap [] := va_S.rf
  have hl : lv_has ls 5 [(0, .ref (ad 0)), (1, .int (nI a)), (2, .int (nI t)), (3, .ref oa)] := hl
  refine lv_aload_n hx hb dL_hear_0 rfl (lv_at hl 3 rfl) ?_
  refine lv_iconst (v := nI 0) hx hb dL_hear_1 (by decide) ?_
  refine lv_aload_n hx hb dL_hear_2 rfl (lv_at hl 0 rfl) ?_
  refine lv_iload_n hx hb dL_hear_3 rfl (lv_at hl 1 rfl) ?_
  refine lv_iload_n hx hb dL_hear_4 rfl (lv_at hl 2 rfl) ?_
  refine q_roV (As := [.int (nI a), .int (nI t)]) (rest := [.int (nI 0), .ref oa]) ⟨hx, hb, hml, hown, hts⟩ (c_X3_hear hM hV ha_ ht_) (cwV 2 hts gL_hear_X3_hear rfl rfl rfl (by decide +kernel) ⟨Nat.le_of_ble_eq_true rfl, Nat.le_of_ble_eq_true rfl⟩) hE (fun q h => hA q (Nat.le_trans hS.1 h)) (q_tl hP) (va_recv hE.K hP (ci := 4) (q0 := 1) rfl rfl) rfl hl.1 rfl (Nat.le_of_ble_eq_true rfl) dL_hear_5 ⟨Nat.le_of_ble_eq_true rfl, Nat.le_of_ble_eq_true rfl⟩ ?_
  refine lv_i2l (v := (hearF (sL z) (atF (sst z) sig) a t).toInt64) hx hb dL_hear_8 rfl ?_
  refine q_last hx hb hE hP hD hS (q0 := 0) rfl dL_hear_9 (fun H locs hP hD hS => ?_)
  have hP : va_P g.1 vwCl (oW g oa (vp_updL f 0 (hearF (sL z) (atF (sst z) sig) a t).toInt64) :: wC g ad mc M sig z) H := hP
  have hD : va_D (va_A (oW g oa (f) :: wC g ad mc M sig z) s.heap.size) (oW g oa (vp_updL f 0 (hearF (sL z) (atF (sst z) sig) a t).toInt64) :: wC g ad mc M sig z) := hD
  have hE := hE0.kept hS.2.1
  refine lv_goto (tgt := 21) hx hb dL_hear_10 (by decide) ?_
  refine lv_iconst (v := nI 0) hx hb dL_hear_21 (by decide) ?_
  exact q_wiret (()) hx hb hr hlocks hP hD hS dL_hear_22 rfl
set_option maxHeartbeats 4000000 in
set_option maxRecDepth 100000 in
theorem w_L_word {l : Launch} {g : gT} {sz : Nat} {oa : Nat} {f : Nat → Int64} {ad : Nat → Nat} {mc : Int32} {M : Nat} {sig : Nat → Int32} {z : sT} (hM : wM M (sn z)) (hV : VS z) {k w q_ : Nat} (hk_ : k < sn z) (hw_ : w < ssd z k) (hq_ : q_ < 3) : WR (S := Unit) l yL_word wsL_word ({ frames := 5, cells := 0, slots := 0, locals := 112 } : Room) [.ref (ad 0), .int (nI k), .int (nI w), .int (nI q_), .ref oa] g (oW g oa (f) :: wC g ad mc M sig z) sz (fun _ : Unit => oW g oa (vp_updL f 0 (wrdV z (atF (sst z) sig) k w q_).toInt64) :: wC g ad mc M sig z) (fun _ => some (.int (nI 0))) 0 0 := by
  refine WR.ofX (cc := cL_word) (maxL := 6) (ret := (some .int)) (hh := [(0, 12, 15, 19)]) (by decide) rfl (Nat.le_of_ble_eq_true rfl) ?_
  intro p e s m below meth c hx hb hml hr hlocks hown hts htab hsz hE0 hP hD ls hl
  subst hsz
  have hown : s.vm.findClass RL = some m.cls := hown
  have hA : ∀ q, s.heap.size ≤ q → va_A (oW g oa (f) :: wC g ad mc M sig z) s.heap.size q := fun q h => Or.inr h
  have hE := hE0
  have hS : va_S (va_A (oW g oa (f) :: wC g ad mc M sig z) s.heap.size) s.heap s.heap [] := va_S.rf
  have hl : lv_has ls 6 [(0, .ref (ad 0)), (1, .int (nI k)), (2, .int (nI w)), (3, .int (nI q_)), (4, .ref oa)] := hl
  refine lv_aload hx hb dL_word_0 (lv_at hl 4 rfl) ?_
  refine lv_iconst (v := nI 0) hx hb dL_word_2 (by decide) ?_
  refine lv_aload_n hx hb dL_word_3 rfl (lv_at hl 0 rfl) ?_
  refine lv_iload_n hx hb dL_word_4 rfl (lv_at hl 1 rfl) ?_
  refine lv_iload_n hx hb dL_word_5 rfl (lv_at hl 2 rfl) ?_
  refine lv_iload_n hx hb dL_word_6 rfl (lv_at hl 3 rfl) ?_
  refine q_roV (As := [.int (nI k), .int (nI w), .int (nI q_)]) (rest := [.int (nI 0), .ref oa]) ⟨hx, hb, hml, hown, hts⟩ (c_X3_word hM hV hk_ hw_ hq_) (cwV 3 hts gL_word_X3_word rfl rfl rfl (by decide +kernel) ⟨Nat.le_of_ble_eq_true rfl, Nat.le_of_ble_eq_true rfl⟩) hE (fun q h => hA q (Nat.le_trans hS.1 h)) (q_tl hP) (va_recv hE.K hP (ci := 4) (q0 := 1) rfl rfl) rfl hl.1 rfl (Nat.le_of_ble_eq_true rfl) dL_word_7 ⟨Nat.le_of_ble_eq_true rfl, Nat.le_of_ble_eq_true rfl⟩ ?_
  refine lv_i2l (v := (wrdV z (atF (sst z) sig) k w q_).toInt64) hx hb dL_word_10 rfl ?_
  refine q_last hx hb hE hP hD hS (q0 := 0) rfl dL_word_11 (fun H locs hP hD hS => ?_)
  have hP : va_P g.1 vwCl (oW g oa (vp_updL f 0 (wrdV z (atF (sst z) sig) k w q_).toInt64) :: wC g ad mc M sig z) H := hP
  have hD : va_D (va_A (oW g oa (f) :: wC g ad mc M sig z) s.heap.size) (oW g oa (vp_updL f 0 (wrdV z (atF (sst z) sig) k w q_).toInt64) :: wC g ad mc M sig z) := hD
  have hE := hE0.kept hS.2.1
  refine lv_goto (tgt := 19) hx hb dL_word_12 (by decide) ?_
  refine lv_iconst (v := nI 0) hx hb dL_word_19 (by decide) ?_
  exact q_wiret (()) hx hb hr hlocks hP hD hS dL_word_20 rfl
set_option maxHeartbeats 4000000 in
set_option maxRecDepth 100000 in
theorem w_L_about {l : Launch} {g : gT} {sz : Nat} {oa : Nat} {f : Nat → Int64} {ad : Nat → Nat} {mc : Int32} {M : Nat} {sig : Nat → Int32} {z : sT} (hM : wM M (sn z)) (hV : VS z) {k q_ : Nat} (hk_ : k < sn z) (hq_ : q_ < 7) : WR (S := Unit) l yL_about wsL_about ({ frames := 6, cells := 0, slots := 0, locals := 135 } : Room) [.ref (ad 0), .int (nI k), .int (nI q_), .ref oa] g (oW g oa (f) :: wC g ad mc M sig z) sz (fun _ : Unit => oW g oa (vp_updL f 0 (abtV z (atF (sst z) sig) k q_).toInt64) :: wC g ad mc M sig z) (fun _ => some (.int (nI 0))) 0 0 := by
  refine WR.ofX (cc := cL_about) (maxL := 5) (ret := (some .int)) (hh := [(0, 10, 13, 19)]) (by decide) rfl (Nat.le_of_ble_eq_true rfl) ?_
  intro p e s m below meth c hx hb hml hr hlocks hown hts htab hsz hE0 hP hD ls hl
  subst hsz
  have hown : s.vm.findClass RL = some m.cls := hown
  have hA : ∀ q, s.heap.size ≤ q → va_A (oW g oa (f) :: wC g ad mc M sig z) s.heap.size q := fun q h => Or.inr h
  have hE := hE0
  have hS : va_S (va_A (oW g oa (f) :: wC g ad mc M sig z) s.heap.size) s.heap s.heap [] := va_S.rf
  have hl : lv_has ls 5 [(0, .ref (ad 0)), (1, .int (nI k)), (2, .int (nI q_)), (3, .ref oa)] := hl
  refine lv_aload_n hx hb dL_about_0 rfl (lv_at hl 3 rfl) ?_
  refine lv_iconst (v := nI 0) hx hb dL_about_1 (by decide) ?_
  refine lv_aload_n hx hb dL_about_2 rfl (lv_at hl 0 rfl) ?_
  refine lv_iload_n hx hb dL_about_3 rfl (lv_at hl 1 rfl) ?_
  refine lv_iload_n hx hb dL_about_4 rfl (lv_at hl 2 rfl) ?_
  refine q_roV (As := [.int (nI k), .int (nI q_)]) (rest := [.int (nI 0), .ref oa]) ⟨hx, hb, hml, hown, hts⟩ (c_X3_about hM hV hk_ hq_) (cwV 2 hts gL_about_X3_about rfl rfl rfl (by decide +kernel) ⟨Nat.le_of_ble_eq_true rfl, Nat.le_of_ble_eq_true rfl⟩) hE (fun q h => hA q (Nat.le_trans hS.1 h)) (q_tl hP) (va_recv hE.K hP (ci := 4) (q0 := 1) rfl rfl) rfl hl.1 rfl (Nat.le_of_ble_eq_true rfl) dL_about_5 ⟨Nat.le_of_ble_eq_true rfl, Nat.le_of_ble_eq_true rfl⟩ ?_
  refine lv_i2l (v := (abtV z (atF (sst z) sig) k q_).toInt64) hx hb dL_about_8 rfl ?_
  refine q_last hx hb hE hP hD hS (q0 := 0) rfl dL_about_9 (fun H locs hP hD hS => ?_)
  have hP : va_P g.1 vwCl (oW g oa (vp_updL f 0 (abtV z (atF (sst z) sig) k q_).toInt64) :: wC g ad mc M sig z) H := hP
  have hD : va_D (va_A (oW g oa (f) :: wC g ad mc M sig z) s.heap.size) (oW g oa (vp_updL f 0 (abtV z (atF (sst z) sig) k q_).toInt64) :: wC g ad mc M sig z) := hD
  have hE := hE0.kept hS.2.1
  refine lv_goto (tgt := 17) hx hb dL_about_10 (by decide) ?_
  refine lv_iconst (v := nI 0) hx hb dL_about_17 (by decide) ?_
  exact q_wiret (()) hx hb hr hlocks hP hD hS dL_about_18 rfl
set_option maxHeartbeats 4000000 in
set_option maxRecDepth 100000 in
theorem w_L_count {l : Launch} {g : gT} {sz : Nat} {oa : Nat} {f : Nat → Int64} {ad : Nat → Nat} {mc : Int32} {M : Nat} {sig : Nat → Int32} {z : sT} (hM : wM M (sn z)) (hV : VS z) {q_ : Nat} (hq_ : q_ < 7) : WR (S := Unit) l yL_count wsL_count ({ frames := 7, cells := 0, slots := 0, locals := 154 } : Room) [.ref (ad 0), .int (nI q_), .ref oa] g (oW g oa (f) :: wC g ad mc M sig z) sz (fun _ : Unit => oW g oa (vp_updL f 0 (cntV z (atF (sst z) sig) q_).toInt64) :: wC g ad mc M sig z) (fun _ => some (.int (nI 0))) 0 0 := by
  refine WR.ofX (cc := cL_count) (maxL := 4) (ret := (some .int)) (hh := [(0, 9, 12, 19)]) (by decide) rfl (Nat.le_of_ble_eq_true rfl) ?_
  intro p e s m below meth c hx hb hml hr hlocks hown hts htab hsz hE0 hP hD ls hl
  subst hsz
  have hown : s.vm.findClass RL = some m.cls := hown
  have hA : ∀ q, s.heap.size ≤ q → va_A (oW g oa (f) :: wC g ad mc M sig z) s.heap.size q := fun q h => Or.inr h
  have hE := hE0
  have hS : va_S (va_A (oW g oa (f) :: wC g ad mc M sig z) s.heap.size) s.heap s.heap [] := va_S.rf
  have hl : lv_has ls 4 [(0, .ref (ad 0)), (1, .int (nI q_)), (2, .ref oa)] := hl
  refine lv_aload_n hx hb dL_count_0 rfl (lv_at hl 2 rfl) ?_
  refine lv_iconst (v := nI 0) hx hb dL_count_1 (by decide) ?_
  refine lv_aload_n hx hb dL_count_2 rfl (lv_at hl 0 rfl) ?_
  refine lv_iload_n hx hb dL_count_3 rfl (lv_at hl 1 rfl) ?_
  refine q_roV (As := [.int (nI q_)]) (rest := [.int (nI 0), .ref oa]) ⟨hx, hb, hml, hown, hts⟩ (c_X3_count hM hV hq_) (cwV 1 hts gL_count_X3_count rfl rfl rfl (by decide +kernel) ⟨Nat.le_of_ble_eq_true rfl, Nat.le_of_ble_eq_true rfl⟩) hE (fun q h => hA q (Nat.le_trans hS.1 h)) (q_tl hP) (va_recv hE.K hP (ci := 4) (q0 := 1) rfl rfl) rfl hl.1 rfl (Nat.le_of_ble_eq_true rfl) dL_count_4 ⟨Nat.le_of_ble_eq_true rfl, Nat.le_of_ble_eq_true rfl⟩ ?_
  refine lv_i2l (v := (cntV z (atF (sst z) sig) q_).toInt64) hx hb dL_count_7 rfl ?_
  refine q_last hx hb hE hP hD hS (q0 := 0) rfl dL_count_8 (fun H locs hP hD hS => ?_)
  have hP : va_P g.1 vwCl (oW g oa (vp_updL f 0 (cntV z (atF (sst z) sig) q_).toInt64) :: wC g ad mc M sig z) H := hP
  have hD : va_D (va_A (oW g oa (f) :: wC g ad mc M sig z) s.heap.size) (oW g oa (vp_updL f 0 (cntV z (atF (sst z) sig) q_).toInt64) :: wC g ad mc M sig z) := hD
  have hE := hE0.kept hS.2.1
  refine lv_goto (tgt := 15) hx hb dL_count_9 (by decide) ?_
  refine lv_iconst (v := nI 0) hx hb dL_count_15 (by decide) ?_
  exact q_wiret (()) hx hb hr hlocks hP hD hS dL_count_16 rfl
set_option maxHeartbeats 4000000 in
set_option maxRecDepth 100000 in
theorem w_L_alike {l : Launch} {g : gT} {sz : Nat} {oa : Nat} {f : Nat → Int64} {ad : Nat → Nat} {mc : Int32} {M : Nat} {sig : Nat → Int32} {z : sT} (hM : wM M (sn z)) (hV : VS z) {a b s_ : Nat} (ha_ : a < sL z) (hb_ : b < sL z) (hs_ : s_ < sL z) : WR (S := Unit) l yL_alike wsL_alike ({ frames := 4, cells := 0, slots := 0, locals := 91 } : Room) [.ref (ad 0), .int (nI a), .int (nI b), .int (nI s_), .ref oa] g (oW g oa (f) :: wC g ad mc M sig z) sz (fun _ : Unit => oW g oa (vp_updL f 0 (likF (sL z) a b s_).toInt64) :: wC g ad mc M sig z) (fun _ => some (.int (nI 0))) 0 0 := by
  refine WR.ofX (cc := cL_alike) (maxL := 6) (ret := (some .int)) (hh := [(0, 12, 15, 19), (0, 12, 19, 13)]) (by decide) rfl (Nat.le_of_ble_eq_true rfl) ?_
  intro p e s m below meth c hx hb hml hr hlocks hown hts htab hsz hE0 hP hD ls hl
  subst hsz
  have hown : s.vm.findClass RL = some m.cls := hown
  have hA : ∀ q, s.heap.size ≤ q → va_A (oW g oa (f) :: wC g ad mc M sig z) s.heap.size q := fun q h => Or.inr h
  have hE := hE0
  have hS : va_S (va_A (oW g oa (f) :: wC g ad mc M sig z) s.heap.size) s.heap s.heap [] := va_S.rf
  have hl : lv_has ls 6 [(0, .ref (ad 0)), (1, .int (nI a)), (2, .int (nI b)), (3, .int (nI s_)), (4, .ref oa)] := hl
  refine lv_aload hx hb dL_alike_0 (lv_at hl 4 rfl) ?_
  refine lv_iconst (v := nI 0) hx hb dL_alike_2 (by decide) ?_
  refine lv_aload_n hx hb dL_alike_3 rfl (lv_at hl 0 rfl) ?_
  refine lv_iload_n hx hb dL_alike_4 rfl (lv_at hl 1 rfl) ?_
  refine lv_iload_n hx hb dL_alike_5 rfl (lv_at hl 2 rfl) ?_
  refine lv_iload_n hx hb dL_alike_6 rfl (lv_at hl 3 rfl) ?_
  refine q_roV (As := [.int (nI a), .int (nI b), .int (nI s_)]) (rest := [.int (nI 0), .ref oa]) ⟨hx, hb, hml, hown, hts⟩ (c_X3_alike hM hV ha_ hb_ hs_) (cwV 3 hts gL_alike_X3_alike rfl rfl rfl (by decide +kernel) ⟨Nat.le_of_ble_eq_true rfl, Nat.le_of_ble_eq_true rfl⟩) hE (fun q h => hA q (Nat.le_trans hS.1 h)) (q_tl hP) (va_recv hE.K hP (ci := 4) (q0 := 1) rfl rfl) rfl hl.1 rfl (Nat.le_of_ble_eq_true rfl) dL_alike_7 ⟨Nat.le_of_ble_eq_true rfl, Nat.le_of_ble_eq_true rfl⟩ ?_
  refine lv_i2l (v := (likF (sL z) a b s_).toInt64) hx hb dL_alike_10 rfl ?_
  refine q_last hx hb hE hP hD hS (q0 := 0) rfl dL_alike_11 (fun H locs hP hD hS => ?_)
  have hP : va_P g.1 vwCl (oW g oa (vp_updL f 0 (likF (sL z) a b s_).toInt64) :: wC g ad mc M sig z) H := hP
  have hD : va_D (va_A (oW g oa (f) :: wC g ad mc M sig z) s.heap.size) (oW g oa (vp_updL f 0 (likF (sL z) a b s_).toInt64) :: wC g ad mc M sig z) := hD
  have hE := hE0.kept hS.2.1
  refine lv_goto (tgt := 23) hx hb dL_alike_12 (by decide) ?_
  refine lv_iconst (v := nI 0) hx hb dL_alike_23 (by decide) ?_
  exact q_wiret (()) hx hb hr hlocks hP hD hS dL_alike_24 rfl
set_option maxHeartbeats 4000000 in
set_option maxRecDepth 100000 in
theorem w_L_shift {l : Launch} {g : gT} {sz : Nat} {oa : Nat} {f : Nat → Int64} {ad : Nat → Nat} {mc : Int32} {M : Nat} {sig : Nat → Int32} {z : sT} (hM : wM M (sn z)) (hV : VS z) {a b : Nat} (ha_ : a < sL z) (hb_ : b < sL z) : WR (S := Unit) l yL_shift wsL_shift ({ frames := 4, cells := 0, slots := 0, locals := 94 } : Room) [.ref (ad 0), .int (nI a), .int (nI b), .ref oa] g (oW g oa (f) :: wC g ad mc M sig z) sz (fun _ : Unit => oW g oa (vp_updL f 0 (nI (shB (sL z) a b (sL z - 1))).toInt64) :: wC g ad mc M sig z) (fun _ => some (.int (nI 0))) 0 0 := by
  refine WR.ofX (cc := cL_shift) (maxL := 5) (ret := (some .int)) (hh := [(0, 10, 13, 19)]) (by decide) rfl (Nat.le_of_ble_eq_true rfl) ?_
  intro p e s m below meth c hx hb hml hr hlocks hown hts htab hsz hE0 hP hD ls hl
  subst hsz
  have hown : s.vm.findClass RL = some m.cls := hown
  have hA : ∀ q, s.heap.size ≤ q → va_A (oW g oa (f) :: wC g ad mc M sig z) s.heap.size q := fun q h => Or.inr h
  have hE := hE0
  have hS : va_S (va_A (oW g oa (f) :: wC g ad mc M sig z) s.heap.size) s.heap s.heap [] := va_S.rf
  have hl : lv_has ls 5 [(0, .ref (ad 0)), (1, .int (nI a)), (2, .int (nI b)), (3, .ref oa)] := hl
  refine lv_aload_n hx hb dL_shift_0 rfl (lv_at hl 3 rfl) ?_
  refine lv_iconst (v := nI 0) hx hb dL_shift_1 (by decide) ?_
  refine lv_aload_n hx hb dL_shift_2 rfl (lv_at hl 0 rfl) ?_
  refine lv_iload_n hx hb dL_shift_3 rfl (lv_at hl 1 rfl) ?_
  refine lv_iload_n hx hb dL_shift_4 rfl (lv_at hl 2 rfl) ?_
  refine q_roV (As := [.int (nI a), .int (nI b)]) (rest := [.int (nI 0), .ref oa]) ⟨hx, hb, hml, hown, hts⟩ (c_X3_shift hM hV ha_ hb_) (cwV 2 hts gL_shift_X3_shift rfl rfl rfl (by decide +kernel) ⟨Nat.le_of_ble_eq_true rfl, Nat.le_of_ble_eq_true rfl⟩) hE (fun q h => hA q (Nat.le_trans hS.1 h)) (q_tl hP) (va_recv hE.K hP (ci := 4) (q0 := 1) rfl rfl) rfl hl.1 rfl (Nat.le_of_ble_eq_true rfl) dL_shift_5 ⟨Nat.le_of_ble_eq_true rfl, Nat.le_of_ble_eq_true rfl⟩ ?_
  refine lv_i2l (v := (nI (shB (sL z) a b (sL z - 1))).toInt64) hx hb dL_shift_8 rfl ?_
  refine q_last hx hb hE hP hD hS (q0 := 0) rfl dL_shift_9 (fun H locs hP hD hS => ?_)
  have hP : va_P g.1 vwCl (oW g oa (vp_updL f 0 (nI (shB (sL z) a b (sL z - 1))).toInt64) :: wC g ad mc M sig z) H := hP
  have hD : va_D (va_A (oW g oa (f) :: wC g ad mc M sig z) s.heap.size) (oW g oa (vp_updL f 0 (nI (shB (sL z) a b (sL z - 1))).toInt64) :: wC g ad mc M sig z) := hD
  have hE := hE0.kept hS.2.1
  refine lv_goto (tgt := 17) hx hb dL_shift_10 (by decide) ?_
  refine lv_iconst (v := nI 0) hx hb dL_shift_17 (by decide) ?_
  exact q_wiret (()) hx hb hr hlocks hP hD hS dL_shift_18 rfl
set_option maxHeartbeats 4000000 in
set_option maxRecDepth 100000 in
theorem w_L_advise {l : Launch} {g : gT} {sz : Nat} {oa : Nat} {f : Nat → Int64} {ad : Nat → Nat} {mc : Int32} {M : Nat} {sig : Nat → Int32} {z : sT} (hM : wM M (sn z)) (hV : VS z) {b : Nat} (hb_ : b < sL z) : WR (S := Unit) l yL_advise wsL_advise ({ frames := 5, cells := 0, slots := 0, locals := 119 } : Room) [.ref (ad 0), .int (nI b), .ref oa] g (oW g oa (f) :: wC g ad mc M sig z) sz (fun _ : Unit => oW g oa (vp_updL f 0 ((advS z b (sL z)).1).toInt64) :: wC g ad mc M sig z) (fun _ => some (.int (nI 0))) 0 0 := by
  refine WR.ofX (cc := cL_advise) (maxL := 4) (ret := (some .int)) (hh := [(0, 9, 12, 13)]) (by decide) rfl (Nat.le_of_ble_eq_true rfl) ?_
  intro p e s m below meth c hx hb hml hr hlocks hown hts htab hsz hE0 hP hD ls hl
  subst hsz
  have hown : s.vm.findClass RL = some m.cls := hown
  have hA : ∀ q, s.heap.size ≤ q → va_A (oW g oa (f) :: wC g ad mc M sig z) s.heap.size q := fun q h => Or.inr h
  have hE := hE0
  have hS : va_S (va_A (oW g oa (f) :: wC g ad mc M sig z) s.heap.size) s.heap s.heap [] := va_S.rf
  have hl : lv_has ls 4 [(0, .ref (ad 0)), (1, .int (nI b)), (2, .ref oa)] := hl
  refine lv_aload_n hx hb dL_advise_0 rfl (lv_at hl 2 rfl) ?_
  refine lv_iconst (v := nI 0) hx hb dL_advise_1 (by decide) ?_
  refine lv_aload_n hx hb dL_advise_2 rfl (lv_at hl 0 rfl) ?_
  refine lv_iload_n hx hb dL_advise_3 rfl (lv_at hl 1 rfl) ?_
  refine q_roV (As := [.int (nI b)]) (rest := [.int (nI 0), .ref oa]) ⟨hx, hb, hml, hown, hts⟩ (c_X3_advise hM hV hb_) (cwV 1 hts gL_advise_X3_advise rfl rfl rfl (by decide +kernel) ⟨Nat.le_of_ble_eq_true rfl, Nat.le_of_ble_eq_true rfl⟩) hE (fun q h => hA q (Nat.le_trans hS.1 h)) (q_tl hP) (va_recv hE.K hP (ci := 4) (q0 := 1) rfl rfl) rfl hl.1 rfl (Nat.le_of_ble_eq_true rfl) dL_advise_4 ⟨Nat.le_of_ble_eq_true rfl, Nat.le_of_ble_eq_true rfl⟩ ?_
  refine lv_i2l (v := ((advS z b (sL z)).1).toInt64) hx hb dL_advise_7 rfl ?_
  refine q_last hx hb hE hP hD hS (q0 := 0) rfl dL_advise_8 (fun H locs hP hD hS => ?_)
  have hP : va_P g.1 vwCl (oW g oa (vp_updL f 0 ((advS z b (sL z)).1).toInt64) :: wC g ad mc M sig z) H := hP
  have hD : va_D (va_A (oW g oa (f) :: wC g ad mc M sig z) s.heap.size) (oW g oa (vp_updL f 0 ((advS z b (sL z)).1).toInt64) :: wC g ad mc M sig z) := hD
  have hE := hE0.kept hS.2.1
  refine lv_goto (tgt := 15) hx hb dL_advise_9 (by decide) ?_
  refine lv_iconst (v := nI 0) hx hb dL_advise_15 (by decide) ?_
  exact q_wiret (()) hx hb hr hlocks hP hD hS dL_advise_16 rfl
set_option maxHeartbeats 4000000 in
set_option maxRecDepth 100000 in
theorem w_L_setStorm {l : Launch} {g : gT} {sz : Nat} {oa : Nat} {f : Nat → Int64} {ad : Nat → Nat} {mc : Int32} {M : Nat} {sig : Nat → Int32} {z : sT} (hM : wM M (sn z)) (hV : VS z) {p_ : Nat} {v : Int32} (hp_ : p_ < 20) (hv_ : inB v (-99) 99) : WR (S := Unit) l yL_setStorm wsL_setStorm ({ frames := 1, cells := 0, slots := 0, locals := 23 } : Room) [.ref (ad 0), .int (nI p_), .int v, .ref oa] g (oW g oa (f) :: wC g ad mc M sig z) sz (fun u : Unit => oW g oa (vp_updL f 0 (sst z p_).toInt64) :: wC g ad mc M sig (zst z p_ v)) (fun _ => some (.int (nI 0))) 0 0 := by
  refine WR.ofX (cc := cL_setStorm) (maxL := 5) (ret := (some .int)) (hh := [(0, 10, 13, 19), (0, 10, 17, 13)]) (by decide) rfl (Nat.le_of_ble_eq_true rfl) ?_
  intro p e s m below meth c hx hb hml hr hlocks hown hts htab hsz hE0 hP hD ls hl
  subst hsz
  have hown : s.vm.findClass RL = some m.cls := hown
  have hA : ∀ q, s.heap.size ≤ q → va_A (oW g oa (f) :: wC g ad mc M sig z) s.heap.size q := fun q h => Or.inr h
  have hE := hE0
  have hS : va_S (va_A (oW g oa (f) :: wC g ad mc M sig z) s.heap.size) s.heap s.heap [] := va_S.rf
  have hl : lv_has ls 5 [(0, .ref (ad 0)), (1, .int (nI p_)), (2, .int v), (3, .ref oa)] := hl
  refine lv_aload_n hx hb dL_setStorm_0 rfl (lv_at hl 3 rfl) ?_
  refine lv_iconst (v := nI 0) hx hb dL_setStorm_1 (by decide) ?_
  refine lv_aload_n hx hb dL_setStorm_2 rfl (lv_at hl 0 rfl) ?_
  refine lv_iload_n hx hb dL_setStorm_3 rfl (lv_at hl 1 rfl) ?_
  refine lv_iload_n hx hb dL_setStorm_4 rfl (lv_at hl 2 rfl) ?_
  refine q_wrV (wr := [oW g oa (f)]) (As := [.int (nI p_), .int v]) (rest := [.int (nI 0), .ref oa]) ⟨hx, hb, hml, hown, hts⟩ (c_X3_setStorm hM hV hp_ hv_) (cwV 2 hts gL_setStorm_X3_setStorm rfl rfl rfl (by decide +kernel) ⟨Nat.le_of_ble_eq_true rfl, Nat.le_of_ble_eq_true rfl⟩) hE hP hD hS hA (va_recv hE.K hP (ci := 4) (q0 := 1) rfl rfl) rfl hl.1 rfl (Nat.le_of_ble_eq_true rfl) dL_setStorm_5 ⟨Nat.le_of_ble_eq_true rfl, Nat.le_of_ble_eq_true rfl⟩ (fun _u H locs hP hD hS hE => ?_)
  have hP : va_P g.1 vwCl (oW g oa (f) :: wC g ad mc M sig (zst z p_ v)) H := hP
  have hD : va_D (va_A (oW g oa (f) :: wC g ad mc M sig z) s.heap.size) (oW g oa (f) :: wC g ad mc M sig (zst z p_ v)) := hD
  refine lv_i2l (v := (sst z p_).toInt64) hx hb dL_setStorm_8 rfl ?_
  refine q_last hx hb hE hP hD hS (q0 := 0) rfl dL_setStorm_9 (fun H locs hP hD hS => ?_)
  have hP : va_P g.1 vwCl (oW g oa (vp_updL f 0 (sst z p_).toInt64) :: wC g ad mc M sig (zst z p_ v)) H := hP
  have hD : va_D (va_A (oW g oa (f) :: wC g ad mc M sig z) s.heap.size) (oW g oa (vp_updL f 0 (sst z p_).toInt64) :: wC g ad mc M sig (zst z p_ v)) := hD
  have hE := hE0.kept hS.2.1
  refine lv_goto (tgt := 21) hx hb dL_setStorm_10 (by decide) ?_
  refine lv_iconst (v := nI 0) hx hb dL_setStorm_21 (by decide) ?_
  exact q_wiret (()) hx hb hr hlocks hP hD hS dL_setStorm_22 rfl
set_option maxHeartbeats 4000000 in
set_option maxRecDepth 100000 in
theorem w_L_setStrength {l : Launch} {g : gT} {sz : Nat} {oa : Nat} {f : Nat → Int64} {ad : Nat → Nat} {mc : Int32} {M : Nat} {sig : Nat → Int32} {z : sT} (hM : wM M (sn z)) (hV : VS z) {k s_ : Nat} (hk_ : k < sn z) (h1_ : 1 ≤ s_) (h9_ : s_ ≤ 9) : WR (S := Unit) l yL_setStrength wsL_setStrength ({ frames := 5, cells := 0, slots := 0, locals := 116 } : Room) [.ref (ad 0), .int (nI k), .int (nI s_), .ref oa] g (oW g oa (f) :: wC g ad mc M sig z) sz (fun u : Unit => oW g oa (vp_updL f 0 (nI (ssr z k)).toInt64) :: wC g ad mc M (adWs sig (nI s_ - nI (ssr z k)) z k (ssd z k)) (zsr z k s_)) (fun _ => some (.int (nI 0))) 0 0 := by
  refine WR.ofX (cc := cL_setStrength) (maxL := 5) (ret := (some .int)) (hh := [(0, 10, 13, 19), (0, 10, 17, 13)]) (by decide) rfl (Nat.le_of_ble_eq_true rfl) ?_
  intro p e s m below meth c hx hb hml hr hlocks hown hts htab hsz hE0 hP hD ls hl
  subst hsz
  have hown : s.vm.findClass RL = some m.cls := hown
  have hA : ∀ q, s.heap.size ≤ q → va_A (oW g oa (f) :: wC g ad mc M sig z) s.heap.size q := fun q h => Or.inr h
  have hE := hE0
  have hS : va_S (va_A (oW g oa (f) :: wC g ad mc M sig z) s.heap.size) s.heap s.heap [] := va_S.rf
  have hl : lv_has ls 5 [(0, .ref (ad 0)), (1, .int (nI k)), (2, .int (nI s_)), (3, .ref oa)] := hl
  refine lv_aload_n hx hb dL_setStrength_0 rfl (lv_at hl 3 rfl) ?_
  refine lv_iconst (v := nI 0) hx hb dL_setStrength_1 (by decide) ?_
  refine lv_aload_n hx hb dL_setStrength_2 rfl (lv_at hl 0 rfl) ?_
  refine lv_iload_n hx hb dL_setStrength_3 rfl (lv_at hl 1 rfl) ?_
  refine lv_iload_n hx hb dL_setStrength_4 rfl (lv_at hl 2 rfl) ?_
  refine q_wrV (wr := [oW g oa (f)]) (As := [.int (nI k), .int (nI s_)]) (rest := [.int (nI 0), .ref oa]) ⟨hx, hb, hml, hown, hts⟩ (c_X3_setStrength hM hV hk_ h1_ h9_) (cwV 2 hts gL_setStrength_X3_setStrength rfl rfl rfl (by decide +kernel) ⟨Nat.le_of_ble_eq_true rfl, Nat.le_of_ble_eq_true rfl⟩) hE hP hD hS hA (va_recv hE.K hP (ci := 4) (q0 := 1) rfl rfl) rfl hl.1 rfl (Nat.le_of_ble_eq_true rfl) dL_setStrength_5 ⟨Nat.le_of_ble_eq_true rfl, Nat.le_of_ble_eq_true rfl⟩ (fun _u H locs hP hD hS hE => ?_)
  have hP : va_P g.1 vwCl (oW g oa (f) :: wC g ad mc M (adWs sig (nI s_ - nI (ssr z k)) z k (ssd z k)) (zsr z k s_)) H := hP
  have hD : va_D (va_A (oW g oa (f) :: wC g ad mc M sig z) s.heap.size) (oW g oa (f) :: wC g ad mc M (adWs sig (nI s_ - nI (ssr z k)) z k (ssd z k)) (zsr z k s_)) := hD
  refine lv_i2l (v := (nI (ssr z k)).toInt64) hx hb dL_setStrength_8 rfl ?_
  refine q_last hx hb hE hP hD hS (q0 := 0) rfl dL_setStrength_9 (fun H locs hP hD hS => ?_)
  have hP : va_P g.1 vwCl (oW g oa (vp_updL f 0 (nI (ssr z k)).toInt64) :: wC g ad mc M (adWs sig (nI s_ - nI (ssr z k)) z k (ssd z k)) (zsr z k s_)) H := hP
  have hD : va_D (va_A (oW g oa (f) :: wC g ad mc M sig z) s.heap.size) (oW g oa (vp_updL f 0 (nI (ssr z k)).toInt64) :: wC g ad mc M (adWs sig (nI s_ - nI (ssr z k)) z k (ssd z k)) (zsr z k s_)) := hD
  have hE := hE0.kept hS.2.1
  refine lv_goto (tgt := 21) hx hb dL_setStrength_10 (by decide) ?_
  refine lv_iconst (v := nI 0) hx hb dL_setStrength_21 (by decide) ?_
  exact q_wiret (()) hx hb hr hlocks hP hD hS dL_setStrength_22 rfl
set_option maxHeartbeats 4000000 in
set_option maxRecDepth 100000 in
theorem w_L_setDelay {l : Launch} {g : gT} {sz : Nat} {oa : Nat} {f : Nat → Int64} {ad : Nat → Nat} {mc : Int32} {M : Nat} {sig : Nat → Int32} {z : sT} (hM : wM M (sn z)) (hV : VS z) {k d_ : Nat} (hk_ : k < sn z) (hd_ : d_ < sL z) : WR (S := Unit) l yL_setDelay wsL_setDelay ({ frames := 5, cells := 0, slots := 0, locals := 116 } : Room) [.ref (ad 0), .int (nI k), .int (nI d_), .ref oa] g (oW g oa (f) :: wC g ad mc M sig z) sz (fun u : Unit => oW g oa (vp_updL f 0 (nI (sdl z k)).toInt64) :: wC g ad mc M (adWs (adWs sig (-nI (ssr z k)) z k (ssd z k)) (nI (ssr z k)) (zdl z k d_) k (ssd z k)) (zdl z k d_)) (fun _ => some (.int (nI 0))) 0 0 := by
  refine WR.ofX (cc := cL_setDelay) (maxL := 5) (ret := (some .int)) (hh := [(0, 10, 13, 19), (0, 10, 17, 13)]) (by decide) rfl (Nat.le_of_ble_eq_true rfl) ?_
  intro p e s m below meth c hx hb hml hr hlocks hown hts htab hsz hE0 hP hD ls hl
  subst hsz
  have hown : s.vm.findClass RL = some m.cls := hown
  have hA : ∀ q, s.heap.size ≤ q → va_A (oW g oa (f) :: wC g ad mc M sig z) s.heap.size q := fun q h => Or.inr h
  have hE := hE0
  have hS : va_S (va_A (oW g oa (f) :: wC g ad mc M sig z) s.heap.size) s.heap s.heap [] := va_S.rf
  have hl : lv_has ls 5 [(0, .ref (ad 0)), (1, .int (nI k)), (2, .int (nI d_)), (3, .ref oa)] := hl
  refine lv_aload_n hx hb dL_setDelay_0 rfl (lv_at hl 3 rfl) ?_
  refine lv_iconst (v := nI 0) hx hb dL_setDelay_1 (by decide) ?_
  refine lv_aload_n hx hb dL_setDelay_2 rfl (lv_at hl 0 rfl) ?_
  refine lv_iload_n hx hb dL_setDelay_3 rfl (lv_at hl 1 rfl) ?_
  refine lv_iload_n hx hb dL_setDelay_4 rfl (lv_at hl 2 rfl) ?_
  refine q_wrV (wr := [oW g oa (f)]) (As := [.int (nI k), .int (nI d_)]) (rest := [.int (nI 0), .ref oa]) ⟨hx, hb, hml, hown, hts⟩ (c_X3_setDelay hM hV hk_ hd_) (cwV 2 hts gL_setDelay_X3_setDelay rfl rfl rfl (by decide +kernel) ⟨Nat.le_of_ble_eq_true rfl, Nat.le_of_ble_eq_true rfl⟩) hE hP hD hS hA (va_recv hE.K hP (ci := 4) (q0 := 1) rfl rfl) rfl hl.1 rfl (Nat.le_of_ble_eq_true rfl) dL_setDelay_5 ⟨Nat.le_of_ble_eq_true rfl, Nat.le_of_ble_eq_true rfl⟩ (fun _u H locs hP hD hS hE => ?_)
  have hP : va_P g.1 vwCl (oW g oa (f) :: wC g ad mc M (adWs (adWs sig (-nI (ssr z k)) z k (ssd z k)) (nI (ssr z k)) (zdl z k d_) k (ssd z k)) (zdl z k d_)) H := hP
  have hD : va_D (va_A (oW g oa (f) :: wC g ad mc M sig z) s.heap.size) (oW g oa (f) :: wC g ad mc M (adWs (adWs sig (-nI (ssr z k)) z k (ssd z k)) (nI (ssr z k)) (zdl z k d_) k (ssd z k)) (zdl z k d_)) := hD
  refine lv_i2l (v := (nI (sdl z k)).toInt64) hx hb dL_setDelay_8 rfl ?_
  refine q_last hx hb hE hP hD hS (q0 := 0) rfl dL_setDelay_9 (fun H locs hP hD hS => ?_)
  have hP : va_P g.1 vwCl (oW g oa (vp_updL f 0 (nI (sdl z k)).toInt64) :: wC g ad mc M (adWs (adWs sig (-nI (ssr z k)) z k (ssd z k)) (nI (ssr z k)) (zdl z k d_) k (ssd z k)) (zdl z k d_)) H := hP
  have hD : va_D (va_A (oW g oa (f) :: wC g ad mc M sig z) s.heap.size) (oW g oa (vp_updL f 0 (nI (sdl z k)).toInt64) :: wC g ad mc M (adWs (adWs sig (-nI (ssr z k)) z k (ssd z k)) (nI (ssr z k)) (zdl z k d_) k (ssd z k)) (zdl z k d_)) := hD
  have hE := hE0.kept hS.2.1
  refine lv_goto (tgt := 21) hx hb dL_setDelay_10 (by decide) ?_
  refine lv_iconst (v := nI 0) hx hb dL_setDelay_21 (by decide) ?_
  exact q_wiret (()) hx hb hr hlocks hP hD hS dL_setDelay_22 rfl
set_option maxHeartbeats 4000000 in
set_option maxRecDepth 100000 in
theorem w_L_hush {l : Launch} {g : gT} {sz : Nat} {oa : Nat} {f : Nat → Int64} {ad : Nat → Nat} {mc : Int32} {M : Nat} {sig : Nat → Int32} {z : sT} (hM : wM M (sn z)) (hV : VS z) {k : Nat} (hk_ : k < sn z) : WR (S := Unit) l yL_hush wsL_hush ({ frames := 5, cells := 0, slots := 0, locals := 115 } : Room) [.ref (ad 0), .int (nI k), .ref oa] g (oW g oa (f) :: wC g ad mc M sig z) sz (fun u : Unit => oW g oa (vp_updL f 0 (nI (ssd z k)).toInt64) :: wC g ad mc M (adWs sig (-nI (ssr z k)) z k (ssd z k)) (zsd z k 0)) (fun _ => some (.int (nI 0))) 0 0 := by
  refine WR.ofX (cc := cL_hush) (maxL := 4) (ret := (some .int)) (hh := [(0, 9, 12, 19)]) (by decide) rfl (Nat.le_of_ble_eq_true rfl) ?_
  intro p e s m below meth c hx hb hml hr hlocks hown hts htab hsz hE0 hP hD ls hl
  subst hsz
  have hown : s.vm.findClass RL = some m.cls := hown
  have hA : ∀ q, s.heap.size ≤ q → va_A (oW g oa (f) :: wC g ad mc M sig z) s.heap.size q := fun q h => Or.inr h
  have hE := hE0
  have hS : va_S (va_A (oW g oa (f) :: wC g ad mc M sig z) s.heap.size) s.heap s.heap [] := va_S.rf
  have hl : lv_has ls 4 [(0, .ref (ad 0)), (1, .int (nI k)), (2, .ref oa)] := hl
  refine lv_aload_n hx hb dL_hush_0 rfl (lv_at hl 2 rfl) ?_
  refine lv_iconst (v := nI 0) hx hb dL_hush_1 (by decide) ?_
  refine lv_aload_n hx hb dL_hush_2 rfl (lv_at hl 0 rfl) ?_
  refine lv_iload_n hx hb dL_hush_3 rfl (lv_at hl 1 rfl) ?_
  refine q_wrV (wr := [oW g oa (f)]) (As := [.int (nI k)]) (rest := [.int (nI 0), .ref oa]) ⟨hx, hb, hml, hown, hts⟩ (c_X3_hush hM hV hk_) (cwV 1 hts gL_hush_X3_hush rfl rfl rfl (by decide +kernel) ⟨Nat.le_of_ble_eq_true rfl, Nat.le_of_ble_eq_true rfl⟩) hE hP hD hS hA (va_recv hE.K hP (ci := 4) (q0 := 1) rfl rfl) rfl hl.1 rfl (Nat.le_of_ble_eq_true rfl) dL_hush_4 ⟨Nat.le_of_ble_eq_true rfl, Nat.le_of_ble_eq_true rfl⟩ (fun _u H locs hP hD hS hE => ?_)
  have hP : va_P g.1 vwCl (oW g oa (f) :: wC g ad mc M (adWs sig (-nI (ssr z k)) z k (ssd z k)) (zsd z k 0)) H := hP
  have hD : va_D (va_A (oW g oa (f) :: wC g ad mc M sig z) s.heap.size) (oW g oa (f) :: wC g ad mc M (adWs sig (-nI (ssr z k)) z k (ssd z k)) (zsd z k 0)) := hD
  refine lv_i2l (v := (nI (ssd z k)).toInt64) hx hb dL_hush_7 rfl ?_
  refine q_last hx hb hE hP hD hS (q0 := 0) rfl dL_hush_8 (fun H locs hP hD hS => ?_)
  have hP : va_P g.1 vwCl (oW g oa (vp_updL f 0 (nI (ssd z k)).toInt64) :: wC g ad mc M (adWs sig (-nI (ssr z k)) z k (ssd z k)) (zsd z k 0)) H := hP
  have hD : va_D (va_A (oW g oa (f) :: wC g ad mc M sig z) s.heap.size) (oW g oa (vp_updL f 0 (nI (ssd z k)).toInt64) :: wC g ad mc M (adWs sig (-nI (ssr z k)) z k (ssd z k)) (zsd z k 0)) := hD
  have hE := hE0.kept hS.2.1
  refine lv_goto (tgt := 15) hx hb dL_hush_9 (by decide) ?_
  refine lv_iconst (v := nI 0) hx hb dL_hush_15 (by decide) ?_
  exact q_wiret (()) hx hb hr hlocks hP hD hS dL_hush_16 rfl
set_option maxHeartbeats 4000000 in
set_option maxRecDepth 100000 in
theorem w_L_say {l : Launch} {g : gT} {sz : Nat} {oa : Nat} {f : Nat → Int64} {ad : Nat → Nat} {mc : Int32} {M : Nat} {sig : Nat → Int32} {z : sT} (hM : wM M (sn z)) (hV : VS z) {k y : Nat} (hk_ : k < sn z) (hsd_ : ssd z k < 12) (hy_ : y < 2147483648) : WR (S := Unit) l yL_say wsL_say ({ frames := 5, cells := 0, slots := 0, locals := 108 } : Room) [.ref (ad 0), .int (nI k), .int (nI y), .ref oa] g (oW g oa (f) :: wC g ad mc M sig z) sz (fun u : Unit => oW g oa (vp_updL f 0 (nI (ssd z k + 1)).toInt64) :: wC g ad mc M (adW sig (nI (ssr z k)) (zsay z k (sayX y)) k (ssd z k) (sL z)) (zsay z k (sayX y))) (fun _ => some (.int (nI 0))) 0 0 := by
  refine WR.ofX (cc := cL_say) (maxL := 5) (ret := (some .int)) (hh := [(0, 10, 13, 19), (0, 10, 17, 21)]) (by decide) rfl (Nat.le_of_ble_eq_true rfl) ?_
  intro p e s m below meth c hx hb hml hr hlocks hown hts htab hsz hE0 hP hD ls hl
  subst hsz
  have hown : s.vm.findClass RL = some m.cls := hown
  have hA : ∀ q, s.heap.size ≤ q → va_A (oW g oa (f) :: wC g ad mc M sig z) s.heap.size q := fun q h => Or.inr h
  have hE := hE0
  have hS : va_S (va_A (oW g oa (f) :: wC g ad mc M sig z) s.heap.size) s.heap s.heap [] := va_S.rf
  have hl : lv_has ls 5 [(0, .ref (ad 0)), (1, .int (nI k)), (2, .int (nI y)), (3, .ref oa)] := hl
  refine lv_aload_n hx hb dL_say_0 rfl (lv_at hl 3 rfl) ?_
  refine lv_iconst (v := nI 0) hx hb dL_say_1 (by decide) ?_
  refine lv_aload_n hx hb dL_say_2 rfl (lv_at hl 0 rfl) ?_
  refine lv_iload_n hx hb dL_say_3 rfl (lv_at hl 1 rfl) ?_
  refine lv_iload_n hx hb dL_say_4 rfl (lv_at hl 2 rfl) ?_
  refine q_wrV (wr := [oW g oa (f)]) (As := [.int (nI k), .int (nI y)]) (rest := [.int (nI 0), .ref oa]) ⟨hx, hb, hml, hown, hts⟩ (c_X3_say hM hV hk_ hsd_ hy_) (cwV 2 hts gL_say_X3_say rfl rfl rfl (by decide +kernel) ⟨Nat.le_of_ble_eq_true rfl, Nat.le_of_ble_eq_true rfl⟩) hE hP hD hS hA (va_recv hE.K hP (ci := 4) (q0 := 1) rfl rfl) rfl hl.1 rfl (Nat.le_of_ble_eq_true rfl) dL_say_5 ⟨Nat.le_of_ble_eq_true rfl, Nat.le_of_ble_eq_true rfl⟩ (fun _u H locs hP hD hS hE => ?_)
  have hP : va_P g.1 vwCl (oW g oa (f) :: wC g ad mc M (adW sig (nI (ssr z k)) (zsay z k (sayX y)) k (ssd z k) (sL z)) (zsay z k (sayX y))) H := hP
  have hD : va_D (va_A (oW g oa (f) :: wC g ad mc M sig z) s.heap.size) (oW g oa (f) :: wC g ad mc M (adW sig (nI (ssr z k)) (zsay z k (sayX y)) k (ssd z k) (sL z)) (zsay z k (sayX y))) := hD
  refine lv_i2l (v := (nI (ssd z k + 1)).toInt64) hx hb dL_say_8 rfl ?_
  refine q_last hx hb hE hP hD hS (q0 := 0) rfl dL_say_9 (fun H locs hP hD hS => ?_)
  have hP : va_P g.1 vwCl (oW g oa (vp_updL f 0 (nI (ssd z k + 1)).toInt64) :: wC g ad mc M (adW sig (nI (ssr z k)) (zsay z k (sayX y)) k (ssd z k) (sL z)) (zsay z k (sayX y))) H := hP
  have hD : va_D (va_A (oW g oa (f) :: wC g ad mc M sig z) s.heap.size) (oW g oa (vp_updL f 0 (nI (ssd z k + 1)).toInt64) :: wC g ad mc M (adW sig (nI (ssr z k)) (zsay z k (sayX y)) k (ssd z k) (sL z)) (zsay z k (sayX y))) := hD
  have hE := hE0.kept hS.2.1
  refine lv_goto (tgt := 21) hx hb dL_say_10 (by decide) ?_
  refine lv_iconst (v := nI 0) hx hb dL_say_21 (by decide) ?_
  exact q_wiret (()) hx hb hr hlocks hP hD hS dL_say_22 rfl
set_option maxHeartbeats 4000000 in
set_option maxRecDepth 100000 in
theorem w_L_would {l : Launch} {g : gT} {sz : Nat} {oa : Nat} {f : Nat → Int64} {ad : Nat → Nat} {mc : Int32} {M : Nat} {sig : Nat → Int32} {z : sT} (hM : wM M (sn z)) (hV : VS z) {k s_ : Nat} (hk_ : k < sn z) (h1_ : 1 ≤ s_) (h9_ : s_ ≤ 9) : WR (S := Unit) l yL_would wsL_would ({ frames := 8, cells := 0, slots := 0, locals := 180 } : Room) [.ref (ad 0), .int (nI k), .int (nI s_), .ref oa] g (oW g oa (f) :: wC g ad mc M sig z) sz (fun u : Unit => oW g oa (vp_updL f 0 (nI (wwF z sig k s_)).toInt64) :: wC g ad mc M sig z) (fun _ => some (.int (nI 0))) 0 0 := by
  refine WR.ofX (cc := cL_would) (maxL := 5) (ret := (some .int)) (hh := [(0, 10, 13, 19), (0, 10, 17, 13)]) (by decide) rfl (Nat.le_of_ble_eq_true rfl) ?_
  intro p e s m below meth c hx hb hml hr hlocks hown hts htab hsz hE0 hP hD ls hl
  subst hsz
  have hown : s.vm.findClass RL = some m.cls := hown
  have hA : ∀ q, s.heap.size ≤ q → va_A (oW g oa (f) :: wC g ad mc M sig z) s.heap.size q := fun q h => Or.inr h
  have hE := hE0
  have hS : va_S (va_A (oW g oa (f) :: wC g ad mc M sig z) s.heap.size) s.heap s.heap [] := va_S.rf
  have hl : lv_has ls 5 [(0, .ref (ad 0)), (1, .int (nI k)), (2, .int (nI s_)), (3, .ref oa)] := hl
  refine lv_aload_n hx hb dL_would_0 rfl (lv_at hl 3 rfl) ?_
  refine lv_iconst (v := nI 0) hx hb dL_would_1 (by decide) ?_
  refine lv_aload_n hx hb dL_would_2 rfl (lv_at hl 0 rfl) ?_
  refine lv_iload_n hx hb dL_would_3 rfl (lv_at hl 1 rfl) ?_
  refine lv_iload_n hx hb dL_would_4 rfl (lv_at hl 2 rfl) ?_
  refine q_wrV (wr := [oW g oa (f)]) (As := [.int (nI k), .int (nI s_)]) (rest := [.int (nI 0), .ref oa]) ⟨hx, hb, hml, hown, hts⟩ (c_X3_would hM hV hk_ h1_ h9_) (cwV 2 hts gL_would_X3_would rfl rfl rfl (by decide +kernel) ⟨Nat.le_of_ble_eq_true rfl, Nat.le_of_ble_eq_true rfl⟩) hE hP hD hS hA (va_recv hE.K hP (ci := 4) (q0 := 1) rfl rfl) rfl hl.1 rfl (Nat.le_of_ble_eq_true rfl) dL_would_5 ⟨Nat.le_of_ble_eq_true rfl, Nat.le_of_ble_eq_true rfl⟩ (fun _u H locs hP hD hS hE => ?_)
  have hP : va_P g.1 vwCl (oW g oa (f) :: wC g ad mc M sig z) H := hP
  have hD : va_D (va_A (oW g oa (f) :: wC g ad mc M sig z) s.heap.size) (oW g oa (f) :: wC g ad mc M sig z) := hD
  refine lv_i2l (v := (nI (wwF z sig k s_)).toInt64) hx hb dL_would_8 rfl ?_
  refine q_last hx hb hE hP hD hS (q0 := 0) rfl dL_would_9 (fun H locs hP hD hS => ?_)
  have hP : va_P g.1 vwCl (oW g oa (vp_updL f 0 (nI (wwF z sig k s_)).toInt64) :: wC g ad mc M sig z) H := hP
  have hD : va_D (va_A (oW g oa (f) :: wC g ad mc M sig z) s.heap.size) (oW g oa (vp_updL f 0 (nI (wwF z sig k s_)).toInt64) :: wC g ad mc M sig z) := hD
  have hE := hE0.kept hS.2.1
  refine lv_goto (tgt := 21) hx hb dL_would_10 (by decide) ?_
  refine lv_iconst (v := nI 0) hx hb dL_would_21 (by decide) ?_
  exact q_wiret (()) hx hb hr hlocks hP hD hS dL_would_22 rfl
set_option maxHeartbeats 4000000 in
set_option maxRecDepth 100000 in
theorem w_L_tune {l : Launch} {g : gT} {sz : Nat} {oa : Nat} {f : Nat → Int64} {ad : Nat → Nat} {mc : Int32} {M : Nat} {sig : Nat → Int32} {z : sT} (hM : wM M (sn z)) (hV : VS z) {k : Nat} (hk_ : k < sn z) : WR (S := Unit) l yL_tune wsL_tune ({ frames := 8, cells := 0, slots := 0, locals := 183 } : Room) [.ref (ad 0), .int (nI k), .ref oa] g (oW g oa (f) :: wC g ad mc M sig z) sz (fun u : Unit => oW g oa (vp_updL f 0 (nI (tuS (wwF z sig k) 8)).toInt64) :: wC g ad mc M sig z) (fun _ => some (.int (nI 0))) 0 0 := by
  refine WR.ofX (cc := cL_tune) (maxL := 4) (ret := (some .int)) (hh := [(0, 9, 12, 19)]) (by decide) rfl (Nat.le_of_ble_eq_true rfl) ?_
  intro p e s m below meth c hx hb hml hr hlocks hown hts htab hsz hE0 hP hD ls hl
  subst hsz
  have hown : s.vm.findClass RL = some m.cls := hown
  have hA : ∀ q, s.heap.size ≤ q → va_A (oW g oa (f) :: wC g ad mc M sig z) s.heap.size q := fun q h => Or.inr h
  have hE := hE0
  have hS : va_S (va_A (oW g oa (f) :: wC g ad mc M sig z) s.heap.size) s.heap s.heap [] := va_S.rf
  have hl : lv_has ls 4 [(0, .ref (ad 0)), (1, .int (nI k)), (2, .ref oa)] := hl
  refine lv_aload_n hx hb dL_tune_0 rfl (lv_at hl 2 rfl) ?_
  refine lv_iconst (v := nI 0) hx hb dL_tune_1 (by decide) ?_
  refine lv_aload_n hx hb dL_tune_2 rfl (lv_at hl 0 rfl) ?_
  refine lv_iload_n hx hb dL_tune_3 rfl (lv_at hl 1 rfl) ?_
  refine q_wrV (wr := [oW g oa (f)]) (As := [.int (nI k)]) (rest := [.int (nI 0), .ref oa]) ⟨hx, hb, hml, hown, hts⟩ (c_X3_tune hM hV hk_) (cwV 1 hts gL_tune_X3_tune rfl rfl rfl (by decide +kernel) ⟨Nat.le_of_ble_eq_true rfl, Nat.le_of_ble_eq_true rfl⟩) hE hP hD hS hA (va_recv hE.K hP (ci := 4) (q0 := 1) rfl rfl) rfl hl.1 rfl (Nat.le_of_ble_eq_true rfl) dL_tune_4 ⟨Nat.le_of_ble_eq_true rfl, Nat.le_of_ble_eq_true rfl⟩ (fun _u H locs hP hD hS hE => ?_)
  have hP : va_P g.1 vwCl (oW g oa (f) :: wC g ad mc M sig z) H := hP
  have hD : va_D (va_A (oW g oa (f) :: wC g ad mc M sig z) s.heap.size) (oW g oa (f) :: wC g ad mc M sig z) := hD
  refine lv_i2l (v := (nI (tuS (wwF z sig k) 8)).toInt64) hx hb dL_tune_7 rfl ?_
  refine q_last hx hb hE hP hD hS (q0 := 0) rfl dL_tune_8 (fun H locs hP hD hS => ?_)
  have hP : va_P g.1 vwCl (oW g oa (vp_updL f 0 (nI (tuS (wwF z sig k) 8)).toInt64) :: wC g ad mc M sig z) H := hP
  have hD : va_D (va_A (oW g oa (f) :: wC g ad mc M sig z) s.heap.size) (oW g oa (vp_updL f 0 (nI (tuS (wwF z sig k) 8)).toInt64) :: wC g ad mc M sig z) := hD
  have hE := hE0.kept hS.2.1
  refine lv_goto (tgt := 15) hx hb dL_tune_9 (by decide) ?_
  refine lv_iconst (v := nI 0) hx hb dL_tune_15 (by decide) ?_
  exact q_wiret (()) hx hb hr hlocks hP hD hS dL_tune_16 rfl
set_option maxHeartbeats 4000000 in
set_option maxRecDepth 100000 in
theorem w_L_setCodes {l : Launch} {g : gT} {sz : Nat} {oa : Nat} {f : Nat → Int64} {ad : Nat → Nat} {mc : Int32} {M : Nat} {sig : Nat → Int32} {z : sT} (hM : wM M (sn z)) (hV : VS z) {q_ : Nat} (hq_ : q_ ≤ 4) : WR (S := Unit) l yL_setCodes wsL_setCodes ({ frames := 3, cells := 0, slots := 0, locals := 65 } : Room) [.ref (ad 0), .int (nI q_), .ref oa] g (oW g oa (f) :: wC g ad mc M sig z) sz (fun u : Unit => oW g oa (vp_updL f 0 (nI (sL z)).toInt64) :: wC g ad (mc + nI 1) (min M 1) (fillF sig (nI 0) 207) (zcl z (2 ^ q_))) (fun _ => some (.int (nI 0))) 0 0 := by
  refine WR.ofX (cc := cL_setCodes) (maxL := 4) (ret := (some .int)) (hh := [(0, 9, 12, 13)]) (by decide) rfl (Nat.le_of_ble_eq_true rfl) ?_
  intro p e s m below meth c hx hb hml hr hlocks hown hts htab hsz hE0 hP hD ls hl
  subst hsz
  have hown : s.vm.findClass RL = some m.cls := hown
  have hA : ∀ q, s.heap.size ≤ q → va_A (oW g oa (f) :: wC g ad mc M sig z) s.heap.size q := fun q h => Or.inr h
  have hE := hE0
  have hS : va_S (va_A (oW g oa (f) :: wC g ad mc M sig z) s.heap.size) s.heap s.heap [] := va_S.rf
  have hl : lv_has ls 4 [(0, .ref (ad 0)), (1, .int (nI q_)), (2, .ref oa)] := hl
  refine lv_aload_n hx hb dL_setCodes_0 rfl (lv_at hl 2 rfl) ?_
  refine lv_iconst (v := nI 0) hx hb dL_setCodes_1 (by decide) ?_
  refine lv_aload_n hx hb dL_setCodes_2 rfl (lv_at hl 0 rfl) ?_
  refine lv_iload_n hx hb dL_setCodes_3 rfl (lv_at hl 1 rfl) ?_
  refine q_wrV (wr := [oW g oa (f)]) (As := [.int (nI q_)]) (rest := [.int (nI 0), .ref oa]) ⟨hx, hb, hml, hown, hts⟩ (c_X3_setCodes hM hV hq_) (cwV 1 hts gL_setCodes_X3_setCodes rfl rfl rfl (by decide +kernel) ⟨Nat.le_of_ble_eq_true rfl, Nat.le_of_ble_eq_true rfl⟩) hE hP hD hS hA (va_recv hE.K hP (ci := 4) (q0 := 1) rfl rfl) rfl hl.1 rfl (Nat.le_of_ble_eq_true rfl) dL_setCodes_4 ⟨Nat.le_of_ble_eq_true rfl, Nat.le_of_ble_eq_true rfl⟩ (fun _u H locs hP hD hS hE => ?_)
  have hP : va_P g.1 vwCl (oW g oa (f) :: wC g ad (mc + nI 1) (min M 1) (fillF sig (nI 0) 207) (zcl z (2 ^ q_))) H := hP
  have hD : va_D (va_A (oW g oa (f) :: wC g ad mc M sig z) s.heap.size) (oW g oa (f) :: wC g ad (mc + nI 1) (min M 1) (fillF sig (nI 0) 207) (zcl z (2 ^ q_))) := hD
  refine lv_i2l (v := (nI (sL z)).toInt64) hx hb dL_setCodes_7 rfl ?_
  refine q_last hx hb hE hP hD hS (q0 := 0) rfl dL_setCodes_8 (fun H locs hP hD hS => ?_)
  have hP : va_P g.1 vwCl (oW g oa (vp_updL f 0 (nI (sL z)).toInt64) :: wC g ad (mc + nI 1) (min M 1) (fillF sig (nI 0) 207) (zcl z (2 ^ q_))) H := hP
  have hD : va_D (va_A (oW g oa (f) :: wC g ad mc M sig z) s.heap.size) (oW g oa (vp_updL f 0 (nI (sL z)).toInt64) :: wC g ad (mc + nI 1) (min M 1) (fillF sig (nI 0) 207) (zcl z (2 ^ q_))) := hD
  have hE := hE0.kept hS.2.1
  refine lv_goto (tgt := 15) hx hb dL_setCodes_9 (by decide) ?_
  refine lv_iconst (v := nI 0) hx hb dL_setCodes_15 (by decide) ?_
  exact q_wiret (()) hx hb hr hlocks hP hD hS dL_setCodes_16 rfl
set_option maxHeartbeats 4000000 in
set_option maxRecDepth 100000 in
theorem w_L_hill {l : Launch} {g : gT} {sz : Nat} {oa : Nat} {f : Nat → Int64} {ad : Nat → Nat} {mc : Int32} {M : Nat} {sig : Nat → Int32} {z : sT} (hM : wM M (sn z)) (hV : VS z) {a s_ : Nat} (ha_ : a < sL z) (h1_ : 1 ≤ s_) (h9_ : s_ ≤ 9) (hn_ : sn z < 8) : WR (S := Nat × Nat × Nat) l yL_hill wsL_hill ({ frames := 6, cells := 3, slots := 27, locals := 130 } : Room) [.ref (ad 0), .int (nI a), .int (nI s_), .ref oa] g (oW g oa (f) :: wC g ad mc M sig z) sz (fun u : Nat × Nat × Nat => oW g oa (vp_updL f 0 (nI (sn z)).toInt64) :: wC g (adH ad (sn z) u.1 u.2.1 u.2.2) (mc + nI 1) (2 * sn z + 3) sig (zhl z a s_)) (fun _ => some (.int (nI 0))) 3 27 := by
  refine WR.ofX (cc := cL_hill) (maxL := 5) (ret := (some .int)) (hh := [(0, 10, 13, 19), (0, 10, 17, 13), (0, 10, 21, 21)]) (by decide) rfl (Nat.le_of_ble_eq_true rfl) ?_
  intro p e s m below meth c hx hb hml hr hlocks hown hts htab hsz hE0 hP hD ls hl
  subst hsz
  have hown : s.vm.findClass RL = some m.cls := hown
  have hA : ∀ q, s.heap.size ≤ q → va_A (oW g oa (f) :: wC g ad mc M sig z) s.heap.size q := fun q h => Or.inr h
  have hE := hE0
  have hS : va_S (va_A (oW g oa (f) :: wC g ad mc M sig z) s.heap.size) s.heap s.heap [] := va_S.rf
  have hl : lv_has ls 5 [(0, .ref (ad 0)), (1, .int (nI a)), (2, .int (nI s_)), (3, .ref oa)] := hl
  refine lv_aload_n hx hb dL_hill_0 rfl (lv_at hl 3 rfl) ?_
  refine lv_iconst (v := nI 0) hx hb dL_hill_1 (by decide) ?_
  refine lv_aload_n hx hb dL_hill_2 rfl (lv_at hl 0 rfl) ?_
  refine lv_iload_n hx hb dL_hill_3 rfl (lv_at hl 1 rfl) ?_
  refine lv_iload_n hx hb dL_hill_4 rfl (lv_at hl 2 rfl) ?_
  refine q_wrV (wr := [oW g oa (f)]) (As := [.int (nI a), .int (nI s_)]) (rest := [.int (nI 0), .ref oa]) ⟨hx, hb, hml, hown, hts⟩ (c_X3_hill hM hV ha_ h1_ h9_ hn_) (cwV 2 hts gL_hill_X3_hill rfl rfl rfl (by decide +kernel) ⟨Nat.le_of_ble_eq_true rfl, Nat.le_of_ble_eq_true rfl⟩) hE hP hD hS hA (va_recv hE.K hP (ci := 4) (q0 := 1) rfl rfl) rfl hl.1 rfl (Nat.le_of_ble_eq_true rfl) dL_hill_5 ⟨Nat.le_of_ble_eq_true rfl, Nat.le_of_ble_eq_true rfl⟩ (fun u_ H locs hP hD hS hE => ?_)
  have hP : va_P g.1 vwCl (oW g oa (f) :: wC g (adH ad (sn z) u_.1 u_.2.1 u_.2.2) (mc + nI 1) (2 * sn z + 3) sig (zhl z a s_)) H := hP
  have hD : va_D (va_A (oW g oa (f) :: wC g ad mc M sig z) s.heap.size) (oW g oa (f) :: wC g (adH ad (sn z) u_.1 u_.2.1 u_.2.2) (mc + nI 1) (2 * sn z + 3) sig (zhl z a s_)) := hD
  refine lv_i2l (v := (nI (sn z)).toInt64) hx hb dL_hill_8 rfl ?_
  refine q_last hx hb hE hP hD hS (q0 := 0) rfl dL_hill_9 (fun H locs hP hD hS => ?_)
  have hP : va_P g.1 vwCl (oW g oa (vp_updL f 0 (nI (sn z)).toInt64) :: wC g (adH ad (sn z) u_.1 u_.2.1 u_.2.2) (mc + nI 1) (2 * sn z + 3) sig (zhl z a s_)) H := hP
  have hD : va_D (va_A (oW g oa (f) :: wC g ad mc M sig z) s.heap.size) (oW g oa (vp_updL f 0 (nI (sn z)).toInt64) :: wC g (adH ad (sn z) u_.1 u_.2.1 u_.2.2) (mc + nI 1) (2 * sn z + 3) sig (zhl z a s_)) := hD
  have hE := hE0.kept hS.2.1
  refine lv_goto (tgt := 25) hx hb dL_hill_10 (by decide) ?_
  refine lv_iconst (v := nI 0) hx hb dL_hill_25 (by decide) ?_
  exact q_wiret (u_) hx hb hr hlocks hP hD hS dL_hill_26 rfl
set_option maxHeartbeats 4000000 in
set_option maxRecDepth 100000 in
theorem w_L_setCodes_1 {l : Launch} (hl0 : l.stackTraces = false) {g : gT} {sz : Nat} {oa : Nat} {f : Nat → Int64} {ad : Nat → Nat} {mc : Int32} {M : Nat} {sig : Nat → Int32} {z : sT} (hM : wM M (sn z)) (hV : VS z) {x : Int32} (hx_ : ¬ inB x 0 4) : WR (S := Unit) l yL_setCodes wsL_setCodes ({ frames := 7, cells := 1, slots := 6, locals := 112 } : Room) [.ref (ad 0), .int x, .ref oa] g (oW g oa (f) :: wC g ad mc M sig z) sz (fun _ : Unit => oW g oa (f) :: wC g ad mc M sig z) (fun _ => some (.int (nI 1))) 1 6 := by
  refine WR.ofX (cc := cL_setCodes) (maxL := 4) (ret := (some .int)) (hh := [(0, 9, 12, 13)]) (by decide) rfl (Nat.le_of_ble_eq_true rfl) ?_
  intro p e s m below meth c hx hb hml hr hlocks hown hts htab hsz hE0 hP hD ls hl
  subst hsz
  have hown : s.vm.findClass RL = some m.cls := hown
  have hA : ∀ q, s.heap.size ≤ q → va_A (oW g oa (f) :: wC g ad mc M sig z) s.heap.size q := fun q h => Or.inr h
  have hE := hE0
  have hS : va_S (va_A (oW g oa (f) :: wC g ad mc M sig z) s.heap.size) s.heap s.heap [] := va_S.rf
  have hl : lv_has ls 4 [(0, .ref (ad 0)), (1, .int x), (2, .ref oa)] := hl
  refine lv_aload_n hx hb dL_setCodes_0 rfl (lv_at hl 2 rfl) ?_
  refine lv_iconst (v := nI 0) hx hb dL_setCodes_1 (by decide) ?_
  refine lv_aload_n hx hb dL_setCodes_2 rfl (lv_at hl 0 rfl) ?_
  refine lv_iload_n hx hb dL_setCodes_3 rfl (lv_at hl 1 rfl) ?_
  refine q_thX (E := xA) (name := xA) (As := [.int x]) (rest := [.int (nI 0), .ref oa]) ⟨hx, hb, hml, hown, hts⟩ (ct_X3_setCodes_1 hl0 hM hV hx_) (cwV 1 hts gL_setCodes_X3_setCodes rfl rfl rfl (by decide +kernel) ⟨Nat.le_of_ble_eq_true rfl, Nat.le_of_ble_eq_true rfl⟩) hE (fun q h => hA q (Nat.le_trans hS.1 h)) (q_tl hP) (va_recv hE.K hP (ci := 4) (q0 := 1) rfl rfl) rfl hl.1 rfl (Nat.le_of_ble_eq_true rfl) dL_setCodes_4 ⟨Nat.le_of_ble_eq_true rfl, Nat.le_of_ble_eq_true rfl⟩ hP hS ([] : List ExceptionTableEntry) ⟨0, 9, 12, 13⟩ ([] : List ExceptionTableEntry) htab (fun z hz => nomatch hz) (by decide) (by decide) (hts _ (List.mem_of_getElem? (i := 1) rfl)) (q_cast (List.mem_of_getElem? (i := 3) rfl) hE) (fun q9 H hP hS => ?_)
  refine lv_astore_n (lv' := [(3, .ref q9), (0, .ref (ad 0)), (1, .int x), (2, .ref oa)]) hx hb dL_setCodes_12 rfl hl (by decide) rfl (fun ls hl => ?_)
  refine lv_iconst (v := nI 1) hx hb dL_setCodes_13 (by decide) ?_
  exact q_wiret (()) hx hb hr hlocks hP hD hS dL_setCodes_14 rfl
set_option maxHeartbeats 4000000 in
set_option maxRecDepth 100000 in
theorem w_L_hill_1 {l : Launch} (hl0 : l.stackTraces = false) {g : gT} {sz : Nat} {oa : Nat} {f : Nat → Int64} {ad : Nat → Nat} {mc : Int32} {M : Nat} {sig : Nat → Int32} {z : sT} (hM : wM M (sn z)) (hV : VS z) {x y : Int32} (hx_ : ¬ inR x (sL z)) : WR (S := Unit) l yL_hill wsL_hill ({ frames := 8, cells := 1, slots := 6, locals := 133 } : Room) [.ref (ad 0), .int x, .int y, .ref oa] g (oW g oa (f) :: wC g ad mc M sig z) sz (fun _ : Unit => oW g oa (f) :: wC g ad mc M sig z) (fun _ => some (.int (nI 1))) 1 6 := by
  refine WR.ofX (cc := cL_hill) (maxL := 5) (ret := (some .int)) (hh := [(0, 10, 13, 19), (0, 10, 17, 13), (0, 10, 21, 21)]) (by decide) rfl (Nat.le_of_ble_eq_true rfl) ?_
  intro p e s m below meth c hx hb hml hr hlocks hown hts htab hsz hE0 hP hD ls hl
  subst hsz
  have hown : s.vm.findClass RL = some m.cls := hown
  have hA : ∀ q, s.heap.size ≤ q → va_A (oW g oa (f) :: wC g ad mc M sig z) s.heap.size q := fun q h => Or.inr h
  have hE := hE0
  have hS : va_S (va_A (oW g oa (f) :: wC g ad mc M sig z) s.heap.size) s.heap s.heap [] := va_S.rf
  have hl : lv_has ls 5 [(0, .ref (ad 0)), (1, .int x), (2, .int y), (3, .ref oa)] := hl
  refine lv_aload_n hx hb dL_hill_0 rfl (lv_at hl 3 rfl) ?_
  refine lv_iconst (v := nI 0) hx hb dL_hill_1 (by decide) ?_
  refine lv_aload_n hx hb dL_hill_2 rfl (lv_at hl 0 rfl) ?_
  refine lv_iload_n hx hb dL_hill_3 rfl (lv_at hl 1 rfl) ?_
  refine lv_iload_n hx hb dL_hill_4 rfl (lv_at hl 2 rfl) ?_
  refine q_thX (E := xI) (name := xI) (As := [.int x, .int y]) (rest := [.int (nI 0), .ref oa]) ⟨hx, hb, hml, hown, hts⟩ (ct_X3_hill_1 hl0 hM hV hx_) (cwV 2 hts gL_hill_X3_hill rfl rfl rfl (by decide +kernel) ⟨Nat.le_of_ble_eq_true rfl, Nat.le_of_ble_eq_true rfl⟩) hE (fun q h => hA q (Nat.le_trans hS.1 h)) (q_tl hP) (va_recv hE.K hP (ci := 4) (q0 := 1) rfl rfl) rfl hl.1 rfl (Nat.le_of_ble_eq_true rfl) dL_hill_5 ⟨Nat.le_of_ble_eq_true rfl, Nat.le_of_ble_eq_true rfl⟩ hP hS ([] : List ExceptionTableEntry) ⟨0, 10, 13, 19⟩ ([⟨0, 10, 17, 13⟩, ⟨0, 10, 21, 21⟩] : List ExceptionTableEntry) htab (fun z hz => nomatch hz) (by decide) (by decide) (hts _ (List.mem_of_getElem? (i := 1) rfl)) (q_cast (List.mem_of_getElem? (i := 2) rfl) hE) (fun q9 H hP hS => ?_)
  refine lv_astore (lv' := [(4, .ref q9), (0, .ref (ad 0)), (1, .int x), (2, .int y), (3, .ref oa)]) hx hb dL_hill_13 hl (by decide) rfl (fun ls hl => ?_)
  refine lv_iconst (v := nI 1) hx hb dL_hill_15 (by decide) ?_
  exact q_wiret (()) hx hb hr hlocks hP hD hS dL_hill_16 rfl
set_option maxHeartbeats 4000000 in
set_option maxRecDepth 100000 in
theorem w_L_hill_2 {l : Launch} (hl0 : l.stackTraces = false) {g : gT} {sz : Nat} {oa : Nat} {f : Nat → Int64} {ad : Nat → Nat} {mc : Int32} {M : Nat} {sig : Nat → Int32} {z : sT} (hM : wM M (sn z)) (hV : VS z) {a : Nat} {x : Int32} (ha_ : a < sL z) (hx_ : ¬ inB x 1 9) : WR (S := Unit) l yL_hill wsL_hill ({ frames := 8, cells := 1, slots := 6, locals := 133 } : Room) [.ref (ad 0), .int (nI a), .int x, .ref oa] g (oW g oa (f) :: wC g ad mc M sig z) sz (fun _ : Unit => oW g oa (f) :: wC g ad mc M sig z) (fun _ => some (.int (nI 2))) 1 6 := by
  refine WR.ofX (cc := cL_hill) (maxL := 5) (ret := (some .int)) (hh := [(0, 10, 13, 19), (0, 10, 17, 13), (0, 10, 21, 21)]) (by decide) rfl (Nat.le_of_ble_eq_true rfl) ?_
  intro p e s m below meth c hx hb hml hr hlocks hown hts htab hsz hE0 hP hD ls hl
  subst hsz
  have hown : s.vm.findClass RL = some m.cls := hown
  have hA : ∀ q, s.heap.size ≤ q → va_A (oW g oa (f) :: wC g ad mc M sig z) s.heap.size q := fun q h => Or.inr h
  have hE := hE0
  have hS : va_S (va_A (oW g oa (f) :: wC g ad mc M sig z) s.heap.size) s.heap s.heap [] := va_S.rf
  have hl : lv_has ls 5 [(0, .ref (ad 0)), (1, .int (nI a)), (2, .int x), (3, .ref oa)] := hl
  refine lv_aload_n hx hb dL_hill_0 rfl (lv_at hl 3 rfl) ?_
  refine lv_iconst (v := nI 0) hx hb dL_hill_1 (by decide) ?_
  refine lv_aload_n hx hb dL_hill_2 rfl (lv_at hl 0 rfl) ?_
  refine lv_iload_n hx hb dL_hill_3 rfl (lv_at hl 1 rfl) ?_
  refine lv_iload_n hx hb dL_hill_4 rfl (lv_at hl 2 rfl) ?_
  refine q_thX (E := xA) (name := xA) (As := [.int (nI a), .int x]) (rest := [.int (nI 0), .ref oa]) ⟨hx, hb, hml, hown, hts⟩ (ct_X3_hill_2 hl0 hM hV ha_ hx_) (cwV 2 hts gL_hill_X3_hill rfl rfl rfl (by decide +kernel) ⟨Nat.le_of_ble_eq_true rfl, Nat.le_of_ble_eq_true rfl⟩) hE (fun q h => hA q (Nat.le_trans hS.1 h)) (q_tl hP) (va_recv hE.K hP (ci := 4) (q0 := 1) rfl rfl) rfl hl.1 rfl (Nat.le_of_ble_eq_true rfl) dL_hill_5 ⟨Nat.le_of_ble_eq_true rfl, Nat.le_of_ble_eq_true rfl⟩ hP hS ([⟨0, 10, 13, 19⟩] : List ExceptionTableEntry) ⟨0, 10, 17, 13⟩ ([⟨0, 10, 21, 21⟩] : List ExceptionTableEntry) htab (fun z hz => by
      have hz : z ∈ ([⟨0, 10, 13, 19⟩] : List ExceptionTableEntry) := hz
      rcases List.mem_cons.mp hz with rfl | hz
      · exact Or.inr ⟨by decide, xI, (hts _ (List.mem_of_getElem? (i := 1) rfl)), hE.1.2.2.2.2.1 (xA, xI) (by decide)⟩
      cases hz) (by decide) (by decide) (hts _ (List.mem_of_getElem? (i := 2) rfl)) (q_cast (List.mem_of_getElem? (i := 3) rfl) hE) (fun q9 H hP hS => ?_)
  refine lv_astore (lv' := [(4, .ref q9), (0, .ref (ad 0)), (1, .int (nI a)), (2, .int x), (3, .ref oa)]) hx hb dL_hill_17 hl (by decide) rfl (fun ls hl => ?_)
  refine lv_iconst (v := nI 2) hx hb dL_hill_19 (by decide) ?_
  exact q_wiret (()) hx hb hr hlocks hP hD hS dL_hill_20 rfl
set_option maxHeartbeats 4000000 in
set_option maxRecDepth 100000 in
theorem w_L_hill_3 {l : Launch} (hl0 : l.stackTraces = false) {g : gT} {sz : Nat} {oa : Nat} {f : Nat → Int64} {ad : Nat → Nat} {mc : Int32} {M : Nat} {sig : Nat → Int32} {z : sT} (hM : wM M (sn z)) (hV : VS z) {a s_ : Nat} (ha_ : a < sL z) (h1_ : 1 ≤ s_) (h9_ : s_ ≤ 9) (hn_ : 8 ≤ sn z) : WR (S := Unit) l yL_hill wsL_hill ({ frames := 7, cells := 1, slots := 6, locals := 112 } : Room) [.ref (ad 0), .int (nI a), .int (nI s_), .ref oa] g (oW g oa (f) :: wC g ad mc M sig z) sz (fun _ : Unit => oW g oa (f) :: wC g ad mc M sig z) (fun _ => some (.int (nI 3))) 1 6 := by
  refine WR.ofX (cc := cL_hill) (maxL := 5) (ret := (some .int)) (hh := [(0, 10, 13, 19), (0, 10, 17, 13), (0, 10, 21, 21)]) (by decide) rfl (Nat.le_of_ble_eq_true rfl) ?_
  intro p e s m below meth c hx hb hml hr hlocks hown hts htab hsz hE0 hP hD ls hl
  subst hsz
  have hown : s.vm.findClass RL = some m.cls := hown
  have hA : ∀ q, s.heap.size ≤ q → va_A (oW g oa (f) :: wC g ad mc M sig z) s.heap.size q := fun q h => Or.inr h
  have hE := hE0
  have hS : va_S (va_A (oW g oa (f) :: wC g ad mc M sig z) s.heap.size) s.heap s.heap [] := va_S.rf
  have hl : lv_has ls 5 [(0, .ref (ad 0)), (1, .int (nI a)), (2, .int (nI s_)), (3, .ref oa)] := hl
  refine lv_aload_n hx hb dL_hill_0 rfl (lv_at hl 3 rfl) ?_
  refine lv_iconst (v := nI 0) hx hb dL_hill_1 (by decide) ?_
  refine lv_aload_n hx hb dL_hill_2 rfl (lv_at hl 0 rfl) ?_
  refine lv_iload_n hx hb dL_hill_3 rfl (lv_at hl 1 rfl) ?_
  refine lv_iload_n hx hb dL_hill_4 rfl (lv_at hl 2 rfl) ?_
  refine q_thX (E := xS) (name := xS) (As := [.int (nI a), .int (nI s_)]) (rest := [.int (nI 0), .ref oa]) ⟨hx, hb, hml, hown, hts⟩ (ct_X3_hill_3 hl0 hM hV ha_ h1_ h9_ hn_) (cwV 2 hts gL_hill_X3_hill rfl rfl rfl (by decide +kernel) ⟨Nat.le_of_ble_eq_true rfl, Nat.le_of_ble_eq_true rfl⟩) hE (fun q h => hA q (Nat.le_trans hS.1 h)) (q_tl hP) (va_recv hE.K hP (ci := 4) (q0 := 1) rfl rfl) rfl hl.1 rfl (Nat.le_of_ble_eq_true rfl) dL_hill_5 ⟨Nat.le_of_ble_eq_true rfl, Nat.le_of_ble_eq_true rfl⟩ hP hS ([⟨0, 10, 13, 19⟩, ⟨0, 10, 17, 13⟩] : List ExceptionTableEntry) ⟨0, 10, 21, 21⟩ ([] : List ExceptionTableEntry) htab (fun z hz => by
      have hz : z ∈ ([⟨0, 10, 13, 19⟩, ⟨0, 10, 17, 13⟩] : List ExceptionTableEntry) := hz
      rcases List.mem_cons.mp hz with rfl | hz
      · exact Or.inr ⟨by decide, xI, (hts _ (List.mem_of_getElem? (i := 1) rfl)), hE.1.2.2.2.2.1 (xS, xI) (by decide)⟩
      rcases List.mem_cons.mp hz with rfl | hz
      · exact Or.inr ⟨by decide, xA, (hts _ (List.mem_of_getElem? (i := 2) rfl)), hE.1.2.2.2.2.1 (xS, xA) (by decide)⟩
      cases hz) (by decide) (by decide) (hts _ (List.mem_of_getElem? (i := 3) rfl)) (q_cast (List.mem_of_getElem? (i := 4) rfl) hE) (fun q9 H hP hS => ?_)
  refine lv_astore (lv' := [(4, .ref q9), (0, .ref (ad 0)), (1, .int (nI a)), (2, .int (nI s_)), (3, .ref oa)]) hx hb dL_hill_21 hl (by decide) rfl (fun ls hl => ?_)
  refine lv_iconst (v := nI 3) hx hb dL_hill_23 (by decide) ?_
  exact q_wiret (()) hx hb hr hlocks hP hD hS dL_hill_24 rfl
set_option maxHeartbeats 4000000 in
set_option maxRecDepth 100000 in
theorem w_L_say_1 {l : Launch} (hl0 : l.stackTraces = false) {g : gT} {sz : Nat} {oa : Nat} {f : Nat → Int64} {ad : Nat → Nat} {mc : Int32} {M : Nat} {sig : Nat → Int32} {z : sT} (hM : wM M (sn z)) (hV : VS z) {x y : Int32} (hx_ : ¬ inR x (sn z)) : WR (S := Unit) l yL_say wsL_say ({ frames := 8, cells := 1, slots := 6, locals := 134 } : Room) [.ref (ad 0), .int x, .int y, .ref oa] g (oW g oa (f) :: wC g ad mc M sig z) sz (fun _ : Unit => oW g oa (f) :: wC g ad mc M sig z) (fun _ => some (.int (nI 1))) 1 6 := by
  refine WR.ofX (cc := cL_say) (maxL := 5) (ret := (some .int)) (hh := [(0, 10, 13, 19), (0, 10, 17, 21)]) (by decide) rfl (Nat.le_of_ble_eq_true rfl) ?_
  intro p e s m below meth c hx hb hml hr hlocks hown hts htab hsz hE0 hP hD ls hl
  subst hsz
  have hown : s.vm.findClass RL = some m.cls := hown
  have hA : ∀ q, s.heap.size ≤ q → va_A (oW g oa (f) :: wC g ad mc M sig z) s.heap.size q := fun q h => Or.inr h
  have hE := hE0
  have hS : va_S (va_A (oW g oa (f) :: wC g ad mc M sig z) s.heap.size) s.heap s.heap [] := va_S.rf
  have hl : lv_has ls 5 [(0, .ref (ad 0)), (1, .int x), (2, .int y), (3, .ref oa)] := hl
  refine lv_aload_n hx hb dL_say_0 rfl (lv_at hl 3 rfl) ?_
  refine lv_iconst (v := nI 0) hx hb dL_say_1 (by decide) ?_
  refine lv_aload_n hx hb dL_say_2 rfl (lv_at hl 0 rfl) ?_
  refine lv_iload_n hx hb dL_say_3 rfl (lv_at hl 1 rfl) ?_
  refine lv_iload_n hx hb dL_say_4 rfl (lv_at hl 2 rfl) ?_
  refine q_thX (E := xI) (name := xI) (As := [.int x, .int y]) (rest := [.int (nI 0), .ref oa]) ⟨hx, hb, hml, hown, hts⟩ (ct_X3_say_1 hl0 hM hV hx_) (cwV 2 hts gL_say_X3_say rfl rfl rfl (by decide +kernel) ⟨Nat.le_of_ble_eq_true rfl, Nat.le_of_ble_eq_true rfl⟩) hE (fun q h => hA q (Nat.le_trans hS.1 h)) (q_tl hP) (va_recv hE.K hP (ci := 4) (q0 := 1) rfl rfl) rfl hl.1 rfl (Nat.le_of_ble_eq_true rfl) dL_say_5 ⟨Nat.le_of_ble_eq_true rfl, Nat.le_of_ble_eq_true rfl⟩ hP hS ([] : List ExceptionTableEntry) ⟨0, 10, 13, 19⟩ ([⟨0, 10, 17, 21⟩] : List ExceptionTableEntry) htab (fun z hz => nomatch hz) (by decide) (by decide) (hts _ (List.mem_of_getElem? (i := 1) rfl)) (q_cast (List.mem_of_getElem? (i := 2) rfl) hE) (fun q9 H hP hS => ?_)
  refine lv_astore (lv' := [(4, .ref q9), (0, .ref (ad 0)), (1, .int x), (2, .int y), (3, .ref oa)]) hx hb dL_say_13 hl (by decide) rfl (fun ls hl => ?_)
  refine lv_iconst (v := nI 1) hx hb dL_say_15 (by decide) ?_
  exact q_wiret (()) hx hb hr hlocks hP hD hS dL_say_16 rfl
set_option maxHeartbeats 4000000 in
set_option maxRecDepth 100000 in
theorem w_L_say_2 {l : Launch} (hl0 : l.stackTraces = false) {g : gT} {sz : Nat} {oa : Nat} {f : Nat → Int64} {ad : Nat → Nat} {mc : Int32} {M : Nat} {sig : Nat → Int32} {z : sT} (hM : wM M (sn z)) (hV : VS z) {k : Nat} {y : Int32} (hk_ : k < sn z) (hsd_ : 12 ≤ ssd z k) : WR (S := Unit) l yL_say wsL_say ({ frames := 7, cells := 1, slots := 6, locals := 113 } : Room) [.ref (ad 0), .int (nI k), .int y, .ref oa] g (oW g oa (f) :: wC g ad mc M sig z) sz (fun _ : Unit => oW g oa (f) :: wC g ad mc M sig z) (fun _ => some (.int (nI 2))) 1 6 := by
  refine WR.ofX (cc := cL_say) (maxL := 5) (ret := (some .int)) (hh := [(0, 10, 13, 19), (0, 10, 17, 21)]) (by decide) rfl (Nat.le_of_ble_eq_true rfl) ?_
  intro p e s m below meth c hx hb hml hr hlocks hown hts htab hsz hE0 hP hD ls hl
  subst hsz
  have hown : s.vm.findClass RL = some m.cls := hown
  have hA : ∀ q, s.heap.size ≤ q → va_A (oW g oa (f) :: wC g ad mc M sig z) s.heap.size q := fun q h => Or.inr h
  have hE := hE0
  have hS : va_S (va_A (oW g oa (f) :: wC g ad mc M sig z) s.heap.size) s.heap s.heap [] := va_S.rf
  have hl : lv_has ls 5 [(0, .ref (ad 0)), (1, .int (nI k)), (2, .int y), (3, .ref oa)] := hl
  refine lv_aload_n hx hb dL_say_0 rfl (lv_at hl 3 rfl) ?_
  refine lv_iconst (v := nI 0) hx hb dL_say_1 (by decide) ?_
  refine lv_aload_n hx hb dL_say_2 rfl (lv_at hl 0 rfl) ?_
  refine lv_iload_n hx hb dL_say_3 rfl (lv_at hl 1 rfl) ?_
  refine lv_iload_n hx hb dL_say_4 rfl (lv_at hl 2 rfl) ?_
  refine q_thX (E := xS) (name := xS) (As := [.int (nI k), .int y]) (rest := [.int (nI 0), .ref oa]) ⟨hx, hb, hml, hown, hts⟩ (ct_X3_say_2 hl0 hM hV hk_ hsd_) (cwV 2 hts gL_say_X3_say rfl rfl rfl (by decide +kernel) ⟨Nat.le_of_ble_eq_true rfl, Nat.le_of_ble_eq_true rfl⟩) hE (fun q h => hA q (Nat.le_trans hS.1 h)) (q_tl hP) (va_recv hE.K hP (ci := 4) (q0 := 1) rfl rfl) rfl hl.1 rfl (Nat.le_of_ble_eq_true rfl) dL_say_5 ⟨Nat.le_of_ble_eq_true rfl, Nat.le_of_ble_eq_true rfl⟩ hP hS ([⟨0, 10, 13, 19⟩] : List ExceptionTableEntry) ⟨0, 10, 17, 21⟩ ([] : List ExceptionTableEntry) htab (fun z hz => by
      have hz : z ∈ ([⟨0, 10, 13, 19⟩] : List ExceptionTableEntry) := hz
      rcases List.mem_cons.mp hz with rfl | hz
      · exact Or.inr ⟨by decide, xI, (hts _ (List.mem_of_getElem? (i := 1) rfl)), hE.1.2.2.2.2.1 (xS, xI) (by decide)⟩
      cases hz) (by decide) (by decide) (hts _ (List.mem_of_getElem? (i := 2) rfl)) (q_cast (List.mem_of_getElem? (i := 4) rfl) hE) (fun q9 H hP hS => ?_)
  refine lv_astore (lv' := [(4, .ref q9), (0, .ref (ad 0)), (1, .int (nI k)), (2, .int y), (3, .ref oa)]) hx hb dL_say_17 hl (by decide) rfl (fun ls hl => ?_)
  refine lv_iconst (v := nI 2) hx hb dL_say_19 (by decide) ?_
  exact q_wiret (()) hx hb hr hlocks hP hD hS dL_say_20 rfl
set_option maxHeartbeats 4000000 in
set_option maxRecDepth 100000 in
theorem w_L_hush_1 {l : Launch} (hl0 : l.stackTraces = false) {g : gT} {sz : Nat} {oa : Nat} {f : Nat → Int64} {ad : Nat → Nat} {mc : Int32} {M : Nat} {sig : Nat → Int32} {z : sT} (hM : wM M (sn z)) (hV : VS z) {x : Int32} (hx_ : ¬ inR x (sn z)) : WR (S := Unit) l yL_hush wsL_hush ({ frames := 8, cells := 1, slots := 6, locals := 134 } : Room) [.ref (ad 0), .int x, .ref oa] g (oW g oa (f) :: wC g ad mc M sig z) sz (fun _ : Unit => oW g oa (f) :: wC g ad mc M sig z) (fun _ => some (.int (nI 1))) 1 6 := by
  refine WR.ofX (cc := cL_hush) (maxL := 4) (ret := (some .int)) (hh := [(0, 9, 12, 19)]) (by decide) rfl (Nat.le_of_ble_eq_true rfl) ?_
  intro p e s m below meth c hx hb hml hr hlocks hown hts htab hsz hE0 hP hD ls hl
  subst hsz
  have hown : s.vm.findClass RL = some m.cls := hown
  have hA : ∀ q, s.heap.size ≤ q → va_A (oW g oa (f) :: wC g ad mc M sig z) s.heap.size q := fun q h => Or.inr h
  have hE := hE0
  have hS : va_S (va_A (oW g oa (f) :: wC g ad mc M sig z) s.heap.size) s.heap s.heap [] := va_S.rf
  have hl : lv_has ls 4 [(0, .ref (ad 0)), (1, .int x), (2, .ref oa)] := hl
  refine lv_aload_n hx hb dL_hush_0 rfl (lv_at hl 2 rfl) ?_
  refine lv_iconst (v := nI 0) hx hb dL_hush_1 (by decide) ?_
  refine lv_aload_n hx hb dL_hush_2 rfl (lv_at hl 0 rfl) ?_
  refine lv_iload_n hx hb dL_hush_3 rfl (lv_at hl 1 rfl) ?_
  refine q_thX (E := xI) (name := xI) (As := [.int x]) (rest := [.int (nI 0), .ref oa]) ⟨hx, hb, hml, hown, hts⟩ (ct_X3_hush_1 hl0 hM hV hx_) (cwV 1 hts gL_hush_X3_hush rfl rfl rfl (by decide +kernel) ⟨Nat.le_of_ble_eq_true rfl, Nat.le_of_ble_eq_true rfl⟩) hE (fun q h => hA q (Nat.le_trans hS.1 h)) (q_tl hP) (va_recv hE.K hP (ci := 4) (q0 := 1) rfl rfl) rfl hl.1 rfl (Nat.le_of_ble_eq_true rfl) dL_hush_4 ⟨Nat.le_of_ble_eq_true rfl, Nat.le_of_ble_eq_true rfl⟩ hP hS ([] : List ExceptionTableEntry) ⟨0, 9, 12, 19⟩ ([] : List ExceptionTableEntry) htab (fun z hz => nomatch hz) (by decide) (by decide) (hts _ (List.mem_of_getElem? (i := 1) rfl)) (q_cast (List.mem_of_getElem? (i := 2) rfl) hE) (fun q9 H hP hS => ?_)
  refine lv_astore_n (lv' := [(3, .ref q9), (0, .ref (ad 0)), (1, .int x), (2, .ref oa)]) hx hb dL_hush_12 rfl hl (by decide) rfl (fun ls hl => ?_)
  refine lv_iconst (v := nI 1) hx hb dL_hush_13 (by decide) ?_
  exact q_wiret (()) hx hb hr hlocks hP hD hS dL_hush_14 rfl
set_option maxHeartbeats 4000000 in
set_option maxRecDepth 100000 in
theorem w_L_setDelay_1 {l : Launch} (hl0 : l.stackTraces = false) {g : gT} {sz : Nat} {oa : Nat} {f : Nat → Int64} {ad : Nat → Nat} {mc : Int32} {M : Nat} {sig : Nat → Int32} {z : sT} (hM : wM M (sn z)) (hV : VS z) {x y : Int32} (hx_ : ¬ inR x (sn z)) : WR (S := Unit) l yL_setDelay wsL_setDelay ({ frames := 8, cells := 1, slots := 6, locals := 135 } : Room) [.ref (ad 0), .int x, .int y, .ref oa] g (oW g oa (f) :: wC g ad mc M sig z) sz (fun _ : Unit => oW g oa (f) :: wC g ad mc M sig z) (fun _ => some (.int (nI 1))) 1 6 := by
  refine WR.ofX (cc := cL_setDelay) (maxL := 5) (ret := (some .int)) (hh := [(0, 10, 13, 19), (0, 10, 17, 13)]) (by decide) rfl (Nat.le_of_ble_eq_true rfl) ?_
  intro p e s m below meth c hx hb hml hr hlocks hown hts htab hsz hE0 hP hD ls hl
  subst hsz
  have hown : s.vm.findClass RL = some m.cls := hown
  have hA : ∀ q, s.heap.size ≤ q → va_A (oW g oa (f) :: wC g ad mc M sig z) s.heap.size q := fun q h => Or.inr h
  have hE := hE0
  have hS : va_S (va_A (oW g oa (f) :: wC g ad mc M sig z) s.heap.size) s.heap s.heap [] := va_S.rf
  have hl : lv_has ls 5 [(0, .ref (ad 0)), (1, .int x), (2, .int y), (3, .ref oa)] := hl
  refine lv_aload_n hx hb dL_setDelay_0 rfl (lv_at hl 3 rfl) ?_
  refine lv_iconst (v := nI 0) hx hb dL_setDelay_1 (by decide) ?_
  refine lv_aload_n hx hb dL_setDelay_2 rfl (lv_at hl 0 rfl) ?_
  refine lv_iload_n hx hb dL_setDelay_3 rfl (lv_at hl 1 rfl) ?_
  refine lv_iload_n hx hb dL_setDelay_4 rfl (lv_at hl 2 rfl) ?_
  refine q_thX (E := xI) (name := xI) (As := [.int x, .int y]) (rest := [.int (nI 0), .ref oa]) ⟨hx, hb, hml, hown, hts⟩ (ct_X3_setDelay_1 hl0 hM hV hx_) (cwV 2 hts gL_setDelay_X3_setDelay rfl rfl rfl (by decide +kernel) ⟨Nat.le_of_ble_eq_true rfl, Nat.le_of_ble_eq_true rfl⟩) hE (fun q h => hA q (Nat.le_trans hS.1 h)) (q_tl hP) (va_recv hE.K hP (ci := 4) (q0 := 1) rfl rfl) rfl hl.1 rfl (Nat.le_of_ble_eq_true rfl) dL_setDelay_5 ⟨Nat.le_of_ble_eq_true rfl, Nat.le_of_ble_eq_true rfl⟩ hP hS ([] : List ExceptionTableEntry) ⟨0, 10, 13, 19⟩ ([⟨0, 10, 17, 13⟩] : List ExceptionTableEntry) htab (fun z hz => nomatch hz) (by decide) (by decide) (hts _ (List.mem_of_getElem? (i := 1) rfl)) (q_cast (List.mem_of_getElem? (i := 2) rfl) hE) (fun q9 H hP hS => ?_)
  refine lv_astore (lv' := [(4, .ref q9), (0, .ref (ad 0)), (1, .int x), (2, .int y), (3, .ref oa)]) hx hb dL_setDelay_13 hl (by decide) rfl (fun ls hl => ?_)
  refine lv_iconst (v := nI 1) hx hb dL_setDelay_15 (by decide) ?_
  exact q_wiret (()) hx hb hr hlocks hP hD hS dL_setDelay_16 rfl
set_option maxHeartbeats 4000000 in
set_option maxRecDepth 100000 in
theorem w_L_setDelay_2 {l : Launch} (hl0 : l.stackTraces = false) {g : gT} {sz : Nat} {oa : Nat} {f : Nat → Int64} {ad : Nat → Nat} {mc : Int32} {M : Nat} {sig : Nat → Int32} {z : sT} (hM : wM M (sn z)) (hV : VS z) {k : Nat} {x : Int32} (hk_ : k < sn z) (hx_ : ¬ inR x (sL z)) : WR (S := Unit) l yL_setDelay wsL_setDelay ({ frames := 8, cells := 1, slots := 6, locals := 135 } : Room) [.ref (ad 0), .int (nI k), .int x, .ref oa] g (oW g oa (f) :: wC g ad mc M sig z) sz (fun _ : Unit => oW g oa (f) :: wC g ad mc M sig z) (fun _ => some (.int (nI 2))) 1 6 := by
  refine WR.ofX (cc := cL_setDelay) (maxL := 5) (ret := (some .int)) (hh := [(0, 10, 13, 19), (0, 10, 17, 13)]) (by decide) rfl (Nat.le_of_ble_eq_true rfl) ?_
  intro p e s m below meth c hx hb hml hr hlocks hown hts htab hsz hE0 hP hD ls hl
  subst hsz
  have hown : s.vm.findClass RL = some m.cls := hown
  have hA : ∀ q, s.heap.size ≤ q → va_A (oW g oa (f) :: wC g ad mc M sig z) s.heap.size q := fun q h => Or.inr h
  have hE := hE0
  have hS : va_S (va_A (oW g oa (f) :: wC g ad mc M sig z) s.heap.size) s.heap s.heap [] := va_S.rf
  have hl : lv_has ls 5 [(0, .ref (ad 0)), (1, .int (nI k)), (2, .int x), (3, .ref oa)] := hl
  refine lv_aload_n hx hb dL_setDelay_0 rfl (lv_at hl 3 rfl) ?_
  refine lv_iconst (v := nI 0) hx hb dL_setDelay_1 (by decide) ?_
  refine lv_aload_n hx hb dL_setDelay_2 rfl (lv_at hl 0 rfl) ?_
  refine lv_iload_n hx hb dL_setDelay_3 rfl (lv_at hl 1 rfl) ?_
  refine lv_iload_n hx hb dL_setDelay_4 rfl (lv_at hl 2 rfl) ?_
  refine q_thX (E := xA) (name := xA) (As := [.int (nI k), .int x]) (rest := [.int (nI 0), .ref oa]) ⟨hx, hb, hml, hown, hts⟩ (ct_X3_setDelay_2 hl0 hM hV hk_ hx_) (cwV 2 hts gL_setDelay_X3_setDelay rfl rfl rfl (by decide +kernel) ⟨Nat.le_of_ble_eq_true rfl, Nat.le_of_ble_eq_true rfl⟩) hE (fun q h => hA q (Nat.le_trans hS.1 h)) (q_tl hP) (va_recv hE.K hP (ci := 4) (q0 := 1) rfl rfl) rfl hl.1 rfl (Nat.le_of_ble_eq_true rfl) dL_setDelay_5 ⟨Nat.le_of_ble_eq_true rfl, Nat.le_of_ble_eq_true rfl⟩ hP hS ([⟨0, 10, 13, 19⟩] : List ExceptionTableEntry) ⟨0, 10, 17, 13⟩ ([] : List ExceptionTableEntry) htab (fun z hz => by
      have hz : z ∈ ([⟨0, 10, 13, 19⟩] : List ExceptionTableEntry) := hz
      rcases List.mem_cons.mp hz with rfl | hz
      · exact Or.inr ⟨by decide, xI, (hts _ (List.mem_of_getElem? (i := 1) rfl)), hE.1.2.2.2.2.1 (xA, xI) (by decide)⟩
      cases hz) (by decide) (by decide) (hts _ (List.mem_of_getElem? (i := 2) rfl)) (q_cast (List.mem_of_getElem? (i := 3) rfl) hE) (fun q9 H hP hS => ?_)
  refine lv_astore (lv' := [(4, .ref q9), (0, .ref (ad 0)), (1, .int (nI k)), (2, .int x), (3, .ref oa)]) hx hb dL_setDelay_17 hl (by decide) rfl (fun ls hl => ?_)
  refine lv_iconst (v := nI 2) hx hb dL_setDelay_19 (by decide) ?_
  exact q_wiret (()) hx hb hr hlocks hP hD hS dL_setDelay_20 rfl
set_option maxHeartbeats 4000000 in
set_option maxRecDepth 100000 in
theorem w_L_setStrength_1 {l : Launch} (hl0 : l.stackTraces = false) {g : gT} {sz : Nat} {oa : Nat} {f : Nat → Int64} {ad : Nat → Nat} {mc : Int32} {M : Nat} {sig : Nat → Int32} {z : sT} (hM : wM M (sn z)) (hV : VS z) {x y : Int32} (hx_ : ¬ inR x (sn z)) : WR (S := Unit) l yL_setStrength wsL_setStrength ({ frames := 8, cells := 1, slots := 6, locals := 135 } : Room) [.ref (ad 0), .int x, .int y, .ref oa] g (oW g oa (f) :: wC g ad mc M sig z) sz (fun _ : Unit => oW g oa (f) :: wC g ad mc M sig z) (fun _ => some (.int (nI 1))) 1 6 := by
  refine WR.ofX (cc := cL_setStrength) (maxL := 5) (ret := (some .int)) (hh := [(0, 10, 13, 19), (0, 10, 17, 13)]) (by decide) rfl (Nat.le_of_ble_eq_true rfl) ?_
  intro p e s m below meth c hx hb hml hr hlocks hown hts htab hsz hE0 hP hD ls hl
  subst hsz
  have hown : s.vm.findClass RL = some m.cls := hown
  have hA : ∀ q, s.heap.size ≤ q → va_A (oW g oa (f) :: wC g ad mc M sig z) s.heap.size q := fun q h => Or.inr h
  have hE := hE0
  have hS : va_S (va_A (oW g oa (f) :: wC g ad mc M sig z) s.heap.size) s.heap s.heap [] := va_S.rf
  have hl : lv_has ls 5 [(0, .ref (ad 0)), (1, .int x), (2, .int y), (3, .ref oa)] := hl
  refine lv_aload_n hx hb dL_setStrength_0 rfl (lv_at hl 3 rfl) ?_
  refine lv_iconst (v := nI 0) hx hb dL_setStrength_1 (by decide) ?_
  refine lv_aload_n hx hb dL_setStrength_2 rfl (lv_at hl 0 rfl) ?_
  refine lv_iload_n hx hb dL_setStrength_3 rfl (lv_at hl 1 rfl) ?_
  refine lv_iload_n hx hb dL_setStrength_4 rfl (lv_at hl 2 rfl) ?_
  refine q_thX (E := xI) (name := xI) (As := [.int x, .int y]) (rest := [.int (nI 0), .ref oa]) ⟨hx, hb, hml, hown, hts⟩ (ct_X3_setStrength_1 hl0 hM hV hx_) (cwV 2 hts gL_setStrength_X3_setStrength rfl rfl rfl (by decide +kernel) ⟨Nat.le_of_ble_eq_true rfl, Nat.le_of_ble_eq_true rfl⟩) hE (fun q h => hA q (Nat.le_trans hS.1 h)) (q_tl hP) (va_recv hE.K hP (ci := 4) (q0 := 1) rfl rfl) rfl hl.1 rfl (Nat.le_of_ble_eq_true rfl) dL_setStrength_5 ⟨Nat.le_of_ble_eq_true rfl, Nat.le_of_ble_eq_true rfl⟩ hP hS ([] : List ExceptionTableEntry) ⟨0, 10, 13, 19⟩ ([⟨0, 10, 17, 13⟩] : List ExceptionTableEntry) htab (fun z hz => nomatch hz) (by decide) (by decide) (hts _ (List.mem_of_getElem? (i := 1) rfl)) (q_cast (List.mem_of_getElem? (i := 2) rfl) hE) (fun q9 H hP hS => ?_)
  refine lv_astore (lv' := [(4, .ref q9), (0, .ref (ad 0)), (1, .int x), (2, .int y), (3, .ref oa)]) hx hb dL_setStrength_13 hl (by decide) rfl (fun ls hl => ?_)
  refine lv_iconst (v := nI 1) hx hb dL_setStrength_15 (by decide) ?_
  exact q_wiret (()) hx hb hr hlocks hP hD hS dL_setStrength_16 rfl
set_option maxHeartbeats 4000000 in
set_option maxRecDepth 100000 in
theorem w_L_setStrength_2 {l : Launch} (hl0 : l.stackTraces = false) {g : gT} {sz : Nat} {oa : Nat} {f : Nat → Int64} {ad : Nat → Nat} {mc : Int32} {M : Nat} {sig : Nat → Int32} {z : sT} (hM : wM M (sn z)) (hV : VS z) {k : Nat} {x : Int32} (hk_ : k < sn z) (hx_ : ¬ inB x 1 9) : WR (S := Unit) l yL_setStrength wsL_setStrength ({ frames := 8, cells := 1, slots := 6, locals := 135 } : Room) [.ref (ad 0), .int (nI k), .int x, .ref oa] g (oW g oa (f) :: wC g ad mc M sig z) sz (fun _ : Unit => oW g oa (f) :: wC g ad mc M sig z) (fun _ => some (.int (nI 2))) 1 6 := by
  refine WR.ofX (cc := cL_setStrength) (maxL := 5) (ret := (some .int)) (hh := [(0, 10, 13, 19), (0, 10, 17, 13)]) (by decide) rfl (Nat.le_of_ble_eq_true rfl) ?_
  intro p e s m below meth c hx hb hml hr hlocks hown hts htab hsz hE0 hP hD ls hl
  subst hsz
  have hown : s.vm.findClass RL = some m.cls := hown
  have hA : ∀ q, s.heap.size ≤ q → va_A (oW g oa (f) :: wC g ad mc M sig z) s.heap.size q := fun q h => Or.inr h
  have hE := hE0
  have hS : va_S (va_A (oW g oa (f) :: wC g ad mc M sig z) s.heap.size) s.heap s.heap [] := va_S.rf
  have hl : lv_has ls 5 [(0, .ref (ad 0)), (1, .int (nI k)), (2, .int x), (3, .ref oa)] := hl
  refine lv_aload_n hx hb dL_setStrength_0 rfl (lv_at hl 3 rfl) ?_
  refine lv_iconst (v := nI 0) hx hb dL_setStrength_1 (by decide) ?_
  refine lv_aload_n hx hb dL_setStrength_2 rfl (lv_at hl 0 rfl) ?_
  refine lv_iload_n hx hb dL_setStrength_3 rfl (lv_at hl 1 rfl) ?_
  refine lv_iload_n hx hb dL_setStrength_4 rfl (lv_at hl 2 rfl) ?_
  refine q_thX (E := xA) (name := xA) (As := [.int (nI k), .int x]) (rest := [.int (nI 0), .ref oa]) ⟨hx, hb, hml, hown, hts⟩ (ct_X3_setStrength_2 hl0 hM hV hk_ hx_) (cwV 2 hts gL_setStrength_X3_setStrength rfl rfl rfl (by decide +kernel) ⟨Nat.le_of_ble_eq_true rfl, Nat.le_of_ble_eq_true rfl⟩) hE (fun q h => hA q (Nat.le_trans hS.1 h)) (q_tl hP) (va_recv hE.K hP (ci := 4) (q0 := 1) rfl rfl) rfl hl.1 rfl (Nat.le_of_ble_eq_true rfl) dL_setStrength_5 ⟨Nat.le_of_ble_eq_true rfl, Nat.le_of_ble_eq_true rfl⟩ hP hS ([⟨0, 10, 13, 19⟩] : List ExceptionTableEntry) ⟨0, 10, 17, 13⟩ ([] : List ExceptionTableEntry) htab (fun z hz => by
      have hz : z ∈ ([⟨0, 10, 13, 19⟩] : List ExceptionTableEntry) := hz
      rcases List.mem_cons.mp hz with rfl | hz
      · exact Or.inr ⟨by decide, xI, (hts _ (List.mem_of_getElem? (i := 1) rfl)), hE.1.2.2.2.2.1 (xA, xI) (by decide)⟩
      cases hz) (by decide) (by decide) (hts _ (List.mem_of_getElem? (i := 2) rfl)) (q_cast (List.mem_of_getElem? (i := 3) rfl) hE) (fun q9 H hP hS => ?_)
  refine lv_astore (lv' := [(4, .ref q9), (0, .ref (ad 0)), (1, .int (nI k)), (2, .int x), (3, .ref oa)]) hx hb dL_setStrength_17 hl (by decide) rfl (fun ls hl => ?_)
  refine lv_iconst (v := nI 2) hx hb dL_setStrength_19 (by decide) ?_
  exact q_wiret (()) hx hb hr hlocks hP hD hS dL_setStrength_20 rfl
set_option maxHeartbeats 4000000 in
set_option maxRecDepth 100000 in
theorem w_L_setStorm_1 {l : Launch} (hl0 : l.stackTraces = false) {g : gT} {sz : Nat} {oa : Nat} {f : Nat → Int64} {ad : Nat → Nat} {mc : Int32} {M : Nat} {sig : Nat → Int32} {z : sT} (hM : wM M (sn z)) (hV : VS z) {x y : Int32} (hx_ : ¬ inR x (20)) : WR (S := Unit) l yL_setStorm wsL_setStorm ({ frames := 7, cells := 1, slots := 6, locals := 113 } : Room) [.ref (ad 0), .int x, .int y, .ref oa] g (oW g oa (f) :: wC g ad mc M sig z) sz (fun _ : Unit => oW g oa (f) :: wC g ad mc M sig z) (fun _ => some (.int (nI 1))) 1 6 := by
  refine WR.ofX (cc := cL_setStorm) (maxL := 5) (ret := (some .int)) (hh := [(0, 10, 13, 19), (0, 10, 17, 13)]) (by decide) rfl (Nat.le_of_ble_eq_true rfl) ?_
  intro p e s m below meth c hx hb hml hr hlocks hown hts htab hsz hE0 hP hD ls hl
  subst hsz
  have hown : s.vm.findClass RL = some m.cls := hown
  have hA : ∀ q, s.heap.size ≤ q → va_A (oW g oa (f) :: wC g ad mc M sig z) s.heap.size q := fun q h => Or.inr h
  have hE := hE0
  have hS : va_S (va_A (oW g oa (f) :: wC g ad mc M sig z) s.heap.size) s.heap s.heap [] := va_S.rf
  have hl : lv_has ls 5 [(0, .ref (ad 0)), (1, .int x), (2, .int y), (3, .ref oa)] := hl
  refine lv_aload_n hx hb dL_setStorm_0 rfl (lv_at hl 3 rfl) ?_
  refine lv_iconst (v := nI 0) hx hb dL_setStorm_1 (by decide) ?_
  refine lv_aload_n hx hb dL_setStorm_2 rfl (lv_at hl 0 rfl) ?_
  refine lv_iload_n hx hb dL_setStorm_3 rfl (lv_at hl 1 rfl) ?_
  refine lv_iload_n hx hb dL_setStorm_4 rfl (lv_at hl 2 rfl) ?_
  refine q_thX (E := xI) (name := xI) (As := [.int x, .int y]) (rest := [.int (nI 0), .ref oa]) ⟨hx, hb, hml, hown, hts⟩ (ct_X3_setStorm_1 hl0 hM hV hx_) (cwV 2 hts gL_setStorm_X3_setStorm rfl rfl rfl (by decide +kernel) ⟨Nat.le_of_ble_eq_true rfl, Nat.le_of_ble_eq_true rfl⟩) hE (fun q h => hA q (Nat.le_trans hS.1 h)) (q_tl hP) (va_recv hE.K hP (ci := 4) (q0 := 1) rfl rfl) rfl hl.1 rfl (Nat.le_of_ble_eq_true rfl) dL_setStorm_5 ⟨Nat.le_of_ble_eq_true rfl, Nat.le_of_ble_eq_true rfl⟩ hP hS ([] : List ExceptionTableEntry) ⟨0, 10, 13, 19⟩ ([⟨0, 10, 17, 13⟩] : List ExceptionTableEntry) htab (fun z hz => nomatch hz) (by decide) (by decide) (hts _ (List.mem_of_getElem? (i := 1) rfl)) (q_cast (List.mem_of_getElem? (i := 2) rfl) hE) (fun q9 H hP hS => ?_)
  refine lv_astore (lv' := [(4, .ref q9), (0, .ref (ad 0)), (1, .int x), (2, .int y), (3, .ref oa)]) hx hb dL_setStorm_13 hl (by decide) rfl (fun ls hl => ?_)
  refine lv_iconst (v := nI 1) hx hb dL_setStorm_15 (by decide) ?_
  exact q_wiret (()) hx hb hr hlocks hP hD hS dL_setStorm_16 rfl
set_option maxHeartbeats 4000000 in
set_option maxRecDepth 100000 in
theorem w_L_setStorm_2 {l : Launch} (hl0 : l.stackTraces = false) {g : gT} {sz : Nat} {oa : Nat} {f : Nat → Int64} {ad : Nat → Nat} {mc : Int32} {M : Nat} {sig : Nat → Int32} {z : sT} (hM : wM M (sn z)) (hV : VS z) {p_ : Nat} {x : Int32} (hp_ : p_ < 20) (hx_ : ¬ inB x (-99) 99) : WR (S := Unit) l yL_setStorm wsL_setStorm ({ frames := 7, cells := 1, slots := 6, locals := 113 } : Room) [.ref (ad 0), .int (nI p_), .int x, .ref oa] g (oW g oa (f) :: wC g ad mc M sig z) sz (fun _ : Unit => oW g oa (f) :: wC g ad mc M sig z) (fun _ => some (.int (nI 2))) 1 6 := by
  refine WR.ofX (cc := cL_setStorm) (maxL := 5) (ret := (some .int)) (hh := [(0, 10, 13, 19), (0, 10, 17, 13)]) (by decide) rfl (Nat.le_of_ble_eq_true rfl) ?_
  intro p e s m below meth c hx hb hml hr hlocks hown hts htab hsz hE0 hP hD ls hl
  subst hsz
  have hown : s.vm.findClass RL = some m.cls := hown
  have hA : ∀ q, s.heap.size ≤ q → va_A (oW g oa (f) :: wC g ad mc M sig z) s.heap.size q := fun q h => Or.inr h
  have hE := hE0
  have hS : va_S (va_A (oW g oa (f) :: wC g ad mc M sig z) s.heap.size) s.heap s.heap [] := va_S.rf
  have hl : lv_has ls 5 [(0, .ref (ad 0)), (1, .int (nI p_)), (2, .int x), (3, .ref oa)] := hl
  refine lv_aload_n hx hb dL_setStorm_0 rfl (lv_at hl 3 rfl) ?_
  refine lv_iconst (v := nI 0) hx hb dL_setStorm_1 (by decide) ?_
  refine lv_aload_n hx hb dL_setStorm_2 rfl (lv_at hl 0 rfl) ?_
  refine lv_iload_n hx hb dL_setStorm_3 rfl (lv_at hl 1 rfl) ?_
  refine lv_iload_n hx hb dL_setStorm_4 rfl (lv_at hl 2 rfl) ?_
  refine q_thX (E := xA) (name := xA) (As := [.int (nI p_), .int x]) (rest := [.int (nI 0), .ref oa]) ⟨hx, hb, hml, hown, hts⟩ (ct_X3_setStorm_2 hl0 hM hV hp_ hx_) (cwV 2 hts gL_setStorm_X3_setStorm rfl rfl rfl (by decide +kernel) ⟨Nat.le_of_ble_eq_true rfl, Nat.le_of_ble_eq_true rfl⟩) hE (fun q h => hA q (Nat.le_trans hS.1 h)) (q_tl hP) (va_recv hE.K hP (ci := 4) (q0 := 1) rfl rfl) rfl hl.1 rfl (Nat.le_of_ble_eq_true rfl) dL_setStorm_5 ⟨Nat.le_of_ble_eq_true rfl, Nat.le_of_ble_eq_true rfl⟩ hP hS ([⟨0, 10, 13, 19⟩] : List ExceptionTableEntry) ⟨0, 10, 17, 13⟩ ([] : List ExceptionTableEntry) htab (fun z hz => by
      have hz : z ∈ ([⟨0, 10, 13, 19⟩] : List ExceptionTableEntry) := hz
      rcases List.mem_cons.mp hz with rfl | hz
      · exact Or.inr ⟨by decide, xI, (hts _ (List.mem_of_getElem? (i := 1) rfl)), hE.1.2.2.2.2.1 (xA, xI) (by decide)⟩
      cases hz) (by decide) (by decide) (hts _ (List.mem_of_getElem? (i := 2) rfl)) (q_cast (List.mem_of_getElem? (i := 3) rfl) hE) (fun q9 H hP hS => ?_)
  refine lv_astore (lv' := [(4, .ref q9), (0, .ref (ad 0)), (1, .int (nI p_)), (2, .int x), (3, .ref oa)]) hx hb dL_setStorm_17 hl (by decide) rfl (fun ls hl => ?_)
  refine lv_iconst (v := nI 2) hx hb dL_setStorm_19 (by decide) ?_
  exact q_wiret (()) hx hb hr hlocks hP hD hS dL_setStorm_20 rfl
set_option maxHeartbeats 4000000 in
set_option maxRecDepth 100000 in
theorem w_L_chip_1 {l : Launch} (hl0 : l.stackTraces = false) {g : gT} {sz : Nat} {oa : Nat} {f : Nat → Int64} {ad : Nat → Nat} {mc : Int32} {M : Nat} {sig : Nat → Int32} {z : sT} (hM : wM M (sn z)) (hV : VS z) {x y : Int32} (hx_ : ¬ inR x (sL z)) : WR (S := Unit) l yL_chip wsL_chip ({ frames := 8, cells := 1, slots := 6, locals := 133 } : Room) [.ref (ad 0), .int x, .int y, .ref oa] g (oW g oa (f) :: wC g ad mc M sig z) sz (fun _ : Unit => oW g oa (f) :: wC g ad mc M sig z) (fun _ => some (.int (nI 1))) 1 6 := by
  refine WR.ofX (cc := cL_chip) (maxL := 5) (ret := (some .int)) (hh := [(0, 10, 13, 19)]) (by decide) rfl (Nat.le_of_ble_eq_true rfl) ?_
  intro p e s m below meth c hx hb hml hr hlocks hown hts htab hsz hE0 hP hD ls hl
  subst hsz
  have hown : s.vm.findClass RL = some m.cls := hown
  have hA : ∀ q, s.heap.size ≤ q → va_A (oW g oa (f) :: wC g ad mc M sig z) s.heap.size q := fun q h => Or.inr h
  have hE := hE0
  have hS : va_S (va_A (oW g oa (f) :: wC g ad mc M sig z) s.heap.size) s.heap s.heap [] := va_S.rf
  have hl : lv_has ls 5 [(0, .ref (ad 0)), (1, .int x), (2, .int y), (3, .ref oa)] := hl
  refine lv_aload_n hx hb dL_chip_0 rfl (lv_at hl 3 rfl) ?_
  refine lv_iconst (v := nI 0) hx hb dL_chip_1 (by decide) ?_
  refine lv_aload_n hx hb dL_chip_2 rfl (lv_at hl 0 rfl) ?_
  refine lv_iload_n hx hb dL_chip_3 rfl (lv_at hl 1 rfl) ?_
  refine lv_iload_n hx hb dL_chip_4 rfl (lv_at hl 2 rfl) ?_
  refine q_thX (E := xI) (name := xI) (As := [.int x, .int y]) (rest := [.int (nI 0), .ref oa]) ⟨hx, hb, hml, hown, hts⟩ (ct_X3_chip_1 hl0 hM hV hx_) (cwV 2 hts gL_chip_X3_chip rfl rfl rfl (by decide +kernel) ⟨Nat.le_of_ble_eq_true rfl, Nat.le_of_ble_eq_true rfl⟩) hE (fun q h => hA q (Nat.le_trans hS.1 h)) (q_tl hP) (va_recv hE.K hP (ci := 4) (q0 := 1) rfl rfl) rfl hl.1 rfl (Nat.le_of_ble_eq_true rfl) dL_chip_5 ⟨Nat.le_of_ble_eq_true rfl, Nat.le_of_ble_eq_true rfl⟩ hP hS ([] : List ExceptionTableEntry) ⟨0, 10, 13, 19⟩ ([] : List ExceptionTableEntry) htab (fun z hz => nomatch hz) (by decide) (by decide) (hts _ (List.mem_of_getElem? (i := 1) rfl)) (q_cast (List.mem_of_getElem? (i := 2) rfl) hE) (fun q9 H hP hS => ?_)
  refine lv_astore (lv' := [(4, .ref q9), (0, .ref (ad 0)), (1, .int x), (2, .int y), (3, .ref oa)]) hx hb dL_chip_13 hl (by decide) rfl (fun ls hl => ?_)
  refine lv_iconst (v := nI 1) hx hb dL_chip_15 (by decide) ?_
  exact q_wiret (()) hx hb hr hlocks hP hD hS dL_chip_16 rfl
set_option maxHeartbeats 4000000 in
set_option maxRecDepth 100000 in
theorem w_L_chip_2 {l : Launch} (hl0 : l.stackTraces = false) {g : gT} {sz : Nat} {oa : Nat} {f : Nat → Int64} {ad : Nat → Nat} {mc : Int32} {M : Nat} {sig : Nat → Int32} {z : sT} (hM : wM M (sn z)) (hV : VS z) {a : Nat} {x : Int32} (ha_ : a < sL z) (hx_ : ¬ inR x (sL z)) : WR (S := Unit) l yL_chip wsL_chip ({ frames := 7, cells := 1, slots := 6, locals := 112 } : Room) [.ref (ad 0), .int (nI a), .int x, .ref oa] g (oW g oa (f) :: wC g ad mc M sig z) sz (fun _ : Unit => oW g oa (f) :: wC g ad mc M sig z) (fun _ => some (.int (nI 1))) 1 6 := by
  refine WR.ofX (cc := cL_chip) (maxL := 5) (ret := (some .int)) (hh := [(0, 10, 13, 19)]) (by decide) rfl (Nat.le_of_ble_eq_true rfl) ?_
  intro p e s m below meth c hx hb hml hr hlocks hown hts htab hsz hE0 hP hD ls hl
  subst hsz
  have hown : s.vm.findClass RL = some m.cls := hown
  have hA : ∀ q, s.heap.size ≤ q → va_A (oW g oa (f) :: wC g ad mc M sig z) s.heap.size q := fun q h => Or.inr h
  have hE := hE0
  have hS : va_S (va_A (oW g oa (f) :: wC g ad mc M sig z) s.heap.size) s.heap s.heap [] := va_S.rf
  have hl : lv_has ls 5 [(0, .ref (ad 0)), (1, .int (nI a)), (2, .int x), (3, .ref oa)] := hl
  refine lv_aload_n hx hb dL_chip_0 rfl (lv_at hl 3 rfl) ?_
  refine lv_iconst (v := nI 0) hx hb dL_chip_1 (by decide) ?_
  refine lv_aload_n hx hb dL_chip_2 rfl (lv_at hl 0 rfl) ?_
  refine lv_iload_n hx hb dL_chip_3 rfl (lv_at hl 1 rfl) ?_
  refine lv_iload_n hx hb dL_chip_4 rfl (lv_at hl 2 rfl) ?_
  refine q_thX (E := xI) (name := xI) (As := [.int (nI a), .int x]) (rest := [.int (nI 0), .ref oa]) ⟨hx, hb, hml, hown, hts⟩ (ct_X3_chip_2 hl0 hM hV ha_ hx_) (cwV 2 hts gL_chip_X3_chip rfl rfl rfl (by decide +kernel) ⟨Nat.le_of_ble_eq_true rfl, Nat.le_of_ble_eq_true rfl⟩) hE (fun q h => hA q (Nat.le_trans hS.1 h)) (q_tl hP) (va_recv hE.K hP (ci := 4) (q0 := 1) rfl rfl) rfl hl.1 rfl (Nat.le_of_ble_eq_true rfl) dL_chip_5 ⟨Nat.le_of_ble_eq_true rfl, Nat.le_of_ble_eq_true rfl⟩ hP hS ([] : List ExceptionTableEntry) ⟨0, 10, 13, 19⟩ ([] : List ExceptionTableEntry) htab (fun z hz => nomatch hz) (by decide) (by decide) (hts _ (List.mem_of_getElem? (i := 1) rfl)) (q_cast (List.mem_of_getElem? (i := 2) rfl) hE) (fun q9 H hP hS => ?_)
  refine lv_astore (lv' := [(4, .ref q9), (0, .ref (ad 0)), (1, .int (nI a)), (2, .int x), (3, .ref oa)]) hx hb dL_chip_13 hl (by decide) rfl (fun ls hl => ?_)
  refine lv_iconst (v := nI 1) hx hb dL_chip_15 (by decide) ?_
  exact q_wiret (()) hx hb hr hlocks hP hD hS dL_chip_16 rfl
set_option maxHeartbeats 4000000 in
set_option maxRecDepth 100000 in
theorem w_L_sky_1 {l : Launch} (hl0 : l.stackTraces = false) {g : gT} {sz : Nat} {oa : Nat} {f : Nat → Int64} {ad : Nat → Nat} {mc : Int32} {M : Nat} {sig : Nat → Int32} {z : sT} (hM : wM M (sn z)) (hV : VS z) {x : Int32} (hx_ : ¬ inR x (1000)) : WR (S := Unit) l yL_sky wsL_sky ({ frames := 8, cells := 1, slots := 6, locals := 132 } : Room) [.ref (ad 0), .int x, .ref oa] g (oW g oa (f) :: wC g ad mc M sig z) sz (fun _ : Unit => oW g oa (f) :: wC g ad mc M sig z) (fun _ => some (.int (nI 1))) 1 6 := by
  refine WR.ofX (cc := cL_sky) (maxL := 4) (ret := (some .int)) (hh := [(0, 9, 12, 13)]) (by decide) rfl (Nat.le_of_ble_eq_true rfl) ?_
  intro p e s m below meth c hx hb hml hr hlocks hown hts htab hsz hE0 hP hD ls hl
  subst hsz
  have hown : s.vm.findClass RL = some m.cls := hown
  have hA : ∀ q, s.heap.size ≤ q → va_A (oW g oa (f) :: wC g ad mc M sig z) s.heap.size q := fun q h => Or.inr h
  have hE := hE0
  have hS : va_S (va_A (oW g oa (f) :: wC g ad mc M sig z) s.heap.size) s.heap s.heap [] := va_S.rf
  have hl : lv_has ls 4 [(0, .ref (ad 0)), (1, .int x), (2, .ref oa)] := hl
  refine lv_aload_n hx hb dL_sky_0 rfl (lv_at hl 2 rfl) ?_
  refine lv_iconst (v := nI 0) hx hb dL_sky_1 (by decide) ?_
  refine lv_aload_n hx hb dL_sky_2 rfl (lv_at hl 0 rfl) ?_
  refine lv_iload_n hx hb dL_sky_3 rfl (lv_at hl 1 rfl) ?_
  refine q_thX (E := xA) (name := xA) (As := [.int x]) (rest := [.int (nI 0), .ref oa]) ⟨hx, hb, hml, hown, hts⟩ (ct_X3_sky_1 hl0 hM hV hx_) (cwV 1 hts gL_sky_X3_sky rfl rfl rfl (by decide +kernel) ⟨Nat.le_of_ble_eq_true rfl, Nat.le_of_ble_eq_true rfl⟩) hE (fun q h => hA q (Nat.le_trans hS.1 h)) (q_tl hP) (va_recv hE.K hP (ci := 4) (q0 := 1) rfl rfl) rfl hl.1 rfl (Nat.le_of_ble_eq_true rfl) dL_sky_4 ⟨Nat.le_of_ble_eq_true rfl, Nat.le_of_ble_eq_true rfl⟩ hP hS ([] : List ExceptionTableEntry) ⟨0, 9, 12, 13⟩ ([] : List ExceptionTableEntry) htab (fun z hz => nomatch hz) (by decide) (by decide) (hts _ (List.mem_of_getElem? (i := 1) rfl)) (q_cast (List.mem_of_getElem? (i := 3) rfl) hE) (fun q9 H hP hS => ?_)
  refine lv_astore_n (lv' := [(3, .ref q9), (0, .ref (ad 0)), (1, .int x), (2, .ref oa)]) hx hb dL_sky_12 rfl hl (by decide) rfl (fun ls hl => ?_)
  refine lv_iconst (v := nI 1) hx hb dL_sky_13 (by decide) ?_
  exact q_wiret (()) hx hb hr hlocks hP hD hS dL_sky_14 rfl
set_option maxHeartbeats 4000000 in
set_option maxRecDepth 100000 in
theorem w_L_hear_1 {l : Launch} (hl0 : l.stackTraces = false) {g : gT} {sz : Nat} {oa : Nat} {f : Nat → Int64} {ad : Nat → Nat} {mc : Int32} {M : Nat} {sig : Nat → Int32} {z : sT} (hM : wM M (sn z)) (hV : VS z) {x y : Int32} (hx_ : ¬ inR x (sL z)) : WR (S := Unit) l yL_hear wsL_hear ({ frames := 8, cells := 1, slots := 6, locals := 133 } : Room) [.ref (ad 0), .int x, .int y, .ref oa] g (oW g oa (f) :: wC g ad mc M sig z) sz (fun _ : Unit => oW g oa (f) :: wC g ad mc M sig z) (fun _ => some (.int (nI 1))) 1 6 := by
  refine WR.ofX (cc := cL_hear) (maxL := 5) (ret := (some .int)) (hh := [(0, 10, 13, 19), (0, 10, 17, 13)]) (by decide) rfl (Nat.le_of_ble_eq_true rfl) ?_
  intro p e s m below meth c hx hb hml hr hlocks hown hts htab hsz hE0 hP hD ls hl
  subst hsz
  have hown : s.vm.findClass RL = some m.cls := hown
  have hA : ∀ q, s.heap.size ≤ q → va_A (oW g oa (f) :: wC g ad mc M sig z) s.heap.size q := fun q h => Or.inr h
  have hE := hE0
  have hS : va_S (va_A (oW g oa (f) :: wC g ad mc M sig z) s.heap.size) s.heap s.heap [] := va_S.rf
  have hl : lv_has ls 5 [(0, .ref (ad 0)), (1, .int x), (2, .int y), (3, .ref oa)] := hl
  refine lv_aload_n hx hb dL_hear_0 rfl (lv_at hl 3 rfl) ?_
  refine lv_iconst (v := nI 0) hx hb dL_hear_1 (by decide) ?_
  refine lv_aload_n hx hb dL_hear_2 rfl (lv_at hl 0 rfl) ?_
  refine lv_iload_n hx hb dL_hear_3 rfl (lv_at hl 1 rfl) ?_
  refine lv_iload_n hx hb dL_hear_4 rfl (lv_at hl 2 rfl) ?_
  refine q_thX (E := xI) (name := xI) (As := [.int x, .int y]) (rest := [.int (nI 0), .ref oa]) ⟨hx, hb, hml, hown, hts⟩ (ct_X3_hear_1 hl0 hM hV hx_) (cwV 2 hts gL_hear_X3_hear rfl rfl rfl (by decide +kernel) ⟨Nat.le_of_ble_eq_true rfl, Nat.le_of_ble_eq_true rfl⟩) hE (fun q h => hA q (Nat.le_trans hS.1 h)) (q_tl hP) (va_recv hE.K hP (ci := 4) (q0 := 1) rfl rfl) rfl hl.1 rfl (Nat.le_of_ble_eq_true rfl) dL_hear_5 ⟨Nat.le_of_ble_eq_true rfl, Nat.le_of_ble_eq_true rfl⟩ hP hS ([] : List ExceptionTableEntry) ⟨0, 10, 13, 19⟩ ([⟨0, 10, 17, 13⟩] : List ExceptionTableEntry) htab (fun z hz => nomatch hz) (by decide) (by decide) (hts _ (List.mem_of_getElem? (i := 1) rfl)) (q_cast (List.mem_of_getElem? (i := 2) rfl) hE) (fun q9 H hP hS => ?_)
  refine lv_astore (lv' := [(4, .ref q9), (0, .ref (ad 0)), (1, .int x), (2, .int y), (3, .ref oa)]) hx hb dL_hear_13 hl (by decide) rfl (fun ls hl => ?_)
  refine lv_iconst (v := nI 1) hx hb dL_hear_15 (by decide) ?_
  exact q_wiret (()) hx hb hr hlocks hP hD hS dL_hear_16 rfl
set_option maxHeartbeats 4000000 in
set_option maxRecDepth 100000 in
theorem w_L_hear_2 {l : Launch} (hl0 : l.stackTraces = false) {g : gT} {sz : Nat} {oa : Nat} {f : Nat → Int64} {ad : Nat → Nat} {mc : Int32} {M : Nat} {sig : Nat → Int32} {z : sT} (hM : wM M (sn z)) (hV : VS z) {a : Nat} {x : Int32} (ha_ : a < sL z) (hx_ : ¬ inR x (1000)) : WR (S := Unit) l yL_hear wsL_hear ({ frames := 8, cells := 1, slots := 6, locals := 133 } : Room) [.ref (ad 0), .int (nI a), .int x, .ref oa] g (oW g oa (f) :: wC g ad mc M sig z) sz (fun _ : Unit => oW g oa (f) :: wC g ad mc M sig z) (fun _ => some (.int (nI 2))) 1 6 := by
  refine WR.ofX (cc := cL_hear) (maxL := 5) (ret := (some .int)) (hh := [(0, 10, 13, 19), (0, 10, 17, 13)]) (by decide) rfl (Nat.le_of_ble_eq_true rfl) ?_
  intro p e s m below meth c hx hb hml hr hlocks hown hts htab hsz hE0 hP hD ls hl
  subst hsz
  have hown : s.vm.findClass RL = some m.cls := hown
  have hA : ∀ q, s.heap.size ≤ q → va_A (oW g oa (f) :: wC g ad mc M sig z) s.heap.size q := fun q h => Or.inr h
  have hE := hE0
  have hS : va_S (va_A (oW g oa (f) :: wC g ad mc M sig z) s.heap.size) s.heap s.heap [] := va_S.rf
  have hl : lv_has ls 5 [(0, .ref (ad 0)), (1, .int (nI a)), (2, .int x), (3, .ref oa)] := hl
  refine lv_aload_n hx hb dL_hear_0 rfl (lv_at hl 3 rfl) ?_
  refine lv_iconst (v := nI 0) hx hb dL_hear_1 (by decide) ?_
  refine lv_aload_n hx hb dL_hear_2 rfl (lv_at hl 0 rfl) ?_
  refine lv_iload_n hx hb dL_hear_3 rfl (lv_at hl 1 rfl) ?_
  refine lv_iload_n hx hb dL_hear_4 rfl (lv_at hl 2 rfl) ?_
  refine q_thX (E := xA) (name := xA) (As := [.int (nI a), .int x]) (rest := [.int (nI 0), .ref oa]) ⟨hx, hb, hml, hown, hts⟩ (ct_X3_hear_2 hl0 hM hV ha_ hx_) (cwV 2 hts gL_hear_X3_hear rfl rfl rfl (by decide +kernel) ⟨Nat.le_of_ble_eq_true rfl, Nat.le_of_ble_eq_true rfl⟩) hE (fun q h => hA q (Nat.le_trans hS.1 h)) (q_tl hP) (va_recv hE.K hP (ci := 4) (q0 := 1) rfl rfl) rfl hl.1 rfl (Nat.le_of_ble_eq_true rfl) dL_hear_5 ⟨Nat.le_of_ble_eq_true rfl, Nat.le_of_ble_eq_true rfl⟩ hP hS ([⟨0, 10, 13, 19⟩] : List ExceptionTableEntry) ⟨0, 10, 17, 13⟩ ([] : List ExceptionTableEntry) htab (fun z hz => by
      have hz : z ∈ ([⟨0, 10, 13, 19⟩] : List ExceptionTableEntry) := hz
      rcases List.mem_cons.mp hz with rfl | hz
      · exact Or.inr ⟨by decide, xI, (hts _ (List.mem_of_getElem? (i := 1) rfl)), hE.1.2.2.2.2.1 (xA, xI) (by decide)⟩
      cases hz) (by decide) (by decide) (hts _ (List.mem_of_getElem? (i := 2) rfl)) (q_cast (List.mem_of_getElem? (i := 3) rfl) hE) (fun q9 H hP hS => ?_)
  refine lv_astore (lv' := [(4, .ref q9), (0, .ref (ad 0)), (1, .int (nI a)), (2, .int x), (3, .ref oa)]) hx hb dL_hear_17 hl (by decide) rfl (fun ls hl => ?_)
  refine lv_iconst (v := nI 2) hx hb dL_hear_19 (by decide) ?_
  exact q_wiret (()) hx hb hr hlocks hP hD hS dL_hear_20 rfl
set_option maxHeartbeats 4000000 in
set_option maxRecDepth 100000 in
theorem w_L_word_1 {l : Launch} (hl0 : l.stackTraces = false) {g : gT} {sz : Nat} {oa : Nat} {f : Nat → Int64} {ad : Nat → Nat} {mc : Int32} {M : Nat} {sig : Nat → Int32} {z : sT} (hM : wM M (sn z)) (hV : VS z) {x y u : Int32} (hx_ : ¬ inR x (sn z)) : WR (S := Unit) l yL_word wsL_word ({ frames := 8, cells := 1, slots := 6, locals := 135 } : Room) [.ref (ad 0), .int x, .int y, .int u, .ref oa] g (oW g oa (f) :: wC g ad mc M sig z) sz (fun _ : Unit => oW g oa (f) :: wC g ad mc M sig z) (fun _ => some (.int (nI 1))) 1 6 := by
  refine WR.ofX (cc := cL_word) (maxL := 6) (ret := (some .int)) (hh := [(0, 12, 15, 19)]) (by decide) rfl (Nat.le_of_ble_eq_true rfl) ?_
  intro p e s m below meth c hx hb hml hr hlocks hown hts htab hsz hE0 hP hD ls hl
  subst hsz
  have hown : s.vm.findClass RL = some m.cls := hown
  have hA : ∀ q, s.heap.size ≤ q → va_A (oW g oa (f) :: wC g ad mc M sig z) s.heap.size q := fun q h => Or.inr h
  have hE := hE0
  have hS : va_S (va_A (oW g oa (f) :: wC g ad mc M sig z) s.heap.size) s.heap s.heap [] := va_S.rf
  have hl : lv_has ls 6 [(0, .ref (ad 0)), (1, .int x), (2, .int y), (3, .int u), (4, .ref oa)] := hl
  refine lv_aload hx hb dL_word_0 (lv_at hl 4 rfl) ?_
  refine lv_iconst (v := nI 0) hx hb dL_word_2 (by decide) ?_
  refine lv_aload_n hx hb dL_word_3 rfl (lv_at hl 0 rfl) ?_
  refine lv_iload_n hx hb dL_word_4 rfl (lv_at hl 1 rfl) ?_
  refine lv_iload_n hx hb dL_word_5 rfl (lv_at hl 2 rfl) ?_
  refine lv_iload_n hx hb dL_word_6 rfl (lv_at hl 3 rfl) ?_
  refine q_thX (E := xI) (name := xI) (As := [.int x, .int y, .int u]) (rest := [.int (nI 0), .ref oa]) ⟨hx, hb, hml, hown, hts⟩ (ct_X3_word_1 hl0 hM hV hx_) (cwV 3 hts gL_word_X3_word rfl rfl rfl (by decide +kernel) ⟨Nat.le_of_ble_eq_true rfl, Nat.le_of_ble_eq_true rfl⟩) hE (fun q h => hA q (Nat.le_trans hS.1 h)) (q_tl hP) (va_recv hE.K hP (ci := 4) (q0 := 1) rfl rfl) rfl hl.1 rfl (Nat.le_of_ble_eq_true rfl) dL_word_7 ⟨Nat.le_of_ble_eq_true rfl, Nat.le_of_ble_eq_true rfl⟩ hP hS ([] : List ExceptionTableEntry) ⟨0, 12, 15, 19⟩ ([] : List ExceptionTableEntry) htab (fun z hz => nomatch hz) (by decide) (by decide) (hts _ (List.mem_of_getElem? (i := 1) rfl)) (q_cast (List.mem_of_getElem? (i := 2) rfl) hE) (fun q9 H hP hS => ?_)
  refine lv_astore (lv' := [(5, .ref q9), (0, .ref (ad 0)), (1, .int x), (2, .int y), (3, .int u), (4, .ref oa)]) hx hb dL_word_15 hl (by decide) rfl (fun ls hl => ?_)
  refine lv_iconst (v := nI 1) hx hb dL_word_17 (by decide) ?_
  exact q_wiret (()) hx hb hr hlocks hP hD hS dL_word_18 rfl
set_option maxHeartbeats 4000000 in
set_option maxRecDepth 100000 in
theorem w_L_word_2 {l : Launch} (hl0 : l.stackTraces = false) {g : gT} {sz : Nat} {oa : Nat} {f : Nat → Int64} {ad : Nat → Nat} {mc : Int32} {M : Nat} {sig : Nat → Int32} {z : sT} (hM : wM M (sn z)) (hV : VS z) {k : Nat} {x u : Int32} (hk_ : k < sn z) (hx_ : ¬ inR x (ssd z k)) : WR (S := Unit) l yL_word wsL_word ({ frames := 7, cells := 1, slots := 6, locals := 114 } : Room) [.ref (ad 0), .int (nI k), .int x, .int u, .ref oa] g (oW g oa (f) :: wC g ad mc M sig z) sz (fun _ : Unit => oW g oa (f) :: wC g ad mc M sig z) (fun _ => some (.int (nI 1))) 1 6 := by
  refine WR.ofX (cc := cL_word) (maxL := 6) (ret := (some .int)) (hh := [(0, 12, 15, 19)]) (by decide) rfl (Nat.le_of_ble_eq_true rfl) ?_
  intro p e s m below meth c hx hb hml hr hlocks hown hts htab hsz hE0 hP hD ls hl
  subst hsz
  have hown : s.vm.findClass RL = some m.cls := hown
  have hA : ∀ q, s.heap.size ≤ q → va_A (oW g oa (f) :: wC g ad mc M sig z) s.heap.size q := fun q h => Or.inr h
  have hE := hE0
  have hS : va_S (va_A (oW g oa (f) :: wC g ad mc M sig z) s.heap.size) s.heap s.heap [] := va_S.rf
  have hl : lv_has ls 6 [(0, .ref (ad 0)), (1, .int (nI k)), (2, .int x), (3, .int u), (4, .ref oa)] := hl
  refine lv_aload hx hb dL_word_0 (lv_at hl 4 rfl) ?_
  refine lv_iconst (v := nI 0) hx hb dL_word_2 (by decide) ?_
  refine lv_aload_n hx hb dL_word_3 rfl (lv_at hl 0 rfl) ?_
  refine lv_iload_n hx hb dL_word_4 rfl (lv_at hl 1 rfl) ?_
  refine lv_iload_n hx hb dL_word_5 rfl (lv_at hl 2 rfl) ?_
  refine lv_iload_n hx hb dL_word_6 rfl (lv_at hl 3 rfl) ?_
  refine q_thX (E := xI) (name := xI) (As := [.int (nI k), .int x, .int u]) (rest := [.int (nI 0), .ref oa]) ⟨hx, hb, hml, hown, hts⟩ (ct_X3_word_2 hl0 hM hV hk_ hx_) (cwV 3 hts gL_word_X3_word rfl rfl rfl (by decide +kernel) ⟨Nat.le_of_ble_eq_true rfl, Nat.le_of_ble_eq_true rfl⟩) hE (fun q h => hA q (Nat.le_trans hS.1 h)) (q_tl hP) (va_recv hE.K hP (ci := 4) (q0 := 1) rfl rfl) rfl hl.1 rfl (Nat.le_of_ble_eq_true rfl) dL_word_7 ⟨Nat.le_of_ble_eq_true rfl, Nat.le_of_ble_eq_true rfl⟩ hP hS ([] : List ExceptionTableEntry) ⟨0, 12, 15, 19⟩ ([] : List ExceptionTableEntry) htab (fun z hz => nomatch hz) (by decide) (by decide) (hts _ (List.mem_of_getElem? (i := 1) rfl)) (q_cast (List.mem_of_getElem? (i := 2) rfl) hE) (fun q9 H hP hS => ?_)
  refine lv_astore (lv' := [(5, .ref q9), (0, .ref (ad 0)), (1, .int (nI k)), (2, .int x), (3, .int u), (4, .ref oa)]) hx hb dL_word_15 hl (by decide) rfl (fun ls hl => ?_)
  refine lv_iconst (v := nI 1) hx hb dL_word_17 (by decide) ?_
  exact q_wiret (()) hx hb hr hlocks hP hD hS dL_word_18 rfl
set_option maxHeartbeats 4000000 in
set_option maxRecDepth 100000 in
theorem w_L_word_3 {l : Launch} (hl0 : l.stackTraces = false) {g : gT} {sz : Nat} {oa : Nat} {f : Nat → Int64} {ad : Nat → Nat} {mc : Int32} {M : Nat} {sig : Nat → Int32} {z : sT} (hM : wM M (sn z)) (hV : VS z) {k w : Nat} {x : Int32} (hk_ : k < sn z) (hw_ : w < ssd z k) (hx_ : ¬ inR x (3)) : WR (S := Unit) l yL_word wsL_word ({ frames := 7, cells := 1, slots := 6, locals := 114 } : Room) [.ref (ad 0), .int (nI k), .int (nI w), .int x, .ref oa] g (oW g oa (f) :: wC g ad mc M sig z) sz (fun _ : Unit => oW g oa (f) :: wC g ad mc M sig z) (fun _ => some (.int (nI 1))) 1 6 := by
  refine WR.ofX (cc := cL_word) (maxL := 6) (ret := (some .int)) (hh := [(0, 12, 15, 19)]) (by decide) rfl (Nat.le_of_ble_eq_true rfl) ?_
  intro p e s m below meth c hx hb hml hr hlocks hown hts htab hsz hE0 hP hD ls hl
  subst hsz
  have hown : s.vm.findClass RL = some m.cls := hown
  have hA : ∀ q, s.heap.size ≤ q → va_A (oW g oa (f) :: wC g ad mc M sig z) s.heap.size q := fun q h => Or.inr h
  have hE := hE0
  have hS : va_S (va_A (oW g oa (f) :: wC g ad mc M sig z) s.heap.size) s.heap s.heap [] := va_S.rf
  have hl : lv_has ls 6 [(0, .ref (ad 0)), (1, .int (nI k)), (2, .int (nI w)), (3, .int x), (4, .ref oa)] := hl
  refine lv_aload hx hb dL_word_0 (lv_at hl 4 rfl) ?_
  refine lv_iconst (v := nI 0) hx hb dL_word_2 (by decide) ?_
  refine lv_aload_n hx hb dL_word_3 rfl (lv_at hl 0 rfl) ?_
  refine lv_iload_n hx hb dL_word_4 rfl (lv_at hl 1 rfl) ?_
  refine lv_iload_n hx hb dL_word_5 rfl (lv_at hl 2 rfl) ?_
  refine lv_iload_n hx hb dL_word_6 rfl (lv_at hl 3 rfl) ?_
  refine q_thX (E := xI) (name := xI) (As := [.int (nI k), .int (nI w), .int x]) (rest := [.int (nI 0), .ref oa]) ⟨hx, hb, hml, hown, hts⟩ (ct_X3_word_3 hl0 hM hV hk_ hw_ hx_) (cwV 3 hts gL_word_X3_word rfl rfl rfl (by decide +kernel) ⟨Nat.le_of_ble_eq_true rfl, Nat.le_of_ble_eq_true rfl⟩) hE (fun q h => hA q (Nat.le_trans hS.1 h)) (q_tl hP) (va_recv hE.K hP (ci := 4) (q0 := 1) rfl rfl) rfl hl.1 rfl (Nat.le_of_ble_eq_true rfl) dL_word_7 ⟨Nat.le_of_ble_eq_true rfl, Nat.le_of_ble_eq_true rfl⟩ hP hS ([] : List ExceptionTableEntry) ⟨0, 12, 15, 19⟩ ([] : List ExceptionTableEntry) htab (fun z hz => nomatch hz) (by decide) (by decide) (hts _ (List.mem_of_getElem? (i := 1) rfl)) (q_cast (List.mem_of_getElem? (i := 2) rfl) hE) (fun q9 H hP hS => ?_)
  refine lv_astore (lv' := [(5, .ref q9), (0, .ref (ad 0)), (1, .int (nI k)), (2, .int (nI w)), (3, .int x), (4, .ref oa)]) hx hb dL_word_15 hl (by decide) rfl (fun ls hl => ?_)
  refine lv_iconst (v := nI 1) hx hb dL_word_17 (by decide) ?_
  exact q_wiret (()) hx hb hr hlocks hP hD hS dL_word_18 rfl
set_option maxHeartbeats 4000000 in
set_option maxRecDepth 100000 in
theorem w_L_about_1 {l : Launch} (hl0 : l.stackTraces = false) {g : gT} {sz : Nat} {oa : Nat} {f : Nat → Int64} {ad : Nat → Nat} {mc : Int32} {M : Nat} {sig : Nat → Int32} {z : sT} (hM : wM M (sn z)) (hV : VS z) {x y : Int32} (hx_ : ¬ inR x (sn z)) : WR (S := Unit) l yL_about wsL_about ({ frames := 8, cells := 1, slots := 6, locals := 134 } : Room) [.ref (ad 0), .int x, .int y, .ref oa] g (oW g oa (f) :: wC g ad mc M sig z) sz (fun _ : Unit => oW g oa (f) :: wC g ad mc M sig z) (fun _ => some (.int (nI 1))) 1 6 := by
  refine WR.ofX (cc := cL_about) (maxL := 5) (ret := (some .int)) (hh := [(0, 10, 13, 19)]) (by decide) rfl (Nat.le_of_ble_eq_true rfl) ?_
  intro p e s m below meth c hx hb hml hr hlocks hown hts htab hsz hE0 hP hD ls hl
  subst hsz
  have hown : s.vm.findClass RL = some m.cls := hown
  have hA : ∀ q, s.heap.size ≤ q → va_A (oW g oa (f) :: wC g ad mc M sig z) s.heap.size q := fun q h => Or.inr h
  have hE := hE0
  have hS : va_S (va_A (oW g oa (f) :: wC g ad mc M sig z) s.heap.size) s.heap s.heap [] := va_S.rf
  have hl : lv_has ls 5 [(0, .ref (ad 0)), (1, .int x), (2, .int y), (3, .ref oa)] := hl
  refine lv_aload_n hx hb dL_about_0 rfl (lv_at hl 3 rfl) ?_
  refine lv_iconst (v := nI 0) hx hb dL_about_1 (by decide) ?_
  refine lv_aload_n hx hb dL_about_2 rfl (lv_at hl 0 rfl) ?_
  refine lv_iload_n hx hb dL_about_3 rfl (lv_at hl 1 rfl) ?_
  refine lv_iload_n hx hb dL_about_4 rfl (lv_at hl 2 rfl) ?_
  refine q_thX (E := xI) (name := xI) (As := [.int x, .int y]) (rest := [.int (nI 0), .ref oa]) ⟨hx, hb, hml, hown, hts⟩ (ct_X3_about_1 hl0 hM hV hx_) (cwV 2 hts gL_about_X3_about rfl rfl rfl (by decide +kernel) ⟨Nat.le_of_ble_eq_true rfl, Nat.le_of_ble_eq_true rfl⟩) hE (fun q h => hA q (Nat.le_trans hS.1 h)) (q_tl hP) (va_recv hE.K hP (ci := 4) (q0 := 1) rfl rfl) rfl hl.1 rfl (Nat.le_of_ble_eq_true rfl) dL_about_5 ⟨Nat.le_of_ble_eq_true rfl, Nat.le_of_ble_eq_true rfl⟩ hP hS ([] : List ExceptionTableEntry) ⟨0, 10, 13, 19⟩ ([] : List ExceptionTableEntry) htab (fun z hz => nomatch hz) (by decide) (by decide) (hts _ (List.mem_of_getElem? (i := 1) rfl)) (q_cast (List.mem_of_getElem? (i := 2) rfl) hE) (fun q9 H hP hS => ?_)
  refine lv_astore (lv' := [(4, .ref q9), (0, .ref (ad 0)), (1, .int x), (2, .int y), (3, .ref oa)]) hx hb dL_about_13 hl (by decide) rfl (fun ls hl => ?_)
  refine lv_iconst (v := nI 1) hx hb dL_about_15 (by decide) ?_
  exact q_wiret (()) hx hb hr hlocks hP hD hS dL_about_16 rfl
set_option maxHeartbeats 4000000 in
set_option maxRecDepth 100000 in
theorem w_L_about_2 {l : Launch} (hl0 : l.stackTraces = false) {g : gT} {sz : Nat} {oa : Nat} {f : Nat → Int64} {ad : Nat → Nat} {mc : Int32} {M : Nat} {sig : Nat → Int32} {z : sT} (hM : wM M (sn z)) (hV : VS z) {k : Nat} {x : Int32} (hk_ : k < sn z) (hx_ : ¬ inR x (7)) : WR (S := Unit) l yL_about wsL_about ({ frames := 7, cells := 1, slots := 6, locals := 113 } : Room) [.ref (ad 0), .int (nI k), .int x, .ref oa] g (oW g oa (f) :: wC g ad mc M sig z) sz (fun _ : Unit => oW g oa (f) :: wC g ad mc M sig z) (fun _ => some (.int (nI 1))) 1 6 := by
  refine WR.ofX (cc := cL_about) (maxL := 5) (ret := (some .int)) (hh := [(0, 10, 13, 19)]) (by decide) rfl (Nat.le_of_ble_eq_true rfl) ?_
  intro p e s m below meth c hx hb hml hr hlocks hown hts htab hsz hE0 hP hD ls hl
  subst hsz
  have hown : s.vm.findClass RL = some m.cls := hown
  have hA : ∀ q, s.heap.size ≤ q → va_A (oW g oa (f) :: wC g ad mc M sig z) s.heap.size q := fun q h => Or.inr h
  have hE := hE0
  have hS : va_S (va_A (oW g oa (f) :: wC g ad mc M sig z) s.heap.size) s.heap s.heap [] := va_S.rf
  have hl : lv_has ls 5 [(0, .ref (ad 0)), (1, .int (nI k)), (2, .int x), (3, .ref oa)] := hl
  refine lv_aload_n hx hb dL_about_0 rfl (lv_at hl 3 rfl) ?_
  refine lv_iconst (v := nI 0) hx hb dL_about_1 (by decide) ?_
  refine lv_aload_n hx hb dL_about_2 rfl (lv_at hl 0 rfl) ?_
  refine lv_iload_n hx hb dL_about_3 rfl (lv_at hl 1 rfl) ?_
  refine lv_iload_n hx hb dL_about_4 rfl (lv_at hl 2 rfl) ?_
  refine q_thX (E := xI) (name := xI) (As := [.int (nI k), .int x]) (rest := [.int (nI 0), .ref oa]) ⟨hx, hb, hml, hown, hts⟩ (ct_X3_about_2 hl0 hM hV hk_ hx_) (cwV 2 hts gL_about_X3_about rfl rfl rfl (by decide +kernel) ⟨Nat.le_of_ble_eq_true rfl, Nat.le_of_ble_eq_true rfl⟩) hE (fun q h => hA q (Nat.le_trans hS.1 h)) (q_tl hP) (va_recv hE.K hP (ci := 4) (q0 := 1) rfl rfl) rfl hl.1 rfl (Nat.le_of_ble_eq_true rfl) dL_about_5 ⟨Nat.le_of_ble_eq_true rfl, Nat.le_of_ble_eq_true rfl⟩ hP hS ([] : List ExceptionTableEntry) ⟨0, 10, 13, 19⟩ ([] : List ExceptionTableEntry) htab (fun z hz => nomatch hz) (by decide) (by decide) (hts _ (List.mem_of_getElem? (i := 1) rfl)) (q_cast (List.mem_of_getElem? (i := 2) rfl) hE) (fun q9 H hP hS => ?_)
  refine lv_astore (lv' := [(4, .ref q9), (0, .ref (ad 0)), (1, .int (nI k)), (2, .int x), (3, .ref oa)]) hx hb dL_about_13 hl (by decide) rfl (fun ls hl => ?_)
  refine lv_iconst (v := nI 1) hx hb dL_about_15 (by decide) ?_
  exact q_wiret (()) hx hb hr hlocks hP hD hS dL_about_16 rfl
set_option maxHeartbeats 4000000 in
set_option maxRecDepth 100000 in
theorem w_L_count_1 {l : Launch} (hl0 : l.stackTraces = false) {g : gT} {sz : Nat} {oa : Nat} {f : Nat → Int64} {ad : Nat → Nat} {mc : Int32} {M : Nat} {sig : Nat → Int32} {z : sT} (hM : wM M (sn z)) (hV : VS z) {x : Int32} (hx_ : ¬ inR x (7)) : WR (S := Unit) l yL_count wsL_count ({ frames := 7, cells := 1, slots := 6, locals := 111 } : Room) [.ref (ad 0), .int x, .ref oa] g (oW g oa (f) :: wC g ad mc M sig z) sz (fun _ : Unit => oW g oa (f) :: wC g ad mc M sig z) (fun _ => some (.int (nI 1))) 1 6 := by
  refine WR.ofX (cc := cL_count) (maxL := 4) (ret := (some .int)) (hh := [(0, 9, 12, 19)]) (by decide) rfl (Nat.le_of_ble_eq_true rfl) ?_
  intro p e s m below meth c hx hb hml hr hlocks hown hts htab hsz hE0 hP hD ls hl
  subst hsz
  have hown : s.vm.findClass RL = some m.cls := hown
  have hA : ∀ q, s.heap.size ≤ q → va_A (oW g oa (f) :: wC g ad mc M sig z) s.heap.size q := fun q h => Or.inr h
  have hE := hE0
  have hS : va_S (va_A (oW g oa (f) :: wC g ad mc M sig z) s.heap.size) s.heap s.heap [] := va_S.rf
  have hl : lv_has ls 4 [(0, .ref (ad 0)), (1, .int x), (2, .ref oa)] := hl
  refine lv_aload_n hx hb dL_count_0 rfl (lv_at hl 2 rfl) ?_
  refine lv_iconst (v := nI 0) hx hb dL_count_1 (by decide) ?_
  refine lv_aload_n hx hb dL_count_2 rfl (lv_at hl 0 rfl) ?_
  refine lv_iload_n hx hb dL_count_3 rfl (lv_at hl 1 rfl) ?_
  refine q_thX (E := xI) (name := xI) (As := [.int x]) (rest := [.int (nI 0), .ref oa]) ⟨hx, hb, hml, hown, hts⟩ (ct_X3_count_1 hl0 hM hV hx_) (cwV 1 hts gL_count_X3_count rfl rfl rfl (by decide +kernel) ⟨Nat.le_of_ble_eq_true rfl, Nat.le_of_ble_eq_true rfl⟩) hE (fun q h => hA q (Nat.le_trans hS.1 h)) (q_tl hP) (va_recv hE.K hP (ci := 4) (q0 := 1) rfl rfl) rfl hl.1 rfl (Nat.le_of_ble_eq_true rfl) dL_count_4 ⟨Nat.le_of_ble_eq_true rfl, Nat.le_of_ble_eq_true rfl⟩ hP hS ([] : List ExceptionTableEntry) ⟨0, 9, 12, 19⟩ ([] : List ExceptionTableEntry) htab (fun z hz => nomatch hz) (by decide) (by decide) (hts _ (List.mem_of_getElem? (i := 1) rfl)) (q_cast (List.mem_of_getElem? (i := 2) rfl) hE) (fun q9 H hP hS => ?_)
  refine lv_astore_n (lv' := [(3, .ref q9), (0, .ref (ad 0)), (1, .int x), (2, .ref oa)]) hx hb dL_count_12 rfl hl (by decide) rfl (fun ls hl => ?_)
  refine lv_iconst (v := nI 1) hx hb dL_count_13 (by decide) ?_
  exact q_wiret (()) hx hb hr hlocks hP hD hS dL_count_14 rfl
set_option maxHeartbeats 4000000 in
set_option maxRecDepth 100000 in
theorem w_L_alike_1 {l : Launch} (hl0 : l.stackTraces = false) {g : gT} {sz : Nat} {oa : Nat} {f : Nat → Int64} {ad : Nat → Nat} {mc : Int32} {M : Nat} {sig : Nat → Int32} {z : sT} (hM : wM M (sn z)) (hV : VS z) {x y u : Int32} (hx_ : ¬ inR x (sL z)) : WR (S := Unit) l yL_alike wsL_alike ({ frames := 8, cells := 1, slots := 6, locals := 134 } : Room) [.ref (ad 0), .int x, .int y, .int u, .ref oa] g (oW g oa (f) :: wC g ad mc M sig z) sz (fun _ : Unit => oW g oa (f) :: wC g ad mc M sig z) (fun _ => some (.int (nI 1))) 1 6 := by
  refine WR.ofX (cc := cL_alike) (maxL := 6) (ret := (some .int)) (hh := [(0, 12, 15, 19), (0, 12, 19, 13)]) (by decide) rfl (Nat.le_of_ble_eq_true rfl) ?_
  intro p e s m below meth c hx hb hml hr hlocks hown hts htab hsz hE0 hP hD ls hl
  subst hsz
  have hown : s.vm.findClass RL = some m.cls := hown
  have hA : ∀ q, s.heap.size ≤ q → va_A (oW g oa (f) :: wC g ad mc M sig z) s.heap.size q := fun q h => Or.inr h
  have hE := hE0
  have hS : va_S (va_A (oW g oa (f) :: wC g ad mc M sig z) s.heap.size) s.heap s.heap [] := va_S.rf
  have hl : lv_has ls 6 [(0, .ref (ad 0)), (1, .int x), (2, .int y), (3, .int u), (4, .ref oa)] := hl
  refine lv_aload hx hb dL_alike_0 (lv_at hl 4 rfl) ?_
  refine lv_iconst (v := nI 0) hx hb dL_alike_2 (by decide) ?_
  refine lv_aload_n hx hb dL_alike_3 rfl (lv_at hl 0 rfl) ?_
  refine lv_iload_n hx hb dL_alike_4 rfl (lv_at hl 1 rfl) ?_
  refine lv_iload_n hx hb dL_alike_5 rfl (lv_at hl 2 rfl) ?_
  refine lv_iload_n hx hb dL_alike_6 rfl (lv_at hl 3 rfl) ?_
  refine q_thX (E := xI) (name := xI) (As := [.int x, .int y, .int u]) (rest := [.int (nI 0), .ref oa]) ⟨hx, hb, hml, hown, hts⟩ (ct_X3_alike_1 hl0 hM hV hx_) (cwV 3 hts gL_alike_X3_alike rfl rfl rfl (by decide +kernel) ⟨Nat.le_of_ble_eq_true rfl, Nat.le_of_ble_eq_true rfl⟩) hE (fun q h => hA q (Nat.le_trans hS.1 h)) (q_tl hP) (va_recv hE.K hP (ci := 4) (q0 := 1) rfl rfl) rfl hl.1 rfl (Nat.le_of_ble_eq_true rfl) dL_alike_7 ⟨Nat.le_of_ble_eq_true rfl, Nat.le_of_ble_eq_true rfl⟩ hP hS ([] : List ExceptionTableEntry) ⟨0, 12, 15, 19⟩ ([⟨0, 12, 19, 13⟩] : List ExceptionTableEntry) htab (fun z hz => nomatch hz) (by decide) (by decide) (hts _ (List.mem_of_getElem? (i := 1) rfl)) (q_cast (List.mem_of_getElem? (i := 2) rfl) hE) (fun q9 H hP hS => ?_)
  refine lv_astore (lv' := [(5, .ref q9), (0, .ref (ad 0)), (1, .int x), (2, .int y), (3, .int u), (4, .ref oa)]) hx hb dL_alike_15 hl (by decide) rfl (fun ls hl => ?_)
  refine lv_iconst (v := nI 1) hx hb dL_alike_17 (by decide) ?_
  exact q_wiret (()) hx hb hr hlocks hP hD hS dL_alike_18 rfl
set_option maxHeartbeats 4000000 in
set_option maxRecDepth 100000 in
theorem w_L_alike_2 {l : Launch} (hl0 : l.stackTraces = false) {g : gT} {sz : Nat} {oa : Nat} {f : Nat → Int64} {ad : Nat → Nat} {mc : Int32} {M : Nat} {sig : Nat → Int32} {z : sT} (hM : wM M (sn z)) (hV : VS z) {a : Nat} {x u : Int32} (ha_ : a < sL z) (hx_ : ¬ inR x (sL z)) : WR (S := Unit) l yL_alike wsL_alike ({ frames := 8, cells := 1, slots := 6, locals := 134 } : Room) [.ref (ad 0), .int (nI a), .int x, .int u, .ref oa] g (oW g oa (f) :: wC g ad mc M sig z) sz (fun _ : Unit => oW g oa (f) :: wC g ad mc M sig z) (fun _ => some (.int (nI 1))) 1 6 := by
  refine WR.ofX (cc := cL_alike) (maxL := 6) (ret := (some .int)) (hh := [(0, 12, 15, 19), (0, 12, 19, 13)]) (by decide) rfl (Nat.le_of_ble_eq_true rfl) ?_
  intro p e s m below meth c hx hb hml hr hlocks hown hts htab hsz hE0 hP hD ls hl
  subst hsz
  have hown : s.vm.findClass RL = some m.cls := hown
  have hA : ∀ q, s.heap.size ≤ q → va_A (oW g oa (f) :: wC g ad mc M sig z) s.heap.size q := fun q h => Or.inr h
  have hE := hE0
  have hS : va_S (va_A (oW g oa (f) :: wC g ad mc M sig z) s.heap.size) s.heap s.heap [] := va_S.rf
  have hl : lv_has ls 6 [(0, .ref (ad 0)), (1, .int (nI a)), (2, .int x), (3, .int u), (4, .ref oa)] := hl
  refine lv_aload hx hb dL_alike_0 (lv_at hl 4 rfl) ?_
  refine lv_iconst (v := nI 0) hx hb dL_alike_2 (by decide) ?_
  refine lv_aload_n hx hb dL_alike_3 rfl (lv_at hl 0 rfl) ?_
  refine lv_iload_n hx hb dL_alike_4 rfl (lv_at hl 1 rfl) ?_
  refine lv_iload_n hx hb dL_alike_5 rfl (lv_at hl 2 rfl) ?_
  refine lv_iload_n hx hb dL_alike_6 rfl (lv_at hl 3 rfl) ?_
  refine q_thX (E := xI) (name := xI) (As := [.int (nI a), .int x, .int u]) (rest := [.int (nI 0), .ref oa]) ⟨hx, hb, hml, hown, hts⟩ (ct_X3_alike_2 hl0 hM hV ha_ hx_) (cwV 3 hts gL_alike_X3_alike rfl rfl rfl (by decide +kernel) ⟨Nat.le_of_ble_eq_true rfl, Nat.le_of_ble_eq_true rfl⟩) hE (fun q h => hA q (Nat.le_trans hS.1 h)) (q_tl hP) (va_recv hE.K hP (ci := 4) (q0 := 1) rfl rfl) rfl hl.1 rfl (Nat.le_of_ble_eq_true rfl) dL_alike_7 ⟨Nat.le_of_ble_eq_true rfl, Nat.le_of_ble_eq_true rfl⟩ hP hS ([] : List ExceptionTableEntry) ⟨0, 12, 15, 19⟩ ([⟨0, 12, 19, 13⟩] : List ExceptionTableEntry) htab (fun z hz => nomatch hz) (by decide) (by decide) (hts _ (List.mem_of_getElem? (i := 1) rfl)) (q_cast (List.mem_of_getElem? (i := 2) rfl) hE) (fun q9 H hP hS => ?_)
  refine lv_astore (lv' := [(5, .ref q9), (0, .ref (ad 0)), (1, .int (nI a)), (2, .int x), (3, .int u), (4, .ref oa)]) hx hb dL_alike_15 hl (by decide) rfl (fun ls hl => ?_)
  refine lv_iconst (v := nI 1) hx hb dL_alike_17 (by decide) ?_
  exact q_wiret (()) hx hb hr hlocks hP hD hS dL_alike_18 rfl
set_option maxHeartbeats 4000000 in
set_option maxRecDepth 100000 in
theorem w_L_alike_3 {l : Launch} (hl0 : l.stackTraces = false) {g : gT} {sz : Nat} {oa : Nat} {f : Nat → Int64} {ad : Nat → Nat} {mc : Int32} {M : Nat} {sig : Nat → Int32} {z : sT} (hM : wM M (sn z)) (hV : VS z) {a b : Nat} {x : Int32} (ha_ : a < sL z) (hb_ : b < sL z) (hx_ : ¬ inR x (sL z)) : WR (S := Unit) l yL_alike wsL_alike ({ frames := 7, cells := 1, slots := 6, locals := 113 } : Room) [.ref (ad 0), .int (nI a), .int (nI b), .int x, .ref oa] g (oW g oa (f) :: wC g ad mc M sig z) sz (fun _ : Unit => oW g oa (f) :: wC g ad mc M sig z) (fun _ => some (.int (nI 2))) 1 6 := by
  refine WR.ofX (cc := cL_alike) (maxL := 6) (ret := (some .int)) (hh := [(0, 12, 15, 19), (0, 12, 19, 13)]) (by decide) rfl (Nat.le_of_ble_eq_true rfl) ?_
  intro p e s m below meth c hx hb hml hr hlocks hown hts htab hsz hE0 hP hD ls hl
  subst hsz
  have hown : s.vm.findClass RL = some m.cls := hown
  have hA : ∀ q, s.heap.size ≤ q → va_A (oW g oa (f) :: wC g ad mc M sig z) s.heap.size q := fun q h => Or.inr h
  have hE := hE0
  have hS : va_S (va_A (oW g oa (f) :: wC g ad mc M sig z) s.heap.size) s.heap s.heap [] := va_S.rf
  have hl : lv_has ls 6 [(0, .ref (ad 0)), (1, .int (nI a)), (2, .int (nI b)), (3, .int x), (4, .ref oa)] := hl
  refine lv_aload hx hb dL_alike_0 (lv_at hl 4 rfl) ?_
  refine lv_iconst (v := nI 0) hx hb dL_alike_2 (by decide) ?_
  refine lv_aload_n hx hb dL_alike_3 rfl (lv_at hl 0 rfl) ?_
  refine lv_iload_n hx hb dL_alike_4 rfl (lv_at hl 1 rfl) ?_
  refine lv_iload_n hx hb dL_alike_5 rfl (lv_at hl 2 rfl) ?_
  refine lv_iload_n hx hb dL_alike_6 rfl (lv_at hl 3 rfl) ?_
  refine q_thX (E := xA) (name := xA) (As := [.int (nI a), .int (nI b), .int x]) (rest := [.int (nI 0), .ref oa]) ⟨hx, hb, hml, hown, hts⟩ (ct_X3_alike_3 hl0 hM hV ha_ hb_ hx_) (cwV 3 hts gL_alike_X3_alike rfl rfl rfl (by decide +kernel) ⟨Nat.le_of_ble_eq_true rfl, Nat.le_of_ble_eq_true rfl⟩) hE (fun q h => hA q (Nat.le_trans hS.1 h)) (q_tl hP) (va_recv hE.K hP (ci := 4) (q0 := 1) rfl rfl) rfl hl.1 rfl (Nat.le_of_ble_eq_true rfl) dL_alike_7 ⟨Nat.le_of_ble_eq_true rfl, Nat.le_of_ble_eq_true rfl⟩ hP hS ([⟨0, 12, 15, 19⟩] : List ExceptionTableEntry) ⟨0, 12, 19, 13⟩ ([] : List ExceptionTableEntry) htab (fun z hz => by
      have hz : z ∈ ([⟨0, 12, 15, 19⟩] : List ExceptionTableEntry) := hz
      rcases List.mem_cons.mp hz with rfl | hz
      · exact Or.inr ⟨by decide, xI, (hts _ (List.mem_of_getElem? (i := 1) rfl)), hE.1.2.2.2.2.1 (xA, xI) (by decide)⟩
      cases hz) (by decide) (by decide) (hts _ (List.mem_of_getElem? (i := 2) rfl)) (q_cast (List.mem_of_getElem? (i := 3) rfl) hE) (fun q9 H hP hS => ?_)
  refine lv_astore (lv' := [(5, .ref q9), (0, .ref (ad 0)), (1, .int (nI a)), (2, .int (nI b)), (3, .int x), (4, .ref oa)]) hx hb dL_alike_19 hl (by decide) rfl (fun ls hl => ?_)
  refine lv_iconst (v := nI 2) hx hb dL_alike_21 (by decide) ?_
  exact q_wiret (()) hx hb hr hlocks hP hD hS dL_alike_22 rfl
set_option maxHeartbeats 4000000 in
set_option maxRecDepth 100000 in
theorem w_L_shift_1 {l : Launch} (hl0 : l.stackTraces = false) {g : gT} {sz : Nat} {oa : Nat} {f : Nat → Int64} {ad : Nat → Nat} {mc : Int32} {M : Nat} {sig : Nat → Int32} {z : sT} (hM : wM M (sn z)) (hV : VS z) {x y : Int32} (hx_ : ¬ inR x (sL z)) : WR (S := Unit) l yL_shift wsL_shift ({ frames := 8, cells := 1, slots := 6, locals := 137 } : Room) [.ref (ad 0), .int x, .int y, .ref oa] g (oW g oa (f) :: wC g ad mc M sig z) sz (fun _ : Unit => oW g oa (f) :: wC g ad mc M sig z) (fun _ => some (.int (nI 1))) 1 6 := by
  refine WR.ofX (cc := cL_shift) (maxL := 5) (ret := (some .int)) (hh := [(0, 10, 13, 19)]) (by decide) rfl (Nat.le_of_ble_eq_true rfl) ?_
  intro p e s m below meth c hx hb hml hr hlocks hown hts htab hsz hE0 hP hD ls hl
  subst hsz
  have hown : s.vm.findClass RL = some m.cls := hown
  have hA : ∀ q, s.heap.size ≤ q → va_A (oW g oa (f) :: wC g ad mc M sig z) s.heap.size q := fun q h => Or.inr h
  have hE := hE0
  have hS : va_S (va_A (oW g oa (f) :: wC g ad mc M sig z) s.heap.size) s.heap s.heap [] := va_S.rf
  have hl : lv_has ls 5 [(0, .ref (ad 0)), (1, .int x), (2, .int y), (3, .ref oa)] := hl
  refine lv_aload_n hx hb dL_shift_0 rfl (lv_at hl 3 rfl) ?_
  refine lv_iconst (v := nI 0) hx hb dL_shift_1 (by decide) ?_
  refine lv_aload_n hx hb dL_shift_2 rfl (lv_at hl 0 rfl) ?_
  refine lv_iload_n hx hb dL_shift_3 rfl (lv_at hl 1 rfl) ?_
  refine lv_iload_n hx hb dL_shift_4 rfl (lv_at hl 2 rfl) ?_
  refine q_thX (E := xI) (name := xI) (As := [.int x, .int y]) (rest := [.int (nI 0), .ref oa]) ⟨hx, hb, hml, hown, hts⟩ (ct_X3_shift_1 hl0 hM hV hx_) (cwV 2 hts gL_shift_X3_shift rfl rfl rfl (by decide +kernel) ⟨Nat.le_of_ble_eq_true rfl, Nat.le_of_ble_eq_true rfl⟩) hE (fun q h => hA q (Nat.le_trans hS.1 h)) (q_tl hP) (va_recv hE.K hP (ci := 4) (q0 := 1) rfl rfl) rfl hl.1 rfl (Nat.le_of_ble_eq_true rfl) dL_shift_5 ⟨Nat.le_of_ble_eq_true rfl, Nat.le_of_ble_eq_true rfl⟩ hP hS ([] : List ExceptionTableEntry) ⟨0, 10, 13, 19⟩ ([] : List ExceptionTableEntry) htab (fun z hz => nomatch hz) (by decide) (by decide) (hts _ (List.mem_of_getElem? (i := 1) rfl)) (q_cast (List.mem_of_getElem? (i := 2) rfl) hE) (fun q9 H hP hS => ?_)
  refine lv_astore (lv' := [(4, .ref q9), (0, .ref (ad 0)), (1, .int x), (2, .int y), (3, .ref oa)]) hx hb dL_shift_13 hl (by decide) rfl (fun ls hl => ?_)
  refine lv_iconst (v := nI 1) hx hb dL_shift_15 (by decide) ?_
  exact q_wiret (()) hx hb hr hlocks hP hD hS dL_shift_16 rfl
set_option maxHeartbeats 4000000 in
set_option maxRecDepth 100000 in
theorem w_L_shift_2 {l : Launch} (hl0 : l.stackTraces = false) {g : gT} {sz : Nat} {oa : Nat} {f : Nat → Int64} {ad : Nat → Nat} {mc : Int32} {M : Nat} {sig : Nat → Int32} {z : sT} (hM : wM M (sn z)) (hV : VS z) {a : Nat} {x : Int32} (ha_ : a < sL z) (hx_ : ¬ inR x (sL z)) : WR (S := Unit) l yL_shift wsL_shift ({ frames := 8, cells := 1, slots := 6, locals := 137 } : Room) [.ref (ad 0), .int (nI a), .int x, .ref oa] g (oW g oa (f) :: wC g ad mc M sig z) sz (fun _ : Unit => oW g oa (f) :: wC g ad mc M sig z) (fun _ => some (.int (nI 1))) 1 6 := by
  refine WR.ofX (cc := cL_shift) (maxL := 5) (ret := (some .int)) (hh := [(0, 10, 13, 19)]) (by decide) rfl (Nat.le_of_ble_eq_true rfl) ?_
  intro p e s m below meth c hx hb hml hr hlocks hown hts htab hsz hE0 hP hD ls hl
  subst hsz
  have hown : s.vm.findClass RL = some m.cls := hown
  have hA : ∀ q, s.heap.size ≤ q → va_A (oW g oa (f) :: wC g ad mc M sig z) s.heap.size q := fun q h => Or.inr h
  have hE := hE0
  have hS : va_S (va_A (oW g oa (f) :: wC g ad mc M sig z) s.heap.size) s.heap s.heap [] := va_S.rf
  have hl : lv_has ls 5 [(0, .ref (ad 0)), (1, .int (nI a)), (2, .int x), (3, .ref oa)] := hl
  refine lv_aload_n hx hb dL_shift_0 rfl (lv_at hl 3 rfl) ?_
  refine lv_iconst (v := nI 0) hx hb dL_shift_1 (by decide) ?_
  refine lv_aload_n hx hb dL_shift_2 rfl (lv_at hl 0 rfl) ?_
  refine lv_iload_n hx hb dL_shift_3 rfl (lv_at hl 1 rfl) ?_
  refine lv_iload_n hx hb dL_shift_4 rfl (lv_at hl 2 rfl) ?_
  refine q_thX (E := xI) (name := xI) (As := [.int (nI a), .int x]) (rest := [.int (nI 0), .ref oa]) ⟨hx, hb, hml, hown, hts⟩ (ct_X3_shift_2 hl0 hM hV ha_ hx_) (cwV 2 hts gL_shift_X3_shift rfl rfl rfl (by decide +kernel) ⟨Nat.le_of_ble_eq_true rfl, Nat.le_of_ble_eq_true rfl⟩) hE (fun q h => hA q (Nat.le_trans hS.1 h)) (q_tl hP) (va_recv hE.K hP (ci := 4) (q0 := 1) rfl rfl) rfl hl.1 rfl (Nat.le_of_ble_eq_true rfl) dL_shift_5 ⟨Nat.le_of_ble_eq_true rfl, Nat.le_of_ble_eq_true rfl⟩ hP hS ([] : List ExceptionTableEntry) ⟨0, 10, 13, 19⟩ ([] : List ExceptionTableEntry) htab (fun z hz => nomatch hz) (by decide) (by decide) (hts _ (List.mem_of_getElem? (i := 1) rfl)) (q_cast (List.mem_of_getElem? (i := 2) rfl) hE) (fun q9 H hP hS => ?_)
  refine lv_astore (lv' := [(4, .ref q9), (0, .ref (ad 0)), (1, .int (nI a)), (2, .int x), (3, .ref oa)]) hx hb dL_shift_13 hl (by decide) rfl (fun ls hl => ?_)
  refine lv_iconst (v := nI 1) hx hb dL_shift_15 (by decide) ?_
  exact q_wiret (()) hx hb hr hlocks hP hD hS dL_shift_16 rfl
set_option maxHeartbeats 4000000 in
set_option maxRecDepth 100000 in
theorem w_L_advise_1 {l : Launch} (hl0 : l.stackTraces = false) {g : gT} {sz : Nat} {oa : Nat} {f : Nat → Int64} {ad : Nat → Nat} {mc : Int32} {M : Nat} {sig : Nat → Int32} {z : sT} (hM : wM M (sn z)) (hV : VS z) {x : Int32} (hx_ : ¬ inR x (sL z)) : WR (S := Unit) l yL_advise wsL_advise ({ frames := 8, cells := 1, slots := 6, locals := 136 } : Room) [.ref (ad 0), .int x, .ref oa] g (oW g oa (f) :: wC g ad mc M sig z) sz (fun _ : Unit => oW g oa (f) :: wC g ad mc M sig z) (fun _ => some (.int (nI 1))) 1 6 := by
  refine WR.ofX (cc := cL_advise) (maxL := 4) (ret := (some .int)) (hh := [(0, 9, 12, 13)]) (by decide) rfl (Nat.le_of_ble_eq_true rfl) ?_
  intro p e s m below meth c hx hb hml hr hlocks hown hts htab hsz hE0 hP hD ls hl
  subst hsz
  have hown : s.vm.findClass RL = some m.cls := hown
  have hA : ∀ q, s.heap.size ≤ q → va_A (oW g oa (f) :: wC g ad mc M sig z) s.heap.size q := fun q h => Or.inr h
  have hE := hE0
  have hS : va_S (va_A (oW g oa (f) :: wC g ad mc M sig z) s.heap.size) s.heap s.heap [] := va_S.rf
  have hl : lv_has ls 4 [(0, .ref (ad 0)), (1, .int x), (2, .ref oa)] := hl
  refine lv_aload_n hx hb dL_advise_0 rfl (lv_at hl 2 rfl) ?_
  refine lv_iconst (v := nI 0) hx hb dL_advise_1 (by decide) ?_
  refine lv_aload_n hx hb dL_advise_2 rfl (lv_at hl 0 rfl) ?_
  refine lv_iload_n hx hb dL_advise_3 rfl (lv_at hl 1 rfl) ?_
  refine q_thX (E := xA) (name := xA) (As := [.int x]) (rest := [.int (nI 0), .ref oa]) ⟨hx, hb, hml, hown, hts⟩ (ct_X3_advise_1 hl0 hM hV hx_) (cwV 1 hts gL_advise_X3_advise rfl rfl rfl (by decide +kernel) ⟨Nat.le_of_ble_eq_true rfl, Nat.le_of_ble_eq_true rfl⟩) hE (fun q h => hA q (Nat.le_trans hS.1 h)) (q_tl hP) (va_recv hE.K hP (ci := 4) (q0 := 1) rfl rfl) rfl hl.1 rfl (Nat.le_of_ble_eq_true rfl) dL_advise_4 ⟨Nat.le_of_ble_eq_true rfl, Nat.le_of_ble_eq_true rfl⟩ hP hS ([] : List ExceptionTableEntry) ⟨0, 9, 12, 13⟩ ([] : List ExceptionTableEntry) htab (fun z hz => nomatch hz) (by decide) (by decide) (hts _ (List.mem_of_getElem? (i := 1) rfl)) (q_cast (List.mem_of_getElem? (i := 3) rfl) hE) (fun q9 H hP hS => ?_)
  refine lv_astore_n (lv' := [(3, .ref q9), (0, .ref (ad 0)), (1, .int x), (2, .ref oa)]) hx hb dL_advise_12 rfl hl (by decide) rfl (fun ls hl => ?_)
  refine lv_iconst (v := nI 1) hx hb dL_advise_13 (by decide) ?_
  exact q_wiret (()) hx hb hr hlocks hP hD hS dL_advise_14 rfl
set_option maxHeartbeats 4000000 in
set_option maxRecDepth 100000 in
theorem w_L_would_1 {l : Launch} (hl0 : l.stackTraces = false) {g : gT} {sz : Nat} {oa : Nat} {f : Nat → Int64} {ad : Nat → Nat} {mc : Int32} {M : Nat} {sig : Nat → Int32} {z : sT} (hM : wM M (sn z)) (hV : VS z) {x y : Int32} (hx_ : ¬ inR x (sn z)) : WR (S := Unit) l yL_would wsL_would ({ frames := 8, cells := 1, slots := 6, locals := 134 } : Room) [.ref (ad 0), .int x, .int y, .ref oa] g (oW g oa (f) :: wC g ad mc M sig z) sz (fun _ : Unit => oW g oa (f) :: wC g ad mc M sig z) (fun _ => some (.int (nI 1))) 1 6 := by
  refine WR.ofX (cc := cL_would) (maxL := 5) (ret := (some .int)) (hh := [(0, 10, 13, 19), (0, 10, 17, 13)]) (by decide) rfl (Nat.le_of_ble_eq_true rfl) ?_
  intro p e s m below meth c hx hb hml hr hlocks hown hts htab hsz hE0 hP hD ls hl
  subst hsz
  have hown : s.vm.findClass RL = some m.cls := hown
  have hA : ∀ q, s.heap.size ≤ q → va_A (oW g oa (f) :: wC g ad mc M sig z) s.heap.size q := fun q h => Or.inr h
  have hE := hE0
  have hS : va_S (va_A (oW g oa (f) :: wC g ad mc M sig z) s.heap.size) s.heap s.heap [] := va_S.rf
  have hl : lv_has ls 5 [(0, .ref (ad 0)), (1, .int x), (2, .int y), (3, .ref oa)] := hl
  refine lv_aload_n hx hb dL_would_0 rfl (lv_at hl 3 rfl) ?_
  refine lv_iconst (v := nI 0) hx hb dL_would_1 (by decide) ?_
  refine lv_aload_n hx hb dL_would_2 rfl (lv_at hl 0 rfl) ?_
  refine lv_iload_n hx hb dL_would_3 rfl (lv_at hl 1 rfl) ?_
  refine lv_iload_n hx hb dL_would_4 rfl (lv_at hl 2 rfl) ?_
  refine q_thX (E := xI) (name := xI) (As := [.int x, .int y]) (rest := [.int (nI 0), .ref oa]) ⟨hx, hb, hml, hown, hts⟩ (ct_X3_would_1 hl0 hM hV hx_) (cwV 2 hts gL_would_X3_would rfl rfl rfl (by decide +kernel) ⟨Nat.le_of_ble_eq_true rfl, Nat.le_of_ble_eq_true rfl⟩) hE (fun q h => hA q (Nat.le_trans hS.1 h)) (q_tl hP) (va_recv hE.K hP (ci := 4) (q0 := 1) rfl rfl) rfl hl.1 rfl (Nat.le_of_ble_eq_true rfl) dL_would_5 ⟨Nat.le_of_ble_eq_true rfl, Nat.le_of_ble_eq_true rfl⟩ hP hS ([] : List ExceptionTableEntry) ⟨0, 10, 13, 19⟩ ([⟨0, 10, 17, 13⟩] : List ExceptionTableEntry) htab (fun z hz => nomatch hz) (by decide) (by decide) (hts _ (List.mem_of_getElem? (i := 1) rfl)) (q_cast (List.mem_of_getElem? (i := 2) rfl) hE) (fun q9 H hP hS => ?_)
  refine lv_astore (lv' := [(4, .ref q9), (0, .ref (ad 0)), (1, .int x), (2, .int y), (3, .ref oa)]) hx hb dL_would_13 hl (by decide) rfl (fun ls hl => ?_)
  refine lv_iconst (v := nI 1) hx hb dL_would_15 (by decide) ?_
  exact q_wiret (()) hx hb hr hlocks hP hD hS dL_would_16 rfl
set_option maxHeartbeats 4000000 in
set_option maxRecDepth 100000 in
theorem w_L_would_2 {l : Launch} (hl0 : l.stackTraces = false) {g : gT} {sz : Nat} {oa : Nat} {f : Nat → Int64} {ad : Nat → Nat} {mc : Int32} {M : Nat} {sig : Nat → Int32} {z : sT} (hM : wM M (sn z)) (hV : VS z) {k : Nat} {x : Int32} (hk_ : k < sn z) (hx_ : ¬ inB x 1 9) : WR (S := Unit) l yL_would wsL_would ({ frames := 8, cells := 1, slots := 6, locals := 134 } : Room) [.ref (ad 0), .int (nI k), .int x, .ref oa] g (oW g oa (f) :: wC g ad mc M sig z) sz (fun _ : Unit => oW g oa (f) :: wC g ad mc M sig z) (fun _ => some (.int (nI 2))) 1 6 := by
  refine WR.ofX (cc := cL_would) (maxL := 5) (ret := (some .int)) (hh := [(0, 10, 13, 19), (0, 10, 17, 13)]) (by decide) rfl (Nat.le_of_ble_eq_true rfl) ?_
  intro p e s m below meth c hx hb hml hr hlocks hown hts htab hsz hE0 hP hD ls hl
  subst hsz
  have hown : s.vm.findClass RL = some m.cls := hown
  have hA : ∀ q, s.heap.size ≤ q → va_A (oW g oa (f) :: wC g ad mc M sig z) s.heap.size q := fun q h => Or.inr h
  have hE := hE0
  have hS : va_S (va_A (oW g oa (f) :: wC g ad mc M sig z) s.heap.size) s.heap s.heap [] := va_S.rf
  have hl : lv_has ls 5 [(0, .ref (ad 0)), (1, .int (nI k)), (2, .int x), (3, .ref oa)] := hl
  refine lv_aload_n hx hb dL_would_0 rfl (lv_at hl 3 rfl) ?_
  refine lv_iconst (v := nI 0) hx hb dL_would_1 (by decide) ?_
  refine lv_aload_n hx hb dL_would_2 rfl (lv_at hl 0 rfl) ?_
  refine lv_iload_n hx hb dL_would_3 rfl (lv_at hl 1 rfl) ?_
  refine lv_iload_n hx hb dL_would_4 rfl (lv_at hl 2 rfl) ?_
  refine q_thX (E := xA) (name := xA) (As := [.int (nI k), .int x]) (rest := [.int (nI 0), .ref oa]) ⟨hx, hb, hml, hown, hts⟩ (ct_X3_would_2 hl0 hM hV hk_ hx_) (cwV 2 hts gL_would_X3_would rfl rfl rfl (by decide +kernel) ⟨Nat.le_of_ble_eq_true rfl, Nat.le_of_ble_eq_true rfl⟩) hE (fun q h => hA q (Nat.le_trans hS.1 h)) (q_tl hP) (va_recv hE.K hP (ci := 4) (q0 := 1) rfl rfl) rfl hl.1 rfl (Nat.le_of_ble_eq_true rfl) dL_would_5 ⟨Nat.le_of_ble_eq_true rfl, Nat.le_of_ble_eq_true rfl⟩ hP hS ([⟨0, 10, 13, 19⟩] : List ExceptionTableEntry) ⟨0, 10, 17, 13⟩ ([] : List ExceptionTableEntry) htab (fun z hz => by
      have hz : z ∈ ([⟨0, 10, 13, 19⟩] : List ExceptionTableEntry) := hz
      rcases List.mem_cons.mp hz with rfl | hz
      · exact Or.inr ⟨by decide, xI, (hts _ (List.mem_of_getElem? (i := 1) rfl)), hE.1.2.2.2.2.1 (xA, xI) (by decide)⟩
      cases hz) (by decide) (by decide) (hts _ (List.mem_of_getElem? (i := 2) rfl)) (q_cast (List.mem_of_getElem? (i := 3) rfl) hE) (fun q9 H hP hS => ?_)
  refine lv_astore (lv' := [(4, .ref q9), (0, .ref (ad 0)), (1, .int (nI k)), (2, .int x), (3, .ref oa)]) hx hb dL_would_17 hl (by decide) rfl (fun ls hl => ?_)
  refine lv_iconst (v := nI 2) hx hb dL_would_19 (by decide) ?_
  exact q_wiret (()) hx hb hr hlocks hP hD hS dL_would_20 rfl
set_option maxHeartbeats 4000000 in
set_option maxRecDepth 100000 in
theorem w_L_tune_1 {l : Launch} (hl0 : l.stackTraces = false) {g : gT} {sz : Nat} {oa : Nat} {f : Nat → Int64} {ad : Nat → Nat} {mc : Int32} {M : Nat} {sig : Nat → Int32} {z : sT} (hM : wM M (sn z)) (hV : VS z) {x : Int32} (hx_ : ¬ inR x (sn z)) : WR (S := Unit) l yL_tune wsL_tune ({ frames := 8, cells := 1, slots := 6, locals := 137 } : Room) [.ref (ad 0), .int x, .ref oa] g (oW g oa (f) :: wC g ad mc M sig z) sz (fun _ : Unit => oW g oa (f) :: wC g ad mc M sig z) (fun _ => some (.int (nI 1))) 1 6 := by
  refine WR.ofX (cc := cL_tune) (maxL := 4) (ret := (some .int)) (hh := [(0, 9, 12, 19)]) (by decide) rfl (Nat.le_of_ble_eq_true rfl) ?_
  intro p e s m below meth c hx hb hml hr hlocks hown hts htab hsz hE0 hP hD ls hl
  subst hsz
  have hown : s.vm.findClass RL = some m.cls := hown
  have hA : ∀ q, s.heap.size ≤ q → va_A (oW g oa (f) :: wC g ad mc M sig z) s.heap.size q := fun q h => Or.inr h
  have hE := hE0
  have hS : va_S (va_A (oW g oa (f) :: wC g ad mc M sig z) s.heap.size) s.heap s.heap [] := va_S.rf
  have hl : lv_has ls 4 [(0, .ref (ad 0)), (1, .int x), (2, .ref oa)] := hl
  refine lv_aload_n hx hb dL_tune_0 rfl (lv_at hl 2 rfl) ?_
  refine lv_iconst (v := nI 0) hx hb dL_tune_1 (by decide) ?_
  refine lv_aload_n hx hb dL_tune_2 rfl (lv_at hl 0 rfl) ?_
  refine lv_iload_n hx hb dL_tune_3 rfl (lv_at hl 1 rfl) ?_
  refine q_thX (E := xI) (name := xI) (As := [.int x]) (rest := [.int (nI 0), .ref oa]) ⟨hx, hb, hml, hown, hts⟩ (ct_X3_tune_1 hl0 hM hV hx_) (cwV 1 hts gL_tune_X3_tune rfl rfl rfl (by decide +kernel) ⟨Nat.le_of_ble_eq_true rfl, Nat.le_of_ble_eq_true rfl⟩) hE (fun q h => hA q (Nat.le_trans hS.1 h)) (q_tl hP) (va_recv hE.K hP (ci := 4) (q0 := 1) rfl rfl) rfl hl.1 rfl (Nat.le_of_ble_eq_true rfl) dL_tune_4 ⟨Nat.le_of_ble_eq_true rfl, Nat.le_of_ble_eq_true rfl⟩ hP hS ([] : List ExceptionTableEntry) ⟨0, 9, 12, 19⟩ ([] : List ExceptionTableEntry) htab (fun z hz => nomatch hz) (by decide) (by decide) (hts _ (List.mem_of_getElem? (i := 1) rfl)) (q_cast (List.mem_of_getElem? (i := 2) rfl) hE) (fun q9 H hP hS => ?_)
  refine lv_astore_n (lv' := [(3, .ref q9), (0, .ref (ad 0)), (1, .int x), (2, .ref oa)]) hx hb dL_tune_12 rfl hl (by decide) rfl (fun ls hl => ?_)
  refine lv_iconst (v := nI 1) hx hb dL_tune_13 (by decide) ?_
  exact q_wiret (()) hx hb hr hlocks hP hD hS dL_tune_14 rfl
