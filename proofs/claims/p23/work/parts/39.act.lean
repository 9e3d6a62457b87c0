/-! ===== a step of the run: what the check does to both ===== -/
theorem q_tl {D : va_G} {cl : List vw_C} {x : Nat × va_E} {w : va_W} {H : Heap} (hP : va_P D cl (x :: w) H) : va_P D cl w H := fun k q h => hP (k + 1) q h
theorem q_cast {g : gT} {A : Nat → Prop} {s : State} {H : Heap} {w : Cond} {args : Array Value} (h : w ∈ q_nws) (hE : Ev g A s H) : w.before args s = true := by
  have ok := q_nws_ok w h
  rw [Bool.and_eq_true] at ok
  exact va_Nw.use ok.2 (hE.1.2.2.2.1 w h)
theorem WR.ofX {l : Launch} {y : MethodName} {ws ws' : List Cond} {rm : Room} {av : List Value} {g : gT} {cc : ByteArray} {maxL : Nat} {ret : Option FieldType} {hh : List (Nat × Nat × Nat × Nat)} {S : Type} {wc : va_W} {sz : Nat} {B : S → va_W} {v : S → Option Value} {mc ms : Nat} (hy : plainName y.cls = true) (hw : ws = Cond.codeWith y cc maxL ret hh :: ws') (hlen : (lg_sl av).length ≤ maxL)
    (body : ∀ (p : Program) (e : Env) (s : State) (m : MethodId) (below : List Frame) (meth : Method) (c : Code), p.tables.exec = Jvm.exec → c.code = cc → c.maxLocals = maxL → meth.sig.returnType = ret → meth.locks = false → s.vm.findClass y.cls = some m.cls → (∀ w ∈ ws, w.before av.toArray s = true) → c.exceptionTable.toList = tableOf hh →
      s.heap.size = sz → Ev g (va_A wc sz) s s.heap → va_P g.1 vwCl wc s.heap → va_D (va_A wc sz) wc → ∀ ls : Array Slot, lv_has ls maxL (lv_args 0 av) → W p l e rm s m av.toArray below meth c s.heap [] 0 0 (MQ below (q_Qw B v g wc sz) av.toArray s mc ms (va_A wc sz)) (F0 m 0 ls [])) : WR l y ws rm av g wc sz B v mc ms := by
  refine va_MetW (cc := cc) (maxL := maxL) (ret := ret) hy hw ?_
  intro p e s m args below meth c s₁ B hml hv
  obtain ⟨rfl, hsz, hE, hP, hD⟩ := hv
  rw [lg_entry_eq]
  have hts := atoms_spec (ws := ws) B.pre
  exact body p e s m below meth c B.exec B.bytes hml B.returns B.notSynchronized (findClass_of_methodNamed B.named) hts (vx_table (x := y) B (hts _ (by rw [hw]; exact List.mem_cons_self))) hsz hE hP hD.self _ (lv_entry av hlen)
section QX
variable {p : Program} {l : Launch} {e : Env} {R : Room} {s : State} {m : MethodId} {args : Array Value} {below : List Frame} {meth : Method} {c : Code} {H : Heap} {locs : List Loc} {cells slots : Nat} {Q : State → Prop}
variable {cc bytes : ByteArray} {pc maxL nL n index mc ms : Nat} {ls : Array Slot} {rest As st0 : List Value} {y : MethodName} {ret : Option FieldType} {ws Ts : List Cond} {rm : Room} {own C : String} {b : Nat} {g : gT} {A : Nat → Prop} {H0 : Heap}
theorem q_wrSW {S0 : Type} {B : S0 → va_W} {v : S0 → Option Value} {wr wc : va_W} {hh : List (Nat × Nat × Nat × Nat)} (S : CallFix p m c cc nL s args Ts own) (hM : WR l y ws rm As g wc H.size B v mc ms) (cw : vx_CSW R s args own index y bytes maxL ret hh ws rm mc ms n)
    (hE : Ev g A s H) (hP : va_P g.1 vwCl (wr ++ wc) H) (hD : va_D A (wr ++ wc)) (hS : va_S A H0 H locs) (hA : ∀ q, H0.size ≤ q → A q)
    (hn : As.length = n) (hsize : ls.size = nL) (hst : st0 = As.reverse ++ rest) (hW : (rest.map fun v => v.category).sum ≤ 8) (d : decode cc pc = .ok (.invokestatic index, 3)) (hf : cells + mc ≤ R.cells ∧ slots + ms ≤ R.slots)
    (kk : ∀ (u : S0) (H1 : Heap) (locs1 : List Loc), va_P g.1 vwCl (wr ++ B u) H1 → va_D A (wr ++ B u) → va_S A H0 H1 locs1 → Ev g A s H1 → W p l e R s m args below meth c H1 locs1 (cells + mc) (slots + ms) Q (F0 m (pc + 3) ls ((v u).toList ++ rest))) : W p l e R s m args below meth c H locs cells slots Q (F0 m pc ls st0) := by
  subst hst
  exact q_wrK (vx_runSW (g := F0 m pc ls (As.reverse ++ rest)) (rest := rest) (As := As) S hM cw ⟨q_W.blind, fun U hU hW => q_W.of hE hP hD hS hA hU hW⟩ rfl hn hsize rfl (lv_room hW) d hf) hE hP hD hS hA kk
/-- a thrower is called, and its exception caught -/
theorem q_thX {F : Heap → Prop} {E name : String} {wc : va_W} (S : CallFix p m c cc nL s args Ts own) (hM : TH l y ws rm (.ref b :: As) g F E) (cw : CallW R s args own C index y bytes maxL ret ws rm 1 6 n) (hE : Ev g A s H) (hA : ∀ q, H.size ≤ q → A q) (hF : F H)
    (hrecv : ∃ cellB : Cell, H[b]? = some cellB ∧ cellB.vm.isStatics = false ∧ s.vm.findClass C = some cellB.cls) (hn : As.length = n) (hsize : ls.size = nL) (hst : st0 = As.reverse ++ .ref b :: rest) (hW : (rest.map fun v => v.category).sum ≤ 8) (d : decode cc pc = .ok (.invokevirtual index, 3)) (hf : cells + 1 ≤ R.cells ∧ slots + 6 ≤ R.slots)
    (hP : va_P g.1 vwCl wc H) (hS : va_S A H0 H locs) (pre : List ExceptionTableEntry) (x : ExceptionTableEntry) (suf : List ExceptionTableEntry) (hsplit : c.exceptionTable.toList = pre ++ x :: suf)
    (hpass : ∀ z ∈ pre, covers z pc = false ∨ (z.catchType ≠ 0 ∧ ∃ nm : String, (Cond.classLink own z.catchType nm).before args s = true ∧ va_Nc E nm s)) (hx : covers x pc = true) (h0 : x.catchType ≠ 0)
    (hlink : (Cond.classLink own x.catchType name).before args s = true) (hcast : (Cond.castable E name).before args s = true)
    (kk : ∀ (q9 : Addr) (H1 : Heap), va_P g.1 vwCl wc H1 → va_S A H0 H1 locs → W p l e R s m args below meth c H1 locs (cells + 1) (slots + 6) Q (F0 m x.handlerPc ls [.ref q9])) : W p l e R s m args below meth c H locs cells slots Q (F0 m pc ls st0) := by
  refine q_thV S hM cw hE hA hF hrecv hn hsize hst hW d hf (fun ce q9 H1 z k h1 h2 h3 => ?_)
  refine vx_catch S.2.2.2.1 pre x suf hsplit hpass hx h0 hlink hcast h1 h2 h3 (kk q9 H1 (fun i q hq => (hP i q hq).kept (k q.1 ((hP i q hq).lt))) ?_)
  exact ⟨Nat.le_trans hS.1 z, fun q h4 h5 => (k q (Nat.lt_of_lt_of_le h4 hS.1)).trans (hS.2.1 q h4 h5), hS.2.2⟩
end QX
theorem IW.cl {z : sT} {M : Nat} {sig : Nat → Int32} (h : IW z M sig) {q : Nat} (hq : q ≤ 4) : IW (zcl z (2 ^ q)) (min M 1) (fillF sig (nI 0) 207) := by obtain ⟨sa, h⟩ := h; exact ⟨_, h.cl hq⟩
theorem IW.hl {z : sT} {M : Nat} {sig : Nat → Int32} (h : IW z M sig) {a s_ : Nat} (hn : sn z < 8) (ha : a < sL z) (h1 : 1 ≤ s_) (h2 : s_ ≤ 9) : IW (zhl z a s_) (2 * sn z + 3) sig := by obtain ⟨sa, h⟩ := h; exact ⟨_, h.hl hn ha h1 h2⟩
theorem IW.say {z : sT} {M : Nat} {sig : Nat → Int32} (h : IW z M sig) {k y : Nat} (hk : k < sn z) (hsd : ssd z k < 12) : IW (zsay z k (sayX y)) M (adW sig (nI (ssr z k)) (zsay z k (sayX y)) k (ssd z k) (sL z)) := by obtain ⟨sa, h⟩ := h; exact ⟨_, h.say hk hsd⟩
theorem IW.hush {z : sT} {M : Nat} {sig : Nat → Int32} (h : IW z M sig) {k : Nat} (hk : k < sn z) : IW (zsd z k 0) M (adWs sig (-nI (ssr z k)) z k (ssd z k)) := by obtain ⟨sa, h⟩ := h; exact ⟨_, h.hush hk⟩
theorem IW.dl {z : sT} {M : Nat} {sig : Nat → Int32} (h : IW z M sig) {k d_ : Nat} (hk : k < sn z) (hd : d_ < sL z) : IW (zdl z k d_) M (adWs (adWs sig (-nI (ssr z k)) z k (ssd z k)) (nI (ssr z k)) (zdl z k d_) k (ssd z k)) := by obtain ⟨sa, h⟩ := h; exact ⟨_, h.dl hk hd⟩
theorem IW.sr {z : sT} {M : Nat} {sig : Nat → Int32} (h : IW z M sig) {k s_ : Nat} (hk : k < sn z) (h1 : 1 ≤ s_) (h2 : s_ ≤ 9) : IW (zsr z k s_) M (adWs sig (nI s_ - nI (ssr z k)) z k (ssd z k)) := by obtain ⟨sa, h⟩ := h; exact ⟨_, h.sr hk h1 h2⟩
theorem IW.st {z : sT} {M : Nat} {sig : Nat → Int32} (h : IW z M sig) {p : Nat} {v : Int32} (hv : inB v (-99) 99) : IW (zst z p v) M sig := by obtain ⟨sa, h⟩ := h; exact ⟨_, h.st hv⟩
theorem q_stm {k a c : Nat} (hk : k < 2 * a + 1) (ha : a ≤ 99) : inB (nI k - nI a) (-99) 99 := by
  unfold inB
  rw [pk_sub_toInt (by omega) (by omega)]
  omega
theorem wO_w {g : gT} {b : Nat → Nat} {z : sT} {k : Nat} {o s c h w : Nat × va_E} (hk : k < sn z) : (o :: s :: c :: h :: w :: spool g b z)[sL z + 2 * k + 6]? = some (b (sL z + 2 * k + 6), ints g (ssd z k) (swd z k)) := wS_w hk
theorem bH_0 {b : Nat → Nat} {p h w r1 r2 : Nat} : bH b (p + 5) h w r1 r2 0 = b 0 := by
  unfold bH; rw [if_neg (by omega), if_neg (by omega), if_neg (by omega), if_neg (by omega)]
theorem adH_0 {ad : Nat → Nat} {n e h w : Nat} : adH ad n e h w 0 = ad 0 := by
  unfold adH; rw [if_neg (by omega), if_neg (by omega), if_neg (by omega)]
/-- a row copied so far -/
def cpF (f : Nat → Int32) (n : Nat) : Nat → Int32 := fun t => if t < n then f t else 0
theorem cpF_0 {f : Nat → Int32} : (fun _ => (0 : Int32)) = cpF f 0 := by
  funext t; unfold cpF; rw [if_neg (by omega)]
theorem cpF_s {f : Nat → Int32} {n : Nat} : upd (cpF f n) n (f n) = cpF f (n + 1) := by
  funext t
  show (if t = n then f n else cpF f n t) = _
  unfold cpF
  by_cases e : t = n
  · rw [if_pos e, if_pos (by omega), e]
  · rw [if_neg e]
    by_cases h : t < n
    · rw [if_pos h, if_pos (by omega)]
    · rw [if_neg h, if_neg (by omega)]
theorem cpF_e {z : sT} {k : Nat} {v : Int32} : ∀ j, j < ssd z k + 1 → upd (cpF (swd z k) (ssd z k)) (ssd z k) v j = swd (zsay z k v) k j := by
  intro j hj
  have e : swd (zsay z k v) k = upd (swd z k) (ssd z k) v := if_pos rfl
  rw [e]
  show (if j = ssd z k then v else cpF (swd z k) (ssd z k) j) = (if j = ssd z k then v else swd z k j)
  by_cases c : j = ssd z k
  · rw [if_pos c, if_pos c]
  · rw [if_neg c, if_neg c]
    unfold cpF; rw [if_pos (by omega)]
theorem wd_say {g : gT} {b : Nat → Nat} {z : sT} {k q : Nat} {R : va_W} {v : Int32} (hk : k < sn z) : (((wS g b z ++ R).set 4 (b 4, refs g (sn z) (va_up (rfF (wOf b (sL z)) (sn z)) k (some q)))).set (sL z + 2 * k + 6) (q, ints g (ssd z k + 1) (swd (zsay z k v) k))) = wS g (bU b (sL z + 2 * k + 6) q) (zsay z k v) ++ R := by
  have e : ssd (zsay z k v) k = ssd z k + 1 := upN_s
  have h := wS_wd (g := g) (b := b) (z := z) (z' := zsay z k v) (q := q) (R := R) hk rfl rfl rfl rfl rfl rfl (fun j hj => ⟨upN_n hj, if_neg hj⟩)
  rw [e] at h
  exact h
theorem wd_hush {g : gT} {b : Nat → Nat} {z : sT} {k q : Nat} {R : va_W} (hk : k < sn z) : (((wS g b z ++ R).set 4 (b 4, refs g (sn z) (va_up (rfF (wOf b (sL z)) (sn z)) k (some q)))).set (sL z + 2 * k + 6) (q, ints g 0 (swd z k))) = wS g (bU b (sL z + 2 * k + 6) q) (zsd z k 0) ++ R := by
  have e : ssd (zsd z k 0) k = 0 := upN_s
  have h := wS_wd (g := g) (b := b) (z := z) (z' := zsd z k 0) (q := q) (R := R) hk rfl rfl rfl rfl rfl rfl (fun j hj => ⟨upN_n hj, rfl⟩)
  rw [e] at h
  exact h
theorem wd_in {g : gT} {b : Nat → Nat} {z : sT} {k : Nat} {R : va_W} {y : Nat × va_E} (hk : k < sn z) : sL z + 2 * k + 6 < ((wS g b z ++ R).set 4 y).length := by
  rw [List.length_set]; exact wA_i (i := sL z + 2 * k + 1) (by omega)
theorem say_P {g : gT} {b : Nat → Nat} {z : sT} {k q : Nat} {R : va_W} {v : Int32} {D : va_G} {cl : List vw_C} {H : Heap} (hk : k < sn z) (hP : va_P D cl (((wS g b z ++ R).set 4 (b 4, refs g (sn z) (va_up (rfF (wOf b (sL z)) (sn z)) k (some q)))) ++ [(q, ints g (ssd z k + 1) (upd (cpF (swd z k) (ssd z k)) (ssd z k) v))]) H) : va_P D cl (wS g (bU b (sL z + 2 * k + 6) q) (zsay z k v) ++ R) H := by
  have h := q_inP (wd_in hk) (q_lastP cpF_e hP)
  rw [wd_say hk] at h; exact h
theorem say_D {g : gT} {b : Nat → Nat} {z : sT} {k q : Nat} {R : va_W} {v : Int32} {A : Nat → Prop} (hk : k < sn z) (hD : va_D A (((wS g b z ++ R).set 4 (b 4, refs g (sn z) (va_up (rfF (wOf b (sL z)) (sn z)) k (some q)))) ++ [(q, ints g (ssd z k + 1) (upd (cpF (swd z k) (ssd z k)) (ssd z k) v))])) : va_D A (wS g (bU b (sL z + 2 * k + 6) q) (zsay z k v) ++ R) := by
  have h := q_inD (wd_in hk) (q_lastD (n' := ssd z k + 1) (f' := swd (zsay z k v) k) hD)
  rw [wd_say hk] at h; exact h
theorem hush_P {g : gT} {b : Nat → Nat} {z : sT} {k q : Nat} {R : va_W} {D : va_G} {cl : List vw_C} {H : Heap} (hk : k < sn z) (hP : va_P D cl (((wS g b z ++ R).set 4 (b 4, refs g (sn z) (va_up (rfF (wOf b (sL z)) (sn z)) k (some q)))) ++ [(q, ints g 0 (fun _ => 0))]) H) : va_P D cl (wS g (bU b (sL z + 2 * k + 6) q) (zsd z k 0) ++ R) H := by
  have h := q_inP (wd_in hk) (q_lastP (f' := swd z k) (fun j hj => absurd hj (Nat.not_lt_zero j)) hP)
  rw [wd_hush hk] at h; exact h
theorem hush_D {g : gT} {b : Nat → Nat} {z : sT} {k q : Nat} {R : va_W} {A : Nat → Prop} (hk : k < sn z) (hD : va_D A (((wS g b z ++ R).set 4 (b 4, refs g (sn z) (va_up (rfF (wOf b (sL z)) (sn z)) k (some q)))) ++ [(q, ints g 0 (fun _ => 0))])) : va_D A (wS g (bU b (sL z + 2 * k + 6) q) (zsd z k 0) ++ R) := by
  have h := q_inD (wd_in hk) (q_lastD (n' := 0) (f' := swd z k) hD)
  rw [wd_hush hk] at h; exact h
set_option maxHeartbeats 40000000 in
set_option maxRecDepth 100000 in
theorem c_L_act {l : Launch} (hl0 : l.stackTraces = false) {g : gT} {sz : Nat} {b ad : Nat → Nat} {mc : Int32} {M : Nat} {sig : Nat → Int32} {z : sT} {x : Int32} (hI : IW z M sig) : WR (S := {u : aT // aO (b 0) (ad 0) u}) l yL_act wsL_act ({ frames := 7, cells := 40, slots := 400, locals := 130 } : Room) [.ref (ad 0), .ref (b 0), .int x] g (wS g b z ++ wC g ad mc M sig z) sz (fun u : {u : aT // aO (b 0) (ad 0) u} => wA g u.1) (fun _ => some (.int (nI 1))) 40 400 := by
  refine WR.ofX (cc := cL_act) (maxL := 11) (ret := (some .boolean)) (hh := [(181, 191, 194, 46), (373, 383, 386, 46)]) (by decide) rfl (Nat.le_of_ble_eq_true rfl) ?_
  intro p e s m below meth c hx hb hml hr hlocks hown hts htab hsz hE0 hP hD ls hl
  subst hsz
  have hown : s.vm.findClass RL = some m.cls := hown
  have hA : ∀ q, s.heap.size ≤ q → (va_A (wS g b z ++ wC g ad mc M sig z) s.heap.size) q := fun q h => Or.inr h
  have hE := hE0
  have hS : va_S (va_A (wS g b z ++ wC g ad mc M sig z) s.heap.size) s.heap s.heap [] := va_S.rf
  have hl : lv_has ls 11 [(0, .ref (ad 0)), (1, .ref (b 0)), (2, .int x)] := hl
  have hV := hI.V
  have hM := hI.M
  have hL := hV.L
  have hn := hV.n
  refine lv_aload_n hx hb dL_act_0 rfl (lv_at hl 1 rfl) ?_
  refine va_get (v := .ref (b 3)) (C := RX4) (T := TX4) (N := 4) hx hb hts (q_sub wsX40 238 rfl) hown hE.K hP 0 rfl rfl 1 (by decide) (hts _ (List.mem_of_getElem? (i := 2) rfl)) (fun _ h9 => h9) rfl dL_act_1 ?_
  refine q_alenA (v := nI (sn z)) hx hb hE (hP 3 _ rfl) dL_act_4 rfl ?_
  refine lv_istore_n (lv' := [(3, .int (nI (sn z))), (0, .ref (ad 0)), (1, .ref (b 0)), (2, .int x)]) hx hb dL_act_5 rfl hl (by decide) rfl (fun ls hl => ?_)
  refine lv_aload_n hx hb dL_act_6 rfl (lv_at hl 2 rfl) ?_
  refine q_roV (As := []) (rest := []) ⟨hx, hb, hml, hown, hts⟩ (c_X4_length hV) (cwV 0 hts gL_act_X4_length rfl rfl rfl (by decide +kernel) ⟨Nat.le_of_ble_eq_true rfl, Nat.le_of_ble_eq_true rfl⟩) hE (fun q h => hA q (Nat.le_trans hS.1 h)) (q_fst hP) (va_recv hE.K hP (ci := 5) (q0 := 0) rfl rfl) rfl hl.1 rfl (Nat.le_of_ble_eq_true rfl) dL_act_7 ⟨Nat.le_of_ble_eq_true rfl, Nat.le_of_ble_eq_true rfl⟩ ?_
  refine lv_istore (lv' := [(4, .int (nI (sL z))), (3, .int (nI (sn z))), (0, .ref (ad 0)), (1, .ref (b 0)), (2, .int x)]) hx hb dL_act_10 hl (by decide) rfl (fun ls hl => ?_)
  refine lv_iload_n hx hb dL_act_12 rfl (lv_at hl 1 rfl) ?_
  refine q_if_ne (tgt := 20) hx hb (by omega) dL_act_13 (by decide) (fun c_0 => ?_) (fun c_0 => ?_)
  · refine lv_iload_n hx hb dL_act_20 rfl (lv_at hl 4 rfl) ?_
    refine lv_iconst (v := nI 4) hx hb dL_act_21 (by decide) ?_
    refine q_ishr (v := sh x 4) hx hb dL_act_22 rfl ?_
    refine lv_iload_n hx hb dL_act_23 rfl (lv_at hl 1 rfl) ?_
    refine q_roS (As := [.int (sh x 4), .int (nI (sn z))]) (rest := []) ⟨hx, hb, hml, hown, hts⟩ (c_L_below (x := sh x 4) (n := sn z) c_0 (by omega)) (va_cwS 2 hts gL_act_L_below rfl rfl rfl (by decide +kernel) ⟨Nat.le_of_ble_eq_true rfl, Nat.le_of_ble_eq_true rfl⟩) hE (fun q h => hA q (Nat.le_trans hS.1 h)) trivial rfl hl.1 rfl (Nat.le_of_ble_eq_true rfl) dL_act_24 ⟨Nat.le_of_ble_eq_true rfl, Nat.le_of_ble_eq_true rfl⟩ ?_
    obtain ⟨k, hk_, ek⟩ : ∃ k, k < sn z ∧ bel (sh x 4) (sn z) = k := ⟨_, bel_lt c_0, rfl⟩
    rw [ek]
    have hb_ := hV.h hk_
    have hd_ := hV.hL hk_
    refine lv_istore (lv' := [(5, .int (nI k)), (4, .int (nI (sL z))), (3, .int (nI (sn z))), (0, .ref (ad 0)), (1, .ref (b 0)), (2, .int x)]) hx hb dL_act_27 hl (by decide) rfl (fun ls hl => ?_)
    refine lv_iload_n hx hb dL_act_29 rfl (lv_at hl 5 rfl) ?_
    refine lv_bipush (v := nI 14) hx hb dL_act_30 (by decide) ?_
    refine q_roS (As := [.int x, .int (nI 14)]) (rest := []) ⟨hx, hb, hml, hown, hts⟩ (c_L_below (x := x) (n := 14) (by omega) (by omega)) (va_cwS 2 hts gL_act_L_below rfl rfl rfl (by decide +kernel) ⟨Nat.le_of_ble_eq_true rfl, Nat.le_of_ble_eq_true rfl⟩) hE (fun q h => hA q (Nat.le_trans hS.1 h)) trivial rfl hl.1 rfl (Nat.le_of_ble_eq_true rfl) dL_act_32 ⟨Nat.le_of_ble_eq_true rfl, Nat.le_of_ble_eq_true rfl⟩ ?_
    have h14 := bel_lt (x := x) (n := 14) (by omega)
    rcases (show (bel x 14 = 0) ∨ (bel x 14 = 1 ∨ bel x 14 = 2) ∨ (bel x 14 = 3 ∨ bel x 14 = 4 ∨ bel x 14 = 5 ∨ bel x 14 = 6) ∨ (bel x 14 = 7) ∨ (bel x 14 = 8 ∨ bel x 14 = 9) ∨ (bel x 14 = 10) ∨ 11 ≤ bel x 14 by omega) with e14 | e14 | e14 | e14 | e14 | e14 | e14
    · refine lv_tableIn (off := 57) (tgt := 92) hx hb dL_act_35 (by rw [e14] <;> decide) (by rw [e14] <;> decide) (by rw [e14] <;> rfl) (by decide) ?_
      refine lv_iload_n hx hb dL_act_92 rfl (lv_at hl 5 rfl) ?_
      refine lv_iconst (v := nI 4) hx hb dL_act_93 (by decide) ?_
      refine q_ishr (v := sh x 4) hx hb dL_act_94 rfl ?_
      refine lv_iconst (v := nI 4) hx hb dL_act_95 (by decide) ?_
      refine q_roS (As := [.int (sh x 4), .int (nI 4)]) (rest := []) ⟨hx, hb, hml, hown, hts⟩ (c_L_below (x := sh x 4) (n := 4) (by omega) (by omega)) (va_cwS 2 hts gL_act_L_below rfl rfl rfl (by decide +kernel) ⟨Nat.le_of_ble_eq_true rfl, Nat.le_of_ble_eq_true rfl⟩) hE (fun q h => hA q (Nat.le_trans hS.1 h)) trivial rfl hl.1 rfl (Nat.le_of_ble_eq_true rfl) dL_act_96 ⟨Nat.le_of_ble_eq_true rfl, Nat.le_of_ble_eq_true rfl⟩ ?_
      refine q_if_le (tgt := 104) hx hb (by have := bel_lt (x := sh x 4) (n := 4) (by omega); omega) dL_act_99 (by decide) (fun c_1 => ?_) (fun c_1 => ?_)
      · refine lv_iload_n hx hb dL_act_104 rfl (lv_at hl 5 rfl) ?_
        refine lv_bipush (v := nI 6) hx hb dL_act_105 (by decide) ?_
        refine q_ishr (v := sh x 6) hx hb dL_act_107 rfl ?_
        refine lv_iconst (v := nI 5) hx hb dL_act_108 (by decide) ?_
        refine q_roS (As := [.int (sh x 6), .int (nI 5)]) (rest := []) ⟨hx, hb, hml, hown, hts⟩ (c_L_below (x := sh x 6) (n := 5) (by omega) (by omega)) (va_cwS 2 hts gL_act_L_below rfl rfl rfl (by decide +kernel) ⟨Nat.le_of_ble_eq_true rfl, Nat.le_of_ble_eq_true rfl⟩) hE (fun q h => hA q (Nat.le_trans hS.1 h)) trivial rfl hl.1 rfl (Nat.le_of_ble_eq_true rfl) dL_act_109 ⟨Nat.le_of_ble_eq_true rfl, Nat.le_of_ble_eq_true rfl⟩ ?_
        obtain ⟨q_, hq_, eq_⟩ : ∃ q, q < 5 ∧ bel (sh x 6) 5 = q := ⟨_, bel_lt (by omega), rfl⟩
        rw [eq_]
        refine lv_istore (lv' := [(7, .int (nI q_)), (5, .int (nI k)), (4, .int (nI (sL z))), (3, .int (nI (sn z))), (0, .ref (ad 0)), (1, .ref (b 0)), (2, .int x)]) hx hb dL_act_112 hl (by decide) rfl (fun ls hl => ?_)
        rcases (show q_ = 0 ∨ q_ = 1 ∨ q_ = 2 ∨ q_ = 3 ∨ q_ = 4 by omega) with rfl | rfl | rfl | rfl | rfl
        · refine lv_aload_n hx hb dL_act_114 rfl (lv_at hl 5 rfl) ?_
          refine lv_iconst (v := nI 1) hx hb dL_act_115 (by decide) ?_
          refine lv_iload hx hb dL_act_116 (lv_at hl 0 rfl) ?_
          refine q_ishl (v := nI 1) hx hb dL_act_118 (by decide) ?_
          refine q_nwS (wr := wS g b z ++ wC g ad mc M sig z) (As := [.int (nI 1)]) (rest := [.ref (b 0)]) ⟨hx, hb, hml, hown, hts⟩ (c_tab1 ) (va_cwS 1 hts gL_act_X4_table rfl rfl rfl (by decide +kernel) ⟨Nat.le_of_ble_eq_true rfl, Nat.le_of_ble_eq_true rfl⟩) hE hP hD hS hA trivial rfl hl.1 rfl (Nat.le_of_ble_eq_true rfl) dL_act_119 ⟨Nat.le_of_ble_eq_true rfl, Nat.le_of_ble_eq_true rfl⟩ (fun u_ H locs hP hD hS hE => ?_)
          have hP : va_P g.1 vwCl ((wS g b z ++ wC g ad mc M sig z) ++ ((u_.1, refs g 1 (rfF u_.2 1)) :: tRows g 1 u_.2 chip)) H := hP
          have hD : va_D (va_A (wS g b z ++ wC g ad mc M sig z) s.heap.size) ((wS g b z ++ wC g ad mc M sig z) ++ ((u_.1, refs g 1 (rfF u_.2 1)) :: tRows g 1 u_.2 chip)) := hD
          refine va_put (D := g.1) (ci := 5) (v := .ref u_.1) (ty := .array (.array .int)) (C := RX4) (T := TX4) (N := 4) hx hb hts (q_sub wsX40 238 rfl) tyX4 tyX4_ok nmX4 hown hE.K hP hD hS 0 rfl rfl 0 (by decide) (hts _ (List.mem_of_getElem? (i := 3) rfl)) (fun _ h9 => h9) rfl (by decide +kernel) rfl rfl (Nat.le_of_ble_eq_true rfl) dL_act_122 (fun H locs hP hD hS => ?_)
          have hP : va_P g.1 vwCl ((((b 0, .inr (5, [.ref u_.1, .ref (b 3), .ref (b 4), .ref (b 1)])) :: (b 1, ints g 20 (sst z)) :: (b 2, refs g (sL z) (rfF (cOf b) (sL z))) :: (b 3, refs g (sn z) (rfF (hOf b (sL z)) (sn z))) :: (b 4, refs g (sn z) (rfF (wOf b (sL z)) (sn z))) :: spool g b z) ++ wC g ad mc M sig z) ++ ((u_.1, refs g 1 (rfF u_.2 1)) :: tRows g 1 u_.2 chip)) H := hP
          have hD : va_D (va_A (wS g b z ++ wC g ad mc M sig z) s.heap.size) ((((b 0, .inr (5, [.ref u_.1, .ref (b 3), .ref (b 4), .ref (b 1)])) :: (b 1, ints g 20 (sst z)) :: (b 2, refs g (sL z) (rfF (cOf b) (sL z))) :: (b 3, refs g (sn z) (rfF (hOf b (sL z)) (sn z))) :: (b 4, refs g (sn z) (rfF (wOf b (sL z)) (sn z))) :: spool g b z) ++ wC g ad mc M sig z) ++ ((u_.1, refs g 1 (rfF u_.2 1)) :: tRows g 1 u_.2 chip)) := hD
          have hE := hE0.kept hS.2.1
          refine lv_aload_n hx hb dL_act_125 rfl (lv_at hl 5 rfl) ?_
          refine lv_iconst (v := nI 0) hx hb dL_act_126 (by decide) ?_
          refine q_newA (n := 0) hx hb hown (hts _ (List.mem_of_getElem? (i := 4) rfl)) hE hP hD hS hA (by omega) (Nat.le_of_ble_eq_true rfl) (Nat.le_of_ble_eq_true rfl) dL_act_127 (fun h_ H hP hD hS => ?_)
          have hP : va_P g.1 vwCl (((((b 0, .inr (5, [.ref u_.1, .ref (b 3), .ref (b 4), .ref (b 1)])) :: (b 1, ints g 20 (sst z)) :: (b 2, refs g (sL z) (rfF (cOf b) (sL z))) :: (b 3, refs g (sn z) (rfF (hOf b (sL z)) (sn z))) :: (b 4, refs g (sn z) (rfF (wOf b (sL z)) (sn z))) :: spool g b z) ++ wC g ad mc M sig z) ++ ((u_.1, refs g 1 (rfF u_.2 1)) :: tRows g 1 u_.2 chip)) ++ [(h_, refs g 0 (fun _ => none))]) H := hP
          have hD : va_D (va_A (wS g b z ++ wC g ad mc M sig z) s.heap.size) (((((b 0, .inr (5, [.ref u_.1, .ref (b 3), .ref (b 4), .ref (b 1)])) :: (b 1, ints g 20 (sst z)) :: (b 2, refs g (sL z) (rfF (cOf b) (sL z))) :: (b 3, refs g (sn z) (rfF (hOf b (sL z)) (sn z))) :: (b 4, refs g (sn z) (rfF (wOf b (sL z)) (sn z))) :: spool g b z) ++ wC g ad mc M sig z) ++ ((u_.1, refs g 1 (rfF u_.2 1)) :: tRows g 1 u_.2 chip)) ++ [(h_, refs g 0 (fun _ => none))]) := hD
          have hE := hE0.kept hS.2.1
          refine va_put (D := g.1) (ci := 5) (v := .ref h_) (ty := .array (.array .int)) (C := RX4) (T := TX4) (N := 4) hx hb hts (q_sub wsX40 238 rfl) tyX4 tyX4_ok nmX4 hown hE.K hP hD hS 0 rfl rfl 1 (by decide) (hts _ (List.mem_of_getElem? (i := 2) rfl)) (fun _ h9 => h9) rfl (by decide +kernel) rfl rfl (Nat.le_of_ble_eq_true rfl) dL_act_130 (fun H locs hP hD hS => ?_)
          have hP : va_P g.1 vwCl (((((b 0, .inr (5, [.ref u_.1, .ref h_, .ref (b 4), .ref (b 1)])) :: (b 1, ints g 20 (sst z)) :: (b 2, refs g (sL z) (rfF (cOf b) (sL z))) :: (b 3, refs g (sn z) (rfF (hOf b (sL z)) (sn z))) :: (b 4, refs g (sn z) (rfF (wOf b (sL z)) (sn z))) :: spool g b z) ++ wC g ad mc M sig z) ++ ((u_.1, refs g 1 (rfF u_.2 1)) :: tRows g 1 u_.2 chip)) ++ [(h_, refs g 0 (fun _ => none))]) H := hP
          have hD : va_D (va_A (wS g b z ++ wC g ad mc M sig z) s.heap.size) (((((b 0, .inr (5, [.ref u_.1, .ref h_, .ref (b 4), .ref (b 1)])) :: (b 1, ints g 20 (sst z)) :: (b 2, refs g (sL z) (rfF (cOf b) (sL z))) :: (b 3, refs g (sn z) (rfF (hOf b (sL z)) (sn z))) :: (b 4, refs g (sn z) (rfF (wOf b (sL z)) (sn z))) :: spool g b z) ++ wC g ad mc M sig z) ++ ((u_.1, refs g 1 (rfF u_.2 1)) :: tRows g 1 u_.2 chip)) ++ [(h_, refs g 0 (fun _ => none))]) := hD
          have hE := hE0.kept hS.2.1
          refine lv_aload_n hx hb dL_act_133 rfl (lv_at hl 5 rfl) ?_
          refine lv_iconst (v := nI 0) hx hb dL_act_134 (by decide) ?_
          refine q_newA (n := 0) hx hb hown (hts _ (List.mem_of_getElem? (i := 4) rfl)) hE hP hD hS hA (by omega) (Nat.le_of_ble_eq_true rfl) (Nat.le_of_ble_eq_true rfl) dL_act_135 (fun w_ H hP hD hS => ?_)
          have hP : va_P g.1 vwCl ((((((b 0, .inr (5, [.ref u_.1, .ref h_, .ref (b 4), .ref (b 1)])) :: (b 1, ints g 20 (sst z)) :: (b 2, refs g (sL z) (rfF (cOf b) (sL z))) :: (b 3, refs g (sn z) (rfF (hOf b (sL z)) (sn z))) :: (b 4, refs g (sn z) (rfF (wOf b (sL z)) (sn z))) :: spool g b z) ++ wC g ad mc M sig z) ++ ((u_.1, refs g 1 (rfF u_.2 1)) :: tRows g 1 u_.2 chip)) ++ [(h_, refs g 0 (fun _ => none))]) ++ [(w_, refs g 0 (fun _ => none))]) H := hP
          have hD : va_D (va_A (wS g b z ++ wC g ad mc M sig z) s.heap.size) ((((((b 0, .inr (5, [.ref u_.1, .ref h_, .ref (b 4), .ref (b 1)])) :: (b 1, ints g 20 (sst z)) :: (b 2, refs g (sL z) (rfF (cOf b) (sL z))) :: (b 3, refs g (sn z) (rfF (hOf b (sL z)) (sn z))) :: (b 4, refs g (sn z) (rfF (wOf b (sL z)) (sn z))) :: spool g b z) ++ wC g ad mc M sig z) ++ ((u_.1, refs g 1 (rfF u_.2 1)) :: tRows g 1 u_.2 chip)) ++ [(h_, refs g 0 (fun _ => none))]) ++ [(w_, refs g 0 (fun _ => none))]) := hD
          have hE := hE0.kept hS.2.1
          refine va_put (D := g.1) (ci := 5) (v := .ref w_) (ty := .array (.array .int)) (C := RX4) (T := TX4) (N := 4) hx hb hts (q_sub wsX40 238 rfl) tyX4 tyX4_ok nmX4 hown hE.K hP hD hS 0 rfl rfl 2 (by decide) (hts _ (List.mem_of_getElem? (i := 5) rfl)) (fun _ h9 => h9) rfl (by decide +kernel) rfl rfl (Nat.le_of_ble_eq_true rfl) dL_act_138 (fun H locs hP hD hS => ?_)
          have hP : va_P g.1 vwCl ((((((b 0, .inr (5, [.ref u_.1, .ref h_, .ref w_, .ref (b 1)])) :: (b 1, ints g 20 (sst z)) :: (b 2, refs g (sL z) (rfF (cOf b) (sL z))) :: (b 3, refs g (sn z) (rfF (hOf b (sL z)) (sn z))) :: (b 4, refs g (sn z) (rfF (wOf b (sL z)) (sn z))) :: spool g b z) ++ wC g ad mc M sig z) ++ ((u_.1, refs g 1 (rfF u_.2 1)) :: tRows g 1 u_.2 chip)) ++ [(h_, refs g 0 (fun _ => none))]) ++ [(w_, refs g 0 (fun _ => none))]) H := hP
          have hD : va_D (va_A (wS g b z ++ wC g ad mc M sig z) s.heap.size) ((((((b 0, .inr (5, [.ref u_.1, .ref h_, .ref w_, .ref (b 1)])) :: (b 1, ints g 20 (sst z)) :: (b 2, refs g (sL z) (rfF (cOf b) (sL z))) :: (b 3, refs g (sn z) (rfF (hOf b (sL z)) (sn z))) :: (b 4, refs g (sn z) (rfF (wOf b (sL z)) (sn z))) :: spool g b z) ++ wC g ad mc M sig z) ++ ((u_.1, refs g 1 (rfF u_.2 1)) :: tRows g 1 u_.2 chip)) ++ [(h_, refs g 0 (fun _ => none))]) ++ [(w_, refs g 0 (fun _ => none))]) := hD
          have hE := hE0.kept hS.2.1
          have hP : va_P g.1 vwCl (wS g (bB (b 0) (b 1) u_.1 h_ w_ u_.2) (zcl z (2 ^ 0)) ++ wC g ad mc M sig z) H := by rw [wS_new rfl]; exact q_spP pm_codes hP
          have hD : va_D (va_A (wS g b z ++ wC g ad mc M sig z) s.heap.size) (wS g (bB (b 0) (b 1) u_.1 h_ w_ u_.2) (zcl z (2 ^ 0)) ++ wC g ad mc M sig z) := by rw [wS_new rfl]; exact q_spD pm_codes hD
          refine lv_aload_n hx hb dL_act_141 rfl (lv_at hl 4 rfl) ?_
          refine lv_iload hx hb dL_act_142 (lv_at hl 0 rfl) ?_
          refine q_wrV (wr := wS g (bB (b 0) (b 1) u_.1 h_ w_ u_.2) (zcl z (2 ^ 0))) (As := [.int (nI 0)]) (rest := []) ⟨hx, hb, hml, hown, hts⟩ (c_X3_setCodes hM hV (q_ := 0) (by decide)) (cwV 1 hts gL_act_X3_setCodes rfl rfl rfl (by decide +kernel) ⟨Nat.le_of_ble_eq_true rfl, Nat.le_of_ble_eq_true rfl⟩) hE hP hD hS hA (va_recv hE.K (q_snd hP) (ci := 4) (q0 := 0) rfl rfl) rfl hl.1 rfl (Nat.le_of_ble_eq_true rfl) dL_act_144 ⟨Nat.le_of_ble_eq_true rfl, Nat.le_of_ble_eq_true rfl⟩ (fun _u H locs hP hD hS hE => ?_)
          have hP : va_P g.1 vwCl (wS g (bB (b 0) (b 1) u_.1 h_ w_ u_.2) (zcl z (2 ^ 0)) ++ wC g ad (mc + nI 1) (min M 1) (fillF sig (nI 0) 207) (zcl z (2 ^ 0))) H := hP
          have hD : va_D (va_A (wS g b z ++ wC g ad mc M sig z) s.heap.size) (wS g (bB (b 0) (b 1) u_.1 h_ w_ u_.2) (zcl z (2 ^ 0)) ++ wC g ad (mc + nI 1) (min M 1) (fillF sig (nI 0) 207) (zcl z (2 ^ 0))) := hD
          refine lv_iload hx hb dL_act_147 (lv_at hl 2 rfl) ?_
          refine q_icmp_ne (tgt := 156) hx hb (by omega) (by omega) dL_act_149 (by decide) (fun c_2 => ?_) (fun c_2 => ?_)
          · exact absurd rfl c_2
          · refine lv_iconst (v := nI 1) hx hb dL_act_152 (by decide) ?_
            refine lv_goto (tgt := 157) hx hb dL_act_153 (by decide) ?_
            refine W.widen (k := 40) (n := 400) (Nat.le_of_ble_eq_true rfl) (Nat.le_of_ble_eq_true rfl) ?_
            exact q_wzret (⟨((bB (b 0) (b 1) u_.1 h_ w_ u_.2), ad, mc + nI 1, min M 1, fillF sig (nI 0) 207, (zcl z (2 ^ 0))), rfl, rfl, hI.cl (q := 0) (by decide)⟩) hx hb hr hlocks rfl hP hD hS dL_act_157 rfl
        · refine lv_aload_n hx hb dL_act_114 rfl (lv_at hl 5 rfl) ?_
          refine lv_iconst (v := nI 1) hx hb dL_act_115 (by decide) ?_
          refine lv_iload hx hb dL_act_116 (lv_at hl 0 rfl) ?_
          refine q_ishl (v := nI 2) hx hb dL_act_118 (by decide) ?_
          refine q_nwS (wr := wS g b z ++ wC g ad mc M sig z) (As := [.int (nI 2)]) (rest := [.ref (b 0)]) ⟨hx, hb, hml, hown, hts⟩ (c_tab2 ) (va_cwS 1 hts gL_act_X4_table rfl rfl rfl (by decide +kernel) ⟨Nat.le_of_ble_eq_true rfl, Nat.le_of_ble_eq_true rfl⟩) hE hP hD hS hA trivial rfl hl.1 rfl (Nat.le_of_ble_eq_true rfl) dL_act_119 ⟨Nat.le_of_ble_eq_true rfl, Nat.le_of_ble_eq_true rfl⟩ (fun u_ H locs hP hD hS hE => ?_)
          have hP : va_P g.1 vwCl ((wS g b z ++ wC g ad mc M sig z) ++ ((u_.1, refs g 2 (rfF u_.2 2)) :: tRows g 2 u_.2 chip)) H := hP
          have hD : va_D (va_A (wS g b z ++ wC g ad mc M sig z) s.heap.size) ((wS g b z ++ wC g ad mc M sig z) ++ ((u_.1, refs g 2 (rfF u_.2 2)) :: tRows g 2 u_.2 chip)) := hD
          refine va_put (D := g.1) (ci := 5) (v := .ref u_.1) (ty := .array (.array .int)) (C := RX4) (T := TX4) (N := 4) hx hb hts (q_sub wsX40 238 rfl) tyX4 tyX4_ok nmX4 hown hE.K hP hD hS 0 rfl rfl 0 (by decide) (hts _ (List.mem_of_getElem? (i := 3) rfl)) (fun _ h9 => h9) rfl (by decide +kernel) rfl rfl (Nat.le_of_ble_eq_true rfl) dL_act_122 (fun H locs hP hD hS => ?_)
          have hP : va_P g.1 vwCl ((((b 0, .inr (5, [.ref u_.1, .ref (b 3), .ref (b 4), .ref (b 1)])) :: (b 1, ints g 20 (sst z)) :: (b 2, refs g (sL z) (rfF (cOf b) (sL z))) :: (b 3, refs g (sn z) (rfF (hOf b (sL z)) (sn z))) :: (b 4, refs g (sn z) (rfF (wOf b (sL z)) (sn z))) :: spool g b z) ++ wC g ad mc M sig z) ++ ((u_.1, refs g 2 (rfF u_.2 2)) :: tRows g 2 u_.2 chip)) H := hP
          have hD : va_D (va_A (wS g b z ++ wC g ad mc M sig z) s.heap.size) ((((b 0, .inr (5, [.ref u_.1, .ref (b 3), .ref (b 4), .ref (b 1)])) :: (b 1, ints g 20 (sst z)) :: (b 2, refs g (sL z) (rfF (cOf b) (sL z))) :: (b 3, refs g (sn z) (rfF (hOf b (sL z)) (sn z))) :: (b 4, refs g (sn z) (rfF (wOf b (sL z)) (sn z))) :: spool g b z) ++ wC g ad mc M sig z) ++ ((u_.1, refs g 2 (rfF u_.2 2)) :: tRows g 2 u_.2 chip)) := hD
          have hE := hE0.kept hS.2.1
          refine lv_aload_n hx hb dL_act_125 rfl (lv_at hl 5 rfl) ?_
          refine lv_iconst (v := nI 0) hx hb dL_act_126 (by decide) ?_
          refine q_newA (n := 0) hx hb hown (hts _ (List.mem_of_getElem? (i := 4) rfl)) hE hP hD hS hA (by omega) (Nat.le_of_ble_eq_true rfl) (Nat.le_of_ble_eq_true rfl) dL_act_127 (fun h_ H hP hD hS => ?_)
          have hP : va_P g.1 vwCl (((((b 0, .inr (5, [.ref u_.1, .ref (b 3), .ref (b 4), .ref (b 1)])) :: (b 1, ints g 20 (sst z)) :: (b 2, refs g (sL z) (rfF (cOf b) (sL z))) :: (b 3, refs g (sn z) (rfF (hOf b (sL z)) (sn z))) :: (b 4, refs g (sn z) (rfF (wOf b (sL z)) (sn z))) :: spool g b z) ++ wC g ad mc M sig z) ++ ((u_.1, refs g 2 (rfF u_.2 2)) :: tRows g 2 u_.2 chip)) ++ [(h_, refs g 0 (fun _ => none))]) H := hP
          have hD : va_D (va_A (wS g b z ++ wC g ad mc M sig z) s.heap.size) (((((b 0, .inr (5, [.ref u_.1, .ref (b 3), .ref (b 4), .ref (b 1)])) :: (b 1, ints g 20 (sst z)) :: (b 2, refs g (sL z) (rfF (cOf b) (sL z))) :: (b 3, refs g (sn z) (rfF (hOf b (sL z)) (sn z))) :: (b 4, refs g (sn z) (rfF (wOf b (sL z)) (sn z))) :: spool g b z) ++ wC g ad mc M sig z) ++ ((u_.1, refs g 2 (rfF u_.2 2)) :: tRows g 2 u_.2 chip)) ++ [(h_, refs g 0 (fun _ => none))]) := hD
          have hE := hE0.kept hS.2.1
          refine va_put (D := g.1) (ci := 5) (v := .ref h_) (ty := .array (.array .int)) (C := RX4) (T := TX4) (N := 4) hx hb hts (q_sub wsX40 238 rfl) tyX4 tyX4_ok nmX4 hown hE.K hP hD hS 0 rfl rfl 1 (by decide) (hts _ (List.mem_of_getElem? (i := 2) rfl)) (fun _ h9 => h9) rfl (by decide +kernel) rfl rfl (Nat.le_of_ble_eq_true rfl) dL_act_130 (fun H locs hP hD hS => ?_)
          have hP : va_P g.1 vwCl (((((b 0, .inr (5, [.ref u_.1, .ref h_, .ref (b 4), .ref (b 1)])) :: (b 1, ints g 20 (sst z)) :: (b 2, refs g (sL z) (rfF (cOf b) (sL z))) :: (b 3, refs g (sn z) (rfF (hOf b (sL z)) (sn z))) :: (b 4, refs g (sn z) (rfF (wOf b (sL z)) (sn z))) :: spool g b z) ++ wC g ad mc M sig z) ++ ((u_.1, refs g 2 (rfF u_.2 2)) :: tRows g 2 u_.2 chip)) ++ [(h_, refs g 0 (fun _ => none))]) H := hP
          have hD : va_D (va_A (wS g b z ++ wC g ad mc M sig z) s.heap.size) (((((b 0, .inr (5, [.ref u_.1, .ref h_, .ref (b 4), .ref (b 1)])) :: (b 1, ints g 20 (sst z)) :: (b 2, refs g (sL z) (rfF (cOf b) (sL z))) :: (b 3, refs g (sn z) (rfF (hOf b (sL z)) (sn z))) :: (b 4, refs g (sn z) (rfF (wOf b (sL z)) (sn z))) :: spool g b z) ++ wC g ad mc M sig z) ++ ((u_.1, refs g 2 (rfF u_.2 2)) :: tRows g 2 u_.2 chip)) ++ [(h_, refs g 0 (fun _ => none))]) := hD
          have hE := hE0.kept hS.2.1
          refine lv_aload_n hx hb dL_act_133 rfl (lv_at hl 5 rfl) ?_
          refine lv_iconst (v := nI 0) hx hb dL_act_134 (by decide) ?_
          refine q_newA (n := 0) hx hb hown (hts _ (List.mem_of_getElem? (i := 4) rfl)) hE hP hD hS hA (by omega) (Nat.le_of_ble_eq_true rfl) (Nat.le_of_ble_eq_true rfl) dL_act_135 (fun w_ H hP hD hS => ?_)
          have hP : va_P g.1 vwCl ((((((b 0, .inr (5, [.ref u_.1, .ref h_, .ref (b 4), .ref (b 1)])) :: (b 1, ints g 20 (sst z)) :: (b 2, refs g (sL z) (rfF (cOf b) (sL z))) :: (b 3, refs g (sn z) (rfF (hOf b (sL z)) (sn z))) :: (b 4, refs g (sn z) (rfF (wOf b (sL z)) (sn z))) :: spool g b z) ++ wC g ad mc M sig z) ++ ((u_.1, refs g 2 (rfF u_.2 2)) :: tRows g 2 u_.2 chip)) ++ [(h_, refs g 0 (fun _ => none))]) ++ [(w_, refs g 0 (fun _ => none))]) H := hP
          have hD : va_D (va_A (wS g b z ++ wC g ad mc M sig z) s.heap.size) ((((((b 0, .inr (5, [.ref u_.1, .ref h_, .ref (b 4), .ref (b 1)])) :: (b 1, ints g 20 (sst z)) :: (b 2, refs g (sL z) (rfF (cOf b) (sL z))) :: (b 3, refs g (sn z) (rfF (hOf b (sL z)) (sn z))) :: (b 4, refs g (sn z) (rfF (wOf b (sL z)) (sn z))) :: spool g b z) ++ wC g ad mc M sig z) ++ ((u_.1, refs g 2 (rfF u_.2 2)) :: tRows g 2 u_.2 chip)) ++ [(h_, refs g 0 (fun _ => none))]) ++ [(w_, refs g 0 (fun _ => none))]) := hD
          have hE := hE0.kept hS.2.1
          refine va_put (D := g.1) (ci := 5) (v := .ref w_) (ty := .array (.array .int)) (C := RX4) (T := TX4) (N := 4) hx hb hts (q_sub wsX40 238 rfl) tyX4 tyX4_ok nmX4 hown hE.K hP hD hS 0 rfl rfl 2 (by decide) (hts _ (List.mem_of_getElem? (i := 5) rfl)) (fun _ h9 => h9) rfl (by decide +kernel) rfl rfl (Nat.le_of_ble_eq_true rfl) dL_act_138 (fun H locs hP hD hS => ?_)
          have hP : va_P g.1 vwCl ((((((b 0, .inr (5, [.ref u_.1, .ref h_, .ref w_, .ref (b 1)])) :: (b 1, ints g 20 (sst z)) :: (b 2, refs g (sL z) (rfF (cOf b) (sL z))) :: (b 3, refs g (sn z) (rfF (hOf b (sL z)) (sn z))) :: (b 4, refs g (sn z) (rfF (wOf b (sL z)) (sn z))) :: spool g b z) ++ wC g ad mc M sig z) ++ ((u_.1, refs g 2 (rfF u_.2 2)) :: tRows g 2 u_.2 chip)) ++ [(h_, refs g 0 (fun _ => none))]) ++ [(w_, refs g 0 (fun _ => none))]) H := hP
          have hD : va_D (va_A (wS g b z ++ wC g ad mc M sig z) s.heap.size) ((((((b 0, .inr (5, [.ref u_.1, .ref h_, .ref w_, .ref (b 1)])) :: (b 1, ints g 20 (sst z)) :: (b 2, refs g (sL z) (rfF (cOf b) (sL z))) :: (b 3, refs g (sn z) (rfF (hOf b (sL z)) (sn z))) :: (b 4, refs g (sn z) (rfF (wOf b (sL z)) (sn z))) :: spool g b z) ++ wC g ad mc M sig z) ++ ((u_.1, refs g 2 (rfF u_.2 2)) :: tRows g 2 u_.2 chip)) ++ [(h_, refs g 0 (fun _ => none))]) ++ [(w_, refs g 0 (fun _ => none))]) := hD
          have hE := hE0.kept hS.2.1
          have hP : va_P g.1 vwCl (wS g (bB (b 0) (b 1) u_.1 h_ w_ u_.2) (zcl z (2 ^ 1)) ++ wC g ad mc M sig z) H := by rw [wS_new rfl]; exact q_spP pm_codes hP
          have hD : va_D (va_A (wS g b z ++ wC g ad mc M sig z) s.heap.size) (wS g (bB (b 0) (b 1) u_.1 h_ w_ u_.2) (zcl z (2 ^ 1)) ++ wC g ad mc M sig z) := by rw [wS_new rfl]; exact q_spD pm_codes hD
          refine lv_aload_n hx hb dL_act_141 rfl (lv_at hl 4 rfl) ?_
          refine lv_iload hx hb dL_act_142 (lv_at hl 0 rfl) ?_
          refine q_wrV (wr := wS g (bB (b 0) (b 1) u_.1 h_ w_ u_.2) (zcl z (2 ^ 1))) (As := [.int (nI 1)]) (rest := []) ⟨hx, hb, hml, hown, hts⟩ (c_X3_setCodes hM hV (q_ := 1) (by decide)) (cwV 1 hts gL_act_X3_setCodes rfl rfl rfl (by decide +kernel) ⟨Nat.le_of_ble_eq_true rfl, Nat.le_of_ble_eq_true rfl⟩) hE hP hD hS hA (va_recv hE.K (q_snd hP) (ci := 4) (q0 := 0) rfl rfl) rfl hl.1 rfl (Nat.le_of_ble_eq_true rfl) dL_act_144 ⟨Nat.le_of_ble_eq_true rfl, Nat.le_of_ble_eq_true rfl⟩ (fun _u H locs hP hD hS hE => ?_)
          have hP : va_P g.1 vwCl (wS g (bB (b 0) (b 1) u_.1 h_ w_ u_.2) (zcl z (2 ^ 1)) ++ wC g ad (mc + nI 1) (min M 1) (fillF sig (nI 0) 207) (zcl z (2 ^ 1))) H := hP
          have hD : va_D (va_A (wS g b z ++ wC g ad mc M sig z) s.heap.size) (wS g (bB (b 0) (b 1) u_.1 h_ w_ u_.2) (zcl z (2 ^ 1)) ++ wC g ad (mc + nI 1) (min M 1) (fillF sig (nI 0) 207) (zcl z (2 ^ 1))) := hD
          refine lv_iload hx hb dL_act_147 (lv_at hl 2 rfl) ?_
          refine q_icmp_ne (tgt := 156) hx hb (by omega) (by omega) dL_act_149 (by decide) (fun c_3 => ?_) (fun c_3 => ?_)
          · exact absurd rfl c_3
          · refine lv_iconst (v := nI 1) hx hb dL_act_152 (by decide) ?_
            refine lv_goto (tgt := 157) hx hb dL_act_153 (by decide) ?_
            refine W.widen (k := 40) (n := 400) (Nat.le_of_ble_eq_true rfl) (Nat.le_of_ble_eq_true rfl) ?_
            exact q_wzret (⟨((bB (b 0) (b 1) u_.1 h_ w_ u_.2), ad, mc + nI 1, min M 1, fillF sig (nI 0) 207, (zcl z (2 ^ 1))), rfl, rfl, hI.cl (q := 1) (by decide)⟩) hx hb hr hlocks rfl hP hD hS dL_act_157 rfl
        · refine lv_aload_n hx hb dL_act_114 rfl (lv_at hl 5 rfl) ?_
          refine lv_iconst (v := nI 1) hx hb dL_act_115 (by decide) ?_
          refine lv_iload hx hb dL_act_116 (lv_at hl 0 rfl) ?_
          refine q_ishl (v := nI 4) hx hb dL_act_118 (by decide) ?_
          refine q_nwS (wr := wS g b z ++ wC g ad mc M sig z) (As := [.int (nI 4)]) (rest := [.ref (b 0)]) ⟨hx, hb, hml, hown, hts⟩ (c_tab4 ) (va_cwS 1 hts gL_act_X4_table rfl rfl rfl (by decide +kernel) ⟨Nat.le_of_ble_eq_true rfl, Nat.le_of_ble_eq_true rfl⟩) hE hP hD hS hA trivial rfl hl.1 rfl (Nat.le_of_ble_eq_true rfl) dL_act_119 ⟨Nat.le_of_ble_eq_true rfl, Nat.le_of_ble_eq_true rfl⟩ (fun u_ H locs hP hD hS hE => ?_)
          have hP : va_P g.1 vwCl ((wS g b z ++ wC g ad mc M sig z) ++ ((u_.1, refs g 4 (rfF u_.2 4)) :: tRows g 4 u_.2 chip)) H := hP
          have hD : va_D (va_A (wS g b z ++ wC g ad mc M sig z) s.heap.size) ((wS g b z ++ wC g ad mc M sig z) ++ ((u_.1, refs g 4 (rfF u_.2 4)) :: tRows g 4 u_.2 chip)) := hD
          refine va_put (D := g.1) (ci := 5) (v := .ref u_.1) (ty := .array (.array .int)) (C := RX4) (T := TX4) (N := 4) hx hb hts (q_sub wsX40 238 rfl) tyX4 tyX4_ok nmX4 hown hE.K hP hD hS 0 rfl rfl 0 (by decide) (hts _ (List.mem_of_getElem? (i := 3) rfl)) (fun _ h9 => h9) rfl (by decide +kernel) rfl rfl (Nat.le_of_ble_eq_true rfl) dL_act_122 (fun H locs hP hD hS => ?_)
          have hP : va_P g.1 vwCl ((((b 0, .inr (5, [.ref u_.1, .ref (b 3), .ref (b 4), .ref (b 1)])) :: (b 1, ints g 20 (sst z)) :: (b 2, refs g (sL z) (rfF (cOf b) (sL z))) :: (b 3, refs g (sn z) (rfF (hOf b (sL z)) (sn z))) :: (b 4, refs g (sn z) (rfF (wOf b (sL z)) (sn z))) :: spool g b z) ++ wC g ad mc M sig z) ++ ((u_.1, refs g 4 (rfF u_.2 4)) :: tRows g 4 u_.2 chip)) H := hP
          have hD : va_D (va_A (wS g b z ++ wC g ad mc M sig z) s.heap.size) ((((b 0, .inr (5, [.ref u_.1, .ref (b 3), .ref (b 4), .ref (b 1)])) :: (b 1, ints g 20 (sst z)) :: (b 2, refs g (sL z) (rfF (cOf b) (sL z))) :: (b 3, refs g (sn z) (rfF (hOf b (sL z)) (sn z))) :: (b 4, refs g (sn z) (rfF (wOf b (sL z)) (sn z))) :: spool g b z) ++ wC g ad mc M sig z) ++ ((u_.1, refs g 4 (rfF u_.2 4)) :: tRows g 4 u_.2 chip)) := hD
          have hE := hE0.kept hS.2.1
          refine lv_aload_n hx hb dL_act_125 rfl (lv_at hl 5 rfl) ?_
          refine lv_iconst (v := nI 0) hx hb dL_act_126 (by decide) ?_
          refine q_newA (n := 0) hx hb hown (hts _ (List.mem_of_getElem? (i := 4) rfl)) hE hP hD hS hA (by omega) (Nat.le_of_ble_eq_true rfl) (Nat.le_of_ble_eq_true rfl) dL_act_127 (fun h_ H hP hD hS => ?_)
          have hP : va_P g.1 vwCl (((((b 0, .inr (5, [.ref u_.1, .ref (b 3), .ref (b 4), .ref (b 1)])) :: (b 1, ints g 20 (sst z)) :: (b 2, refs g (sL z) (rfF (cOf b) (sL z))) :: (b 3, refs g (sn z) (rfF (hOf b (sL z)) (sn z))) :: (b 4, refs g (sn z) (rfF (wOf b (sL z)) (sn z))) :: spool g b z) ++ wC g ad mc M sig z) ++ ((u_.1, refs g 4 (rfF u_.2 4)) :: tRows g 4 u_.2 chip)) ++ [(h_, refs g 0 (fun _ => none))]) H := hP
          have hD : va_D (va_A (wS g b z ++ wC g ad mc M sig z) s.heap.size) (((((b 0, .inr (5, [.ref u_.1, .ref (b 3), .ref (b 4), .ref (b 1)])) :: (b 1, ints g 20 (sst z)) :: (b 2, refs g (sL z) (rfF (cOf b) (sL z))) :: (b 3, refs g (sn z) (rfF (hOf b (sL z)) (sn z))) :: (b 4, refs g (sn z) (rfF (wOf b (sL z)) (sn z))) :: spool g b z) ++ wC g ad mc M sig z) ++ ((u_.1, refs g 4 (rfF u_.2 4)) :: tRows g 4 u_.2 chip)) ++ [(h_, refs g 0 (fun _ => none))]) := hD
          have hE := hE0.kept hS.2.1
          refine va_put (D := g.1) (ci := 5) (v := .ref h_) (ty := .array (.array .int)) (C := RX4) (T := TX4) (N := 4) hx hb hts (q_sub wsX40 238 rfl) tyX4 tyX4_ok nmX4 hown hE.K hP hD hS 0 rfl rfl 1 (by decide) (hts _ (List.mem_of_getElem? (i := 2) rfl)) (fun _ h9 => h9) rfl (by decide +kernel) rfl rfl (Nat.le_of_ble_eq_true rfl) dL_act_130 (fun H locs hP hD hS => ?_)
          have hP : va_P g.1 vwCl (((((b 0, .inr (5, [.ref u_.1, .ref h_, .ref (b 4), .ref (b 1)])) :: (b 1, ints g 20 (sst z)) :: (b 2, refs g (sL z) (rfF (cOf b) (sL z))) :: (b 3, refs g (sn z) (rfF (hOf b (sL z)) (sn z))) :: (b 4, refs g (sn z) (rfF (wOf b (sL z)) (sn z))) :: spool g b z) ++ wC g ad mc M sig z) ++ ((u_.1, refs g 4 (rfF u_.2 4)) :: tRows g 4 u_.2 chip)) ++ [(h_, refs g 0 (fun _ => none))]) H := hP
          have hD : va_D (va_A (wS g b z ++ wC g ad mc M sig z) s.heap.size) (((((b 0, .inr (5, [.ref u_.1, .ref h_, .ref (b 4), .ref (b 1)])) :: (b 1, ints g 20 (sst z)) :: (b 2, refs g (sL z) (rfF (cOf b) (sL z))) :: (b 3, refs g (sn z) (rfF (hOf b (sL z)) (sn z))) :: (b 4, refs g (sn z) (rfF (wOf b (sL z)) (sn z))) :: spool g b z) ++ wC g ad mc M sig z) ++ ((u_.1, refs g 4 (rfF u_.2 4)) :: tRows g 4 u_.2 chip)) ++ [(h_, refs g 0 (fun _ => none))]) := hD
          have hE := hE0.kept hS.2.1
          refine lv_aload_n hx hb dL_act_133 rfl (lv_at hl 5 rfl) ?_
          refine lv_iconst (v := nI 0) hx hb dL_act_134 (by decide) ?_
          refine q_newA (n := 0) hx hb hown (hts _ (List.mem_of_getElem? (i := 4) rfl)) hE hP hD hS hA (by omega) (Nat.le_of_ble_eq_true rfl) (Nat.le_of_ble_eq_true rfl) dL_act_135 (fun w_ H hP hD hS => ?_)
          have hP : va_P g.1 vwCl ((((((b 0, .inr (5, [.ref u_.1, .ref h_, .ref (b 4), .ref (b 1)])) :: (b 1, ints g 20 (sst z)) :: (b 2, refs g (sL z) (rfF (cOf b) (sL z))) :: (b 3, refs g (sn z) (rfF (hOf b (sL z)) (sn z))) :: (b 4, refs g (sn z) (rfF (wOf b (sL z)) (sn z))) :: spool g b z) ++ wC g ad mc M sig z) ++ ((u_.1, refs g 4 (rfF u_.2 4)) :: tRows g 4 u_.2 chip)) ++ [(h_, refs g 0 (fun _ => none))]) ++ [(w_, refs g 0 (fun _ => none))]) H := hP
          have hD : va_D (va_A (wS g b z ++ wC g ad mc M sig z) s.heap.size) ((((((b 0, .inr (5, [.ref u_.1, .ref h_, .ref (b 4), .ref (b 1)])) :: (b 1, ints g 20 (sst z)) :: (b 2, refs g (sL z) (rfF (cOf b) (sL z))) :: (b 3, refs g (sn z) (rfF (hOf b (sL z)) (sn z))) :: (b 4, refs g (sn z) (rfF (wOf b (sL z)) (sn z))) :: spool g b z) ++ wC g ad mc M sig z) ++ ((u_.1, refs g 4 (rfF u_.2 4)) :: tRows g 4 u_.2 chip)) ++ [(h_, refs g 0 (fun _ => none))]) ++ [(w_, refs g 0 (fun _ => none))]) := hD
          have hE := hE0.kept hS.2.1
          refine va_put (D := g.1) (ci := 5) (v := .ref w_) (ty := .array (.array .int)) (C := RX4) (T := TX4) (N := 4) hx hb hts (q_sub wsX40 238 rfl) tyX4 tyX4_ok nmX4 hown hE.K hP hD hS 0 rfl rfl 2 (by decide) (hts _ (List.mem_of_getElem? (i := 5) rfl)) (fun _ h9 => h9) rfl (by decide +kernel) rfl rfl (Nat.le_of_ble_eq_true rfl) dL_act_138 (fun H locs hP hD hS => ?_)
          have hP : va_P g.1 vwCl ((((((b 0, .inr (5, [.ref u_.1, .ref h_, .ref w_, .ref (b 1)])) :: (b 1, ints g 20 (sst z)) :: (b 2, refs g (sL z) (rfF (cOf b) (sL z))) :: (b 3, refs g (sn z) (rfF (hOf b (sL z)) (sn z))) :: (b 4, refs g (sn z) (rfF (wOf b (sL z)) (sn z))) :: spool g b z) ++ wC g ad mc M sig z) ++ ((u_.1, refs g 4 (rfF u_.2 4)) :: tRows g 4 u_.2 chip)) ++ [(h_, refs g 0 (fun _ => none))]) ++ [(w_, refs g 0 (fun _ => none))]) H := hP
          have hD : va_D (va_A (wS g b z ++ wC g ad mc M sig z) s.heap.size) ((((((b 0, .inr (5, [.ref u_.1, .ref h_, .ref w_, .ref (b 1)])) :: (b 1, ints g 20 (sst z)) :: (b 2, refs g (sL z) (rfF (cOf b) (sL z))) :: (b 3, refs g (sn z) (rfF (hOf b (sL z)) (sn z))) :: (b 4, refs g (sn z) (rfF (wOf b (sL z)) (sn z))) :: spool g b z) ++ wC g ad mc M sig z) ++ ((u_.1, refs g 4 (rfF u_.2 4)) :: tRows g 4 u_.2 chip)) ++ [(h_, refs g 0 (fun _ => none))]) ++ [(w_, refs g 0 (fun _ => none))]) := hD
          have hE := hE0.kept hS.2.1
          have hP : va_P g.1 vwCl (wS g (bB (b 0) (b 1) u_.1 h_ w_ u_.2) (zcl z (2 ^ 2)) ++ wC g ad mc M sig z) H := by rw [wS_new rfl]; exact q_spP pm_codes hP
          have hD : va_D (va_A (wS g b z ++ wC g ad mc M sig z) s.heap.size) (wS g (bB (b 0) (b 1) u_.1 h_ w_ u_.2) (zcl z (2 ^ 2)) ++ wC g ad mc M sig z) := by rw [wS_new rfl]; exact q_spD pm_codes hD
          refine lv_aload_n hx hb dL_act_141 rfl (lv_at hl 4 rfl) ?_
          refine lv_iload hx hb dL_act_142 (lv_at hl 0 rfl) ?_
          refine q_wrV (wr := wS g (bB (b 0) (b 1) u_.1 h_ w_ u_.2) (zcl z (2 ^ 2))) (As := [.int (nI 2)]) (rest := []) ⟨hx, hb, hml, hown, hts⟩ (c_X3_setCodes hM hV (q_ := 2) (by decide)) (cwV 1 hts gL_act_X3_setCodes rfl rfl rfl (by decide +kernel) ⟨Nat.le_of_ble_eq_true rfl, Nat.le_of_ble_eq_true rfl⟩) hE hP hD hS hA (va_recv hE.K (q_snd hP) (ci := 4) (q0 := 0) rfl rfl) rfl hl.1 rfl (Nat.le_of_ble_eq_true rfl) dL_act_144 ⟨Nat.le_of_ble_eq_true rfl, Nat.le_of_ble_eq_true rfl⟩ (fun _u H locs hP hD hS hE => ?_)
          have hP : va_P g.1 vwCl (wS g (bB (b 0) (b 1) u_.1 h_ w_ u_.2) (zcl z (2 ^ 2)) ++ wC g ad (mc + nI 1) (min M 1) (fillF sig (nI 0) 207) (zcl z (2 ^ 2))) H := hP
          have hD : va_D (va_A (wS g b z ++ wC g ad mc M sig z) s.heap.size) (wS g (bB (b 0) (b 1) u_.1 h_ w_ u_.2) (zcl z (2 ^ 2)) ++ wC g ad (mc + nI 1) (min M 1) (fillF sig (nI 0) 207) (zcl z (2 ^ 2))) := hD
          refine lv_iload hx hb dL_act_147 (lv_at hl 2 rfl) ?_
          refine q_icmp_ne (tgt := 156) hx hb (by omega) (by omega) dL_act_149 (by decide) (fun c_4 => ?_) (fun c_4 => ?_)
          · exact absurd rfl c_4
          · refine lv_iconst (v := nI 1) hx hb dL_act_152 (by decide) ?_
            refine lv_goto (tgt := 157) hx hb dL_act_153 (by decide) ?_
            refine W.widen (k := 40) (n := 400) (Nat.le_of_ble_eq_true rfl) (Nat.le_of_ble_eq_true rfl) ?_
            exact q_wzret (⟨((bB (b 0) (b 1) u_.1 h_ w_ u_.2), ad, mc + nI 1, min M 1, fillF sig (nI 0) 207, (zcl z (2 ^ 2))), rfl, rfl, hI.cl (q := 2) (by decide)⟩) hx hb hr hlocks rfl hP hD hS dL_act_157 rfl
        · refine lv_aload_n hx hb dL_act_114 rfl (lv_at hl 5 rfl) ?_
          refine lv_iconst (v := nI 1) hx hb dL_act_115 (by decide) ?_
          refine lv_iload hx hb dL_act_116 (lv_at hl 0 rfl) ?_
          refine q_ishl (v := nI 8) hx hb dL_act_118 (by decide) ?_
          refine q_nwS (wr := wS g b z ++ wC g ad mc M sig z) (As := [.int (nI 8)]) (rest := [.ref (b 0)]) ⟨hx, hb, hml, hown, hts⟩ (c_tab8 ) (va_cwS 1 hts gL_act_X4_table rfl rfl rfl (by decide +kernel) ⟨Nat.le_of_ble_eq_true rfl, Nat.le_of_ble_eq_true rfl⟩) hE hP hD hS hA trivial rfl hl.1 rfl (Nat.le_of_ble_eq_true rfl) dL_act_119 ⟨Nat.le_of_ble_eq_true rfl, Nat.le_of_ble_eq_true rfl⟩ (fun u_ H locs hP hD hS hE => ?_)
          have hP : va_P g.1 vwCl ((wS g b z ++ wC g ad mc M sig z) ++ ((u_.1, refs g 8 (rfF u_.2 8)) :: tRows g 8 u_.2 chip)) H := hP
          have hD : va_D (va_A (wS g b z ++ wC g ad mc M sig z) s.heap.size) ((wS g b z ++ wC g ad mc M sig z) ++ ((u_.1, refs g 8 (rfF u_.2 8)) :: tRows g 8 u_.2 chip)) := hD
          refine va_put (D := g.1) (ci := 5) (v := .ref u_.1) (ty := .array (.array .int)) (C := RX4) (T := TX4) (N := 4) hx hb hts (q_sub wsX40 238 rfl) tyX4 tyX4_ok nmX4 hown hE.K hP hD hS 0 rfl rfl 0 (by decide) (hts _ (List.mem_of_getElem? (i := 3) rfl)) (fun _ h9 => h9) rfl (by decide +kernel) rfl rfl (Nat.le_of_ble_eq_true rfl) dL_act_122 (fun H locs hP hD hS => ?_)
          have hP : va_P g.1 vwCl ((((b 0, .inr (5, [.ref u_.1, .ref (b 3), .ref (b 4), .ref (b 1)])) :: (b 1, ints g 20 (sst z)) :: (b 2, refs g (sL z) (rfF (cOf b) (sL z))) :: (b 3, refs g (sn z) (rfF (hOf b (sL z)) (sn z))) :: (b 4, refs g (sn z) (rfF (wOf b (sL z)) (sn z))) :: spool g b z) ++ wC g ad mc M sig z) ++ ((u_.1, refs g 8 (rfF u_.2 8)) :: tRows g 8 u_.2 chip)) H := hP
          have hD : va_D (va_A (wS g b z ++ wC g ad mc M sig z) s.heap.size) ((((b 0, .inr (5, [.ref u_.1, .ref (b 3), .ref (b 4), .ref (b 1)])) :: (b 1, ints g 20 (sst z)) :: (b 2, refs g (sL z) (rfF (cOf b) (sL z))) :: (b 3, refs g (sn z) (rfF (hOf b (sL z)) (sn z))) :: (b 4, refs g (sn z) (rfF (wOf b (sL z)) (sn z))) :: spool g b z) ++ wC g ad mc M sig z) ++ ((u_.1, refs g 8 (rfF u_.2 8)) :: tRows g 8 u_.2 chip)) := hD
          have hE := hE0.kept hS.2.1
          refine lv_aload_n hx hb dL_act_125 rfl (lv_at hl 5 rfl) ?_
          refine lv_iconst (v := nI 0) hx hb dL_act_126 (by decide) ?_
          refine q_newA (n := 0) hx hb hown (hts _ (List.mem_of_getElem? (i := 4) rfl)) hE hP hD hS hA (by omega) (Nat.le_of_ble_eq_true rfl) (Nat.le_of_ble_eq_true rfl) dL_act_127 (fun h_ H hP hD hS => ?_)
          have hP : va_P g.1 vwCl (((((b 0, .inr (5, [.ref u_.1, .ref (b 3), .ref (b 4), .ref (b 1)])) :: (b 1, ints g 20 (sst z)) :: (b 2, refs g (sL z) (rfF (cOf b) (sL z))) :: (b 3, refs g (sn z) (rfF (hOf b (sL z)) (sn z))) :: (b 4, refs g (sn z) (rfF (wOf b (sL z)) (sn z))) :: spool g b z) ++ wC g ad mc M sig z) ++ ((u_.1, refs g 8 (rfF u_.2 8)) :: tRows g 8 u_.2 chip)) ++ [(h_, refs g 0 (fun _ => none))]) H := hP
          have hD : va_D (va_A (wS g b z ++ wC g ad mc M sig z) s.heap.size) (((((b 0, .inr (5, [.ref u_.1, .ref (b 3), .ref (b 4), .ref (b 1)])) :: (b 1, ints g 20 (sst z)) :: (b 2, refs g (sL z) (rfF (cOf b) (sL z))) :: (b 3, refs g (sn z) (rfF (hOf b (sL z)) (sn z))) :: (b 4, refs g (sn z) (rfF (wOf b (sL z)) (sn z))) :: spool g b z) ++ wC g ad mc M sig z) ++ ((u_.1, refs g 8 (rfF u_.2 8)) :: tRows g 8 u_.2 chip)) ++ [(h_, refs g 0 (fun _ => none))]) := hD
          have hE := hE0.kept hS.2.1
          refine va_put (D := g.1) (ci := 5) (v := .ref h_) (ty := .array (.array .int)) (C := RX4) (T := TX4) (N := 4) hx hb hts (q_sub wsX40 238 rfl) tyX4 tyX4_ok nmX4 hown hE.K hP hD hS 0 rfl rfl 1 (by decide) (hts _ (List.mem_of_getElem? (i := 2) rfl)) (fun _ h9 => h9) rfl (by decide +kernel) rfl rfl (Nat.le_of_ble_eq_true rfl) dL_act_130 (fun H locs hP hD hS => ?_)
          have hP : va_P g.1 vwCl (((((b 0, .inr (5, [.ref u_.1, .ref h_, .ref (b 4), .ref (b 1)])) :: (b 1, ints g 20 (sst z)) :: (b 2, refs g (sL z) (rfF (cOf b) (sL z))) :: (b 3, refs g (sn z) (rfF (hOf b (sL z)) (sn z))) :: (b 4, refs g (sn z) (rfF (wOf b (sL z)) (sn z))) :: spool g b z) ++ wC g ad mc M sig z) ++ ((u_.1, refs g 8 (rfF u_.2 8)) :: tRows g 8 u_.2 chip)) ++ [(h_, refs g 0 (fun _ => none))]) H := hP
          have hD : va_D (va_A (wS g b z ++ wC g ad mc M sig z) s.heap.size) (((((b 0, .inr (5, [.ref u_.1, .ref h_, .ref (b 4), .ref (b 1)])) :: (b 1, ints g 20 (sst z)) :: (b 2, refs g (sL z) (rfF (cOf b) (sL z))) :: (b 3, refs g (sn z) (rfF (hOf b (sL z)) (sn z))) :: (b 4, refs g (sn z) (rfF (wOf b (sL z)) (sn z))) :: spool g b z) ++ wC g ad mc M sig z) ++ ((u_.1, refs g 8 (rfF u_.2 8)) :: tRows g 8 u_.2 chip)) ++ [(h_, refs g 0 (fun _ => none))]) := hD
          have hE := hE0.kept hS.2.1
          refine lv_aload_n hx hb dL_act_133 rfl (lv_at hl 5 rfl) ?_
          refine lv_iconst (v := nI 0) hx hb dL_act_134 (by decide) ?_
          refine q_newA (n := 0) hx hb hown (hts _ (List.mem_of_getElem? (i := 4) rfl)) hE hP hD hS hA (by omega) (Nat.le_of_ble_eq_true rfl) (Nat.le_of_ble_eq_true rfl) dL_act_135 (fun w_ H hP hD hS => ?_)
          have hP : va_P g.1 vwCl ((((((b 0, .inr (5, [.ref u_.1, .ref h_, .ref (b 4), .ref (b 1)])) :: (b 1, ints g 20 (sst z)) :: (b 2, refs g (sL z) (rfF (cOf b) (sL z))) :: (b 3, refs g (sn z) (rfF (hOf b (sL z)) (sn z))) :: (b 4, refs g (sn z) (rfF (wOf b (sL z)) (sn z))) :: spool g b z) ++ wC g ad mc M sig z) ++ ((u_.1, refs g 8 (rfF u_.2 8)) :: tRows g 8 u_.2 chip)) ++ [(h_, refs g 0 (fun _ => none))]) ++ [(w_, refs g 0 (fun _ => none))]) H := hP
          have hD : va_D (va_A (wS g b z ++ wC g ad mc M sig z) s.heap.size) ((((((b 0, .inr (5, [.ref u_.1, .ref h_, .ref (b 4), .ref (b 1)])) :: (b 1, ints g 20 (sst z)) :: (b 2, refs g (sL z) (rfF (cOf b) (sL z))) :: (b 3, refs g (sn z) (rfF (hOf b (sL z)) (sn z))) :: (b 4, refs g (sn z) (rfF (wOf b (sL z)) (sn z))) :: spool g b z) ++ wC g ad mc M sig z) ++ ((u_.1, refs g 8 (rfF u_.2 8)) :: tRows g 8 u_.2 chip)) ++ [(h_, refs g 0 (fun _ => none))]) ++ [(w_, refs g 0 (fun _ => none))]) := hD
          have hE := hE0.kept hS.2.1
          refine va_put (D := g.1) (ci := 5) (v := .ref w_) (ty := .array (.array .int)) (C := RX4) (T := TX4) (N := 4) hx hb hts (q_sub wsX40 238 rfl) tyX4 tyX4_ok nmX4 hown hE.K hP hD hS 0 rfl rfl 2 (by decide) (hts _ (List.mem_of_getElem? (i := 5) rfl)) (fun _ h9 => h9) rfl (by decide +kernel) rfl rfl (Nat.le_of_ble_eq_true rfl) dL_act_138 (fun H locs hP hD hS => ?_)
          have hP : va_P g.1 vwCl ((((((b 0, .inr (5, [.ref u_.1, .ref h_, .ref w_, .ref (b 1)])) :: (b 1, ints g 20 (sst z)) :: (b 2, refs g (sL z) (rfF (cOf b) (sL z))) :: (b 3, refs g (sn z) (rfF (hOf b (sL z)) (sn z))) :: (b 4, refs g (sn z) (rfF (wOf b (sL z)) (sn z))) :: spool g b z) ++ wC g ad mc M sig z) ++ ((u_.1, refs g 8 (rfF u_.2 8)) :: tRows g 8 u_.2 chip)) ++ [(h_, refs g 0 (fun _ => none))]) ++ [(w_, refs g 0 (fun _ => none))]) H := hP
          have hD : va_D (va_A (wS g b z ++ wC g ad mc M sig z) s.heap.size) ((((((b 0, .inr (5, [.ref u_.1, .ref h_, .ref w_, .ref (b 1)])) :: (b 1, ints g 20 (sst z)) :: (b 2, refs g (sL z) (rfF (cOf b) (sL z))) :: (b 3, refs g (sn z) (rfF (hOf b (sL z)) (sn z))) :: (b 4, refs g (sn z) (rfF (wOf b (sL z)) (sn z))) :: spool g b z) ++ wC g ad mc M sig z) ++ ((u_.1, refs g 8 (rfF u_.2 8)) :: tRows g 8 u_.2 chip)) ++ [(h_, refs g 0 (fun _ => none))]) ++ [(w_, refs g 0 (fun _ => none))]) := hD
          have hE := hE0.kept hS.2.1
          have hP : va_P g.1 vwCl (wS g (bB (b 0) (b 1) u_.1 h_ w_ u_.2) (zcl z (2 ^ 3)) ++ wC g ad mc M sig z) H := by rw [wS_new rfl]; exact q_spP pm_codes hP
          have hD : va_D (va_A (wS g b z ++ wC g ad mc M sig z) s.heap.size) (wS g (bB (b 0) (b 1) u_.1 h_ w_ u_.2) (zcl z (2 ^ 3)) ++ wC g ad mc M sig z) := by rw [wS_new rfl]; exact q_spD pm_codes hD
          refine lv_aload_n hx hb dL_act_141 rfl (lv_at hl 4 rfl) ?_
          refine lv_iload hx hb dL_act_142 (lv_at hl 0 rfl) ?_
          refine q_wrV (wr := wS g (bB (b 0) (b 1) u_.1 h_ w_ u_.2) (zcl z (2 ^ 3))) (As := [.int (nI 3)]) (rest := []) ⟨hx, hb, hml, hown, hts⟩ (c_X3_setCodes hM hV (q_ := 3) (by decide)) (cwV 1 hts gL_act_X3_setCodes rfl rfl rfl (by decide +kernel) ⟨Nat.le_of_ble_eq_true rfl, Nat.le_of_ble_eq_true rfl⟩) hE hP hD hS hA (va_recv hE.K (q_snd hP) (ci := 4) (q0 := 0) rfl rfl) rfl hl.1 rfl (Nat.le_of_ble_eq_true rfl) dL_act_144 ⟨Nat.le_of_ble_eq_true rfl, Nat.le_of_ble_eq_true rfl⟩ (fun _u H locs hP hD hS hE => ?_)
          have hP : va_P g.1 vwCl (wS g (bB (b 0) (b 1) u_.1 h_ w_ u_.2) (zcl z (2 ^ 3)) ++ wC g ad (mc + nI 1) (min M 1) (fillF sig (nI 0) 207) (zcl z (2 ^ 3))) H := hP
          have hD : va_D (va_A (wS g b z ++ wC g ad mc M sig z) s.heap.size) (wS g (bB (b 0) (b 1) u_.1 h_ w_ u_.2) (zcl z (2 ^ 3)) ++ wC g ad (mc + nI 1) (min M 1) (fillF sig (nI 0) 207) (zcl z (2 ^ 3))) := hD
          refine lv_iload hx hb dL_act_147 (lv_at hl 2 rfl) ?_
          refine q_icmp_ne (tgt := 156) hx hb (by omega) (by omega) dL_act_149 (by decide) (fun c_5 => ?_) (fun c_5 => ?_)
          · exact absurd rfl c_5
          · refine lv_iconst (v := nI 1) hx hb dL_act_152 (by decide) ?_
            refine lv_goto (tgt := 157) hx hb dL_act_153 (by decide) ?_
            refine W.widen (k := 40) (n := 400) (Nat.le_of_ble_eq_true rfl) (Nat.le_of_ble_eq_true rfl) ?_
            exact q_wzret (⟨((bB (b 0) (b 1) u_.1 h_ w_ u_.2), ad, mc + nI 1, min M 1, fillF sig (nI 0) 207, (zcl z (2 ^ 3))), rfl, rfl, hI.cl (q := 3) (by decide)⟩) hx hb hr hlocks rfl hP hD hS dL_act_157 rfl
        · refine lv_aload_n hx hb dL_act_114 rfl (lv_at hl 5 rfl) ?_
          refine lv_iconst (v := nI 1) hx hb dL_act_115 (by decide) ?_
          refine lv_iload hx hb dL_act_116 (lv_at hl 0 rfl) ?_
          refine q_ishl (v := nI 16) hx hb dL_act_118 (by decide) ?_
          refine q_nwS (wr := wS g b z ++ wC g ad mc M sig z) (As := [.int (nI 16)]) (rest := [.ref (b 0)]) ⟨hx, hb, hml, hown, hts⟩ (c_tab16 ) (va_cwS 1 hts gL_act_X4_table rfl rfl rfl (by decide +kernel) ⟨Nat.le_of_ble_eq_true rfl, Nat.le_of_ble_eq_true rfl⟩) hE hP hD hS hA trivial rfl hl.1 rfl (Nat.le_of_ble_eq_true rfl) dL_act_119 ⟨Nat.le_of_ble_eq_true rfl, Nat.le_of_ble_eq_true rfl⟩ (fun u_ H locs hP hD hS hE => ?_)
          have hP : va_P g.1 vwCl ((wS g b z ++ wC g ad mc M sig z) ++ ((u_.1, refs g 16 (rfF u_.2 16)) :: tRows g 16 u_.2 chip)) H := hP
          have hD : va_D (va_A (wS g b z ++ wC g ad mc M sig z) s.heap.size) ((wS g b z ++ wC g ad mc M sig z) ++ ((u_.1, refs g 16 (rfF u_.2 16)) :: tRows g 16 u_.2 chip)) := hD
          refine va_put (D := g.1) (ci := 5) (v := .ref u_.1) (ty := .array (.array .int)) (C := RX4) (T := TX4) (N := 4) hx hb hts (q_sub wsX40 238 rfl) tyX4 tyX4_ok nmX4 hown hE.K hP hD hS 0 rfl rfl 0 (by decide) (hts _ (List.mem_of_getElem? (i := 3) rfl)) (fun _ h9 => h9) rfl (by decide +kernel) rfl rfl (Nat.le_of_ble_eq_true rfl) dL_act_122 (fun H locs hP hD hS => ?_)
          have hP : va_P g.1 vwCl ((((b 0, .inr (5, [.ref u_.1, .ref (b 3), .ref (b 4), .ref (b 1)])) :: (b 1, ints g 20 (sst z)) :: (b 2, refs g (sL z) (rfF (cOf b) (sL z))) :: (b 3, refs g (sn z) (rfF (hOf b (sL z)) (sn z))) :: (b 4, refs g (sn z) (rfF (wOf b (sL z)) (sn z))) :: spool g b z) ++ wC g ad mc M sig z) ++ ((u_.1, refs g 16 (rfF u_.2 16)) :: tRows g 16 u_.2 chip)) H := hP
          have hD : va_D (va_A (wS g b z ++ wC g ad mc M sig z) s.heap.size) ((((b 0, .inr (5, [.ref u_.1, .ref (b 3), .ref (b 4), .ref (b 1)])) :: (b 1, ints g 20 (sst z)) :: (b 2, refs g (sL z) (rfF (cOf b) (sL z))) :: (b 3, refs g (sn z) (rfF (hOf b (sL z)) (sn z))) :: (b 4, refs g (sn z) (rfF (wOf b (sL z)) (sn z))) :: spool g b z) ++ wC g ad mc M sig z) ++ ((u_.1, refs g 16 (rfF u_.2 16)) :: tRows g 16 u_.2 chip)) := hD
          have hE := hE0.kept hS.2.1
          refine lv_aload_n hx hb dL_act_125 rfl (lv_at hl 5 rfl) ?_
          refine lv_iconst (v := nI 0) hx hb dL_act_126 (by decide) ?_
          refine q_newA (n := 0) hx hb hown (hts _ (List.mem_of_getElem? (i := 4) rfl)) hE hP hD hS hA (by omega) (Nat.le_of_ble_eq_true rfl) (Nat.le_of_ble_eq_true rfl) dL_act_127 (fun h_ H hP hD hS => ?_)
          have hP : va_P g.1 vwCl (((((b 0, .inr (5, [.ref u_.1, .ref (b 3), .ref (b 4), .ref (b 1)])) :: (b 1, ints g 20 (sst z)) :: (b 2, refs g (sL z) (rfF (cOf b) (sL z))) :: (b 3, refs g (sn z) (rfF (hOf b (sL z)) (sn z))) :: (b 4, refs g (sn z) (rfF (wOf b (sL z)) (sn z))) :: spool g b z) ++ wC g ad mc M sig z) ++ ((u_.1, refs g 16 (rfF u_.2 16)) :: tRows g 16 u_.2 chip)) ++ [(h_, refs g 0 (fun _ => none))]) H := hP
          have hD : va_D (va_A (wS g b z ++ wC g ad mc M sig z) s.heap.size) (((((b 0, .inr (5, [.ref u_.1, .ref (b 3), .ref (b 4), .ref (b 1)])) :: (b 1, ints g 20 (sst z)) :: (b 2, refs g (sL z) (rfF (cOf b) (sL z))) :: (b 3, refs g (sn z) (rfF (hOf b (sL z)) (sn z))) :: (b 4, refs g (sn z) (rfF (wOf b (sL z)) (sn z))) :: spool g b z) ++ wC g ad mc M sig z) ++ ((u_.1, refs g 16 (rfF u_.2 16)) :: tRows g 16 u_.2 chip)) ++ [(h_, refs g 0 (fun _ => none))]) := hD
          have hE := hE0.kept hS.2.1
          refine va_put (D := g.1) (ci := 5) (v := .ref h_) (ty := .array (.array .int)) (C := RX4) (T := TX4) (N := 4) hx hb hts (q_sub wsX40 238 rfl) tyX4 tyX4_ok nmX4 hown hE.K hP hD hS 0 rfl rfl 1 (by decide) (hts _ (List.mem_of_getElem? (i := 2) rfl)) (fun _ h9 => h9) rfl (by decide +kernel) rfl rfl (Nat.le_of_ble_eq_true rfl) dL_act_130 (fun H locs hP hD hS => ?_)
          have hP : va_P g.1 vwCl (((((b 0, .inr (5, [.ref u_.1, .ref h_, .ref (b 4), .ref (b 1)])) :: (b 1, ints g 20 (sst z)) :: (b 2, refs g (sL z) (rfF (cOf b) (sL z))) :: (b 3, refs g (sn z) (rfF (hOf b (sL z)) (sn z))) :: (b 4, refs g (sn z) (rfF (wOf b (sL z)) (sn z))) :: spool g b z) ++ wC g ad mc M sig z) ++ ((u_.1, refs g 16 (rfF u_.2 16)) :: tRows g 16 u_.2 chip)) ++ [(h_, refs g 0 (fun _ => none))]) H := hP
          have hD : va_D (va_A (wS g b z ++ wC g ad mc M sig z) s.heap.size) (((((b 0, .inr (5, [.ref u_.1, .ref h_, .ref (b 4), .ref (b 1)])) :: (b 1, ints g 20 (sst z)) :: (b 2, refs g (sL z) (rfF (cOf b) (sL z))) :: (b 3, refs g (sn z) (rfF (hOf b (sL z)) (sn z))) :: (b 4, refs g (sn z) (rfF (wOf b (sL z)) (sn z))) :: spool g b z) ++ wC g ad mc M sig z) ++ ((u_.1, refs g 16 (rfF u_.2 16)) :: tRows g 16 u_.2 chip)) ++ [(h_, refs g 0 (fun _ => none))]) := hD
          have hE := hE0.kept hS.2.1
          refine lv_aload_n hx hb dL_act_133 rfl (lv_at hl 5 rfl) ?_
          refine lv_iconst (v := nI 0) hx hb dL_act_134 (by decide) ?_
          refine q_newA (n := 0) hx hb hown (hts _ (List.mem_of_getElem? (i := 4) rfl)) hE hP hD hS hA (by omega) (Nat.le_of_ble_eq_true rfl) (Nat.le_of_ble_eq_true rfl) dL_act_135 (fun w_ H hP hD hS => ?_)
          have hP : va_P g.1 vwCl ((((((b 0, .inr (5, [.ref u_.1, .ref h_, .ref (b 4), .ref (b 1)])) :: (b 1, ints g 20 (sst z)) :: (b 2, refs g (sL z) (rfF (cOf b) (sL z))) :: (b 3, refs g (sn z) (rfF (hOf b (sL z)) (sn z))) :: (b 4, refs g (sn z) (rfF (wOf b (sL z)) (sn z))) :: spool g b z) ++ wC g ad mc M sig z) ++ ((u_.1, refs g 16 (rfF u_.2 16)) :: tRows g 16 u_.2 chip)) ++ [(h_, refs g 0 (fun _ => none))]) ++ [(w_, refs g 0 (fun _ => none))]) H := hP
          have hD : va_D (va_A (wS g b z ++ wC g ad mc M sig z) s.heap.size) ((((((b 0, .inr (5, [.ref u_.1, .ref h_, .ref (b 4), .ref (b 1)])) :: (b 1, ints g 20 (sst z)) :: (b 2, refs g (sL z) (rfF (cOf b) (sL z))) :: (b 3, refs g (sn z) (rfF (hOf b (sL z)) (sn z))) :: (b 4, refs g (sn z) (rfF (wOf b (sL z)) (sn z))) :: spool g b z) ++ wC g ad mc M sig z) ++ ((u_.1, refs g 16 (rfF u_.2 16)) :: tRows g 16 u_.2 chip)) ++ [(h_, refs g 0 (fun _ => none))]) ++ [(w_, refs g 0 (fun _ => none))]) := hD
          have hE := hE0.kept hS.2.1
          refine va_put (D := g.1) (ci := 5) (v := .ref w_) (ty := .array (.array .int)) (C := RX4) (T := TX4) (N := 4) hx hb hts (q_sub wsX40 238 rfl) tyX4 tyX4_ok nmX4 hown hE.K hP hD hS 0 rfl rfl 2 (by decide) (hts _ (List.mem_of_getElem? (i := 5) rfl)) (fun _ h9 => h9) rfl (by decide +kernel) rfl rfl (Nat.le_of_ble_eq_true rfl) dL_act_138 (fun H locs hP hD hS => ?_)
          have hP : va_P g.1 vwCl ((((((b 0, .inr (5, [.ref u_.1, .ref h_, .ref w_, .ref (b 1)])) :: (b 1, ints g 20 (sst z)) :: (b 2, refs g (sL z) (rfF (cOf b) (sL z))) :: (b 3, refs g (sn z) (rfF (hOf b (sL z)) (sn z))) :: (b 4, refs g (sn z) (rfF (wOf b (sL z)) (sn z))) :: spool g b z) ++ wC g ad mc M sig z) ++ ((u_.1, refs g 16 (rfF u_.2 16)) :: tRows g 16 u_.2 chip)) ++ [(h_, refs g 0 (fun _ => none))]) ++ [(w_, refs g 0 (fun _ => none))]) H := hP
          have hD : va_D (va_A (wS g b z ++ wC g ad mc M sig z) s.heap.size) ((((((b 0, .inr (5, [.ref u_.1, .ref h_, .ref w_, .ref (b 1)])) :: (b 1, ints g 20 (sst z)) :: (b 2, refs g (sL z) (rfF (cOf b) (sL z))) :: (b 3, refs g (sn z) (rfF (hOf b (sL z)) (sn z))) :: (b 4, refs g (sn z) (rfF (wOf b (sL z)) (sn z))) :: spool g b z) ++ wC g ad mc M sig z) ++ ((u_.1, refs g 16 (rfF u_.2 16)) :: tRows g 16 u_.2 chip)) ++ [(h_, refs g 0 (fun _ => none))]) ++ [(w_, refs g 0 (fun _ => none))]) := hD
          have hE := hE0.kept hS.2.1
          have hP : va_P g.1 vwCl (wS g (bB (b 0) (b 1) u_.1 h_ w_ u_.2) (zcl z (2 ^ 4)) ++ wC g ad mc M sig z) H := by rw [wS_new rfl]; exact q_spP pm_codes hP
          have hD : va_D (va_A (wS g b z ++ wC g ad mc M sig z) s.heap.size) (wS g (bB (b 0) (b 1) u_.1 h_ w_ u_.2) (zcl z (2 ^ 4)) ++ wC g ad mc M sig z) := by rw [wS_new rfl]; exact q_spD pm_codes hD
          refine lv_aload_n hx hb dL_act_141 rfl (lv_at hl 4 rfl) ?_
          refine lv_iload hx hb dL_act_142 (lv_at hl 0 rfl) ?_
          refine q_wrV (wr := wS g (bB (b 0) (b 1) u_.1 h_ w_ u_.2) (zcl z (2 ^ 4))) (As := [.int (nI 4)]) (rest := []) ⟨hx, hb, hml, hown, hts⟩ (c_X3_setCodes hM hV (q_ := 4) (by decide)) (cwV 1 hts gL_act_X3_setCodes rfl rfl rfl (by decide +kernel) ⟨Nat.le_of_ble_eq_true rfl, Nat.le_of_ble_eq_true rfl⟩) hE hP hD hS hA (va_recv hE.K (q_snd hP) (ci := 4) (q0 := 0) rfl rfl) rfl hl.1 rfl (Nat.le_of_ble_eq_true rfl) dL_act_144 ⟨Nat.le_of_ble_eq_true rfl, Nat.le_of_ble_eq_true rfl⟩ (fun _u H locs hP hD hS hE => ?_)
          have hP : va_P g.1 vwCl (wS g (bB (b 0) (b 1) u_.1 h_ w_ u_.2) (zcl z (2 ^ 4)) ++ wC g ad (mc + nI 1) (min M 1) (fillF sig (nI 0) 207) (zcl z (2 ^ 4))) H := hP
          have hD : va_D (va_A (wS g b z ++ wC g ad mc M sig z) s.heap.size) (wS g (bB (b 0) (b 1) u_.1 h_ w_ u_.2) (zcl z (2 ^ 4)) ++ wC g ad (mc + nI 1) (min M 1) (fillF sig (nI 0) 207) (zcl z (2 ^ 4))) := hD
          refine lv_iload hx hb dL_act_147 (lv_at hl 2 rfl) ?_
          refine q_icmp_ne (tgt := 156) hx hb (by omega) (by omega) dL_act_149 (by decide) (fun c_6 => ?_) (fun c_6 => ?_)
          · exact absurd rfl c_6
          · refine lv_iconst (v := nI 1) hx hb dL_act_152 (by decide) ?_
            refine lv_goto (tgt := 157) hx hb dL_act_153 (by decide) ?_
            refine W.widen (k := 40) (n := 400) (Nat.le_of_ble_eq_true rfl) (Nat.le_of_ble_eq_true rfl) ?_
            exact q_wzret (⟨((bB (b 0) (b 1) u_.1 h_ w_ u_.2), ad, mc + nI 1, min M 1, fillF sig (nI 0) 207, (zcl z (2 ^ 4))), rfl, rfl, hI.cl (q := 4) (by decide)⟩) hx hb hr hlocks rfl hP hD hS dL_act_157 rfl
      · refine lv_iconst (v := nI 1) hx hb dL_act_102 (by decide) ?_
        refine W.widen (k := 40) (n := 400) (Nat.le_of_ble_eq_true rfl) (Nat.le_of_ble_eq_true rfl) ?_
        exact q_wzret (⟨(b, ad, mc, M, sig, z), rfl, rfl, hI⟩) hx hb hr hlocks rfl hP hD hS dL_act_103 rfl
    · refine lv_tableIn (off := 123) (tgt := 158) hx hb dL_act_35 (by rcases e14 with e14 | e14 <;> rw [e14] <;> decide) (by rcases e14 with e14 | e14 <;> rw [e14] <;> decide) (by rcases e14 with e14 | e14 <;> rw [e14] <;> rfl) (by decide) ?_
      refine lv_iload_n hx hb dL_act_158 rfl (lv_at hl 5 rfl) ?_
      refine lv_iconst (v := nI 5) hx hb dL_act_159 (by decide) ?_
      refine q_ishr (v := sh x 5) hx hb dL_act_160 rfl ?_
      refine lv_iload hx hb dL_act_161 (lv_at hl 1 rfl) ?_
      refine q_roS (As := [.int (sh x 5), .int (nI (sL z))]) (rest := []) ⟨hx, hb, hml, hown, hts⟩ (c_L_below (x := sh x 5) (n := sL z) (by omega) (by omega)) (va_cwS 2 hts gL_act_L_below rfl rfl rfl (by decide +kernel) ⟨Nat.le_of_ble_eq_true rfl, Nat.le_of_ble_eq_true rfl⟩) hE (fun q h => hA q (Nat.le_trans hS.1 h)) trivial rfl hl.1 rfl (Nat.le_of_ble_eq_true rfl) dL_act_163 ⟨Nat.le_of_ble_eq_true rfl, Nat.le_of_ble_eq_true rfl⟩ ?_
      obtain ⟨a, ha_, ea⟩ : ∃ a, a < sL z ∧ bel (sh x 5) (sL z) = a := ⟨_, bel_lt (by omega), rfl⟩
      rw [ea]
      refine lv_istore (lv' := [(7, .int (nI a)), (5, .int (nI k)), (4, .int (nI (sL z))), (3, .int (nI (sn z))), (0, .ref (ad 0)), (1, .ref (b 0)), (2, .int x)]) hx hb dL_act_166 hl (by decide) rfl (fun ls hl => ?_)
      refine lv_iconst (v := nI 1) hx hb dL_act_168 (by decide) ?_
      refine lv_iload_n hx hb dL_act_169 rfl (lv_at hl 6 rfl) ?_
      refine lv_bipush (v := nI 7) hx hb dL_act_170 (by decide) ?_
      refine q_ishr (v := sh x 7) hx hb dL_act_172 rfl ?_
      refine lv_bipush (v := nI 9) hx hb dL_act_173 (by decide) ?_
      refine q_roS (As := [.int (sh x 7), .int (nI 9)]) (rest := [.int (nI 1)]) ⟨hx, hb, hml, hown, hts⟩ (c_L_below (x := sh x 7) (n := 9) (by omega) (by omega)) (va_cwS 2 hts gL_act_L_below rfl rfl rfl (by decide +kernel) ⟨Nat.le_of_ble_eq_true rfl, Nat.le_of_ble_eq_true rfl⟩) hE (fun q h => hA q (Nat.le_trans hS.1 h)) trivial rfl hl.1 rfl (Nat.le_of_ble_eq_true rfl) dL_act_175 ⟨Nat.le_of_ble_eq_true rfl, Nat.le_of_ble_eq_true rfl⟩ ?_
      refine q_iadd (v := nI (1 + bel (sh x 7) 9)) hx hb dL_act_178 (nI_add _ _) ?_
      obtain ⟨s_, h1_, h9_, es⟩ : ∃ s_, 1 ≤ s_ ∧ s_ ≤ 9 ∧ 1 + bel (sh x 7) 9 = s_ := ⟨_, by omega, by have := bel_lt (x := sh x 7) (n := 9) (by omega); omega, rfl⟩
      rw [es]
      refine lv_istore (lv' := [(8, .int (nI s_)), (7, .int (nI a)), (5, .int (nI k)), (4, .int (nI (sL z))), (3, .int (nI (sn z))), (0, .ref (ad 0)), (1, .ref (b 0)), (2, .int x)]) hx hb dL_act_179 hl (by decide) rfl (fun ls hl => ?_)
      by_cases hf_ : sn z < 8
      · refine lv_aload_n hx hb dL_act_181 rfl (lv_at hl 5 rfl) ?_
        refine lv_iload hx hb dL_act_182 (lv_at hl 1 rfl) ?_
        refine lv_iload hx hb dL_act_184 (lv_at hl 0 rfl) ?_
        refine q_wrV (wr := wS g b z) (As := [.int (nI a), .int (nI s_)]) (rest := []) ⟨hx, hb, hml, hown, hts⟩ (c_X3_hill hM hV ha_ h1_ h9_ hf_) (cwV 2 hts gL_act_X3_hill rfl rfl rfl (by decide +kernel) ⟨Nat.le_of_ble_eq_true rfl, Nat.le_of_ble_eq_true rfl⟩) hE hP hD hS hA (va_recv hE.K (q_snd hP) (ci := 4) (q0 := 0) rfl rfl) rfl hl.1 rfl (Nat.le_of_ble_eq_true rfl) dL_act_186 ⟨Nat.le_of_ble_eq_true rfl, Nat.le_of_ble_eq_true rfl⟩ (fun v_ H locs hP hD hS hE => ?_)
        have hP : va_P g.1 vwCl (wS g b z ++ wC g (adH ad (sn z) v_.1 v_.2.1 v_.2.2) (mc + nI 1) (2 * sn z + 3) sig (zhl z a s_)) H := hP
        have hD : va_D (va_A (wS g b z ++ wC g ad mc M sig z) s.heap.size) (wS g b z ++ wC g (adH ad (sn z) v_.1 v_.2.1 v_.2.2) (mc + nI 1) (2 * sn z + 3) sig (zhl z a s_)) := hD
        refine lv_istore (lv' := [(6, .int (nI (sn z))), (8, .int (nI s_)), (7, .int (nI a)), (5, .int (nI k)), (4, .int (nI (sL z))), (3, .int (nI (sn z))), (0, .ref (ad 0)), (1, .ref (b 0)), (2, .int x)]) hx hb dL_act_189 hl (by decide) rfl (fun ls hl => ?_)
        refine lv_goto (tgt := 199) hx hb dL_act_191 (by decide) ?_
        refine lv_iload_n hx hb dL_act_199 rfl (lv_at hl 5 rfl) ?_
        refine lv_bipush (v := nI 8) hx hb dL_act_200 (by decide) ?_
        refine q_icmp_ge (tgt := 247) hx hb (by omega) (by omega) dL_act_202 (by decide) (fun c_7 => ?_) (fun c_7 => ?_)
        · exact absurd hf_ (by omega)
        · refine lv_aload_n hx hb dL_act_205 rfl (lv_at hl 7 rfl) ?_
          refine lv_aload_n hx hb dL_act_206 rfl (lv_at hl 7 rfl) ?_
          refine va_get (v := .ref (b 3)) (C := RX4) (T := TX4) (N := 4) hx hb hts (q_sub wsX40 238 rfl) hown hE.K hP 0 rfl rfl 1 (by decide) (hts _ (List.mem_of_getElem? (i := 2) rfl)) (fun _ h9 => h9) rfl dL_act_207 ?_
          refine lv_iconst (v := nI 3) hx hb dL_act_210 (by decide) ?_
          refine q_newI (n := 3) hx hb (hts _ (List.mem_of_getElem? (i := 6) rfl)) hE hP hD hS hA (by omega) (Nat.le_of_ble_eq_true rfl) (Nat.le_of_ble_eq_true rfl) dL_act_211 (fun r1 H hP hD hS => ?_)
          have hP : va_P g.1 vwCl ((wS g b z ++ wC g (adH ad (sn z) v_.1 v_.2.1 v_.2.2) (mc + nI 1) (2 * sn z + 3) sig (zhl z a s_)) ++ [(r1, ints g 3 (fun _ => 0))]) H := hP
          have hD : va_D (va_A (wS g b z ++ wC g ad mc M sig z) s.heap.size) ((wS g b z ++ wC g (adH ad (sn z) v_.1 v_.2.1 v_.2.2) (mc + nI 1) (2 * sn z + 3) sig (zhl z a s_)) ++ [(r1, ints g 3 (fun _ => 0))]) := hD
          have hE := hE0.kept hS.2.1
          refine lv_dup hx hb dL_act_213 rfl ?_
          refine lv_iconst (v := nI 0) hx hb dL_act_214 (by decide) ?_
          refine lv_iload hx hb dL_act_215 (lv_at hl 2 rfl) ?_
          refine q_iast hx hb hE hP hD hS (q0 := (wS g b z ++ wC g (adH ad (sn z) v_.1 v_.2.1 v_.2.2) (mc + nI 1) (2 * sn z + 3) sig (zhl z a s_)).length) q_apR (by omega) (by omega) dL_act_217 (fun H locs hP hD hS => ?_)
          have hP : va_P g.1 vwCl ((wS g b z ++ wC g (adH ad (sn z) v_.1 v_.2.1 v_.2.2) (mc + nI 1) (2 * sn z + 3) sig (zhl z a s_)) ++ [(r1, ints g 3 (upd (fun _ => 0) 0 (nI a)))]) H := (fun h => by rw [q_setL] at h; exact h) hP
          have hD : va_D (va_A (wS g b z ++ wC g ad mc M sig z) s.heap.size) ((wS g b z ++ wC g (adH ad (sn z) v_.1 v_.2.1 v_.2.2) (mc + nI 1) (2 * sn z + 3) sig (zhl z a s_)) ++ [(r1, ints g 3 (upd (fun _ => 0) 0 (nI a)))]) := (fun h => by rw [q_setL] at h; exact h) hD
          have hE := hE0.kept hS.2.1
          refine lv_dup hx hb dL_act_218 rfl ?_
          refine lv_iconst (v := nI 1) hx hb dL_act_219 (by decide) ?_
          refine lv_iload hx hb dL_act_220 (lv_at hl 1 rfl) ?_
          refine q_iast hx hb hE hP hD hS (q0 := (wS g b z ++ wC g (adH ad (sn z) v_.1 v_.2.1 v_.2.2) (mc + nI 1) (2 * sn z + 3) sig (zhl z a s_)).length) q_apR (by omega) (by omega) dL_act_222 (fun H locs hP hD hS => ?_)
          have hP : va_P g.1 vwCl ((wS g b z ++ wC g (adH ad (sn z) v_.1 v_.2.1 v_.2.2) (mc + nI 1) (2 * sn z + 3) sig (zhl z a s_)) ++ [(r1, ints g 3 (upd (upd (fun _ => 0) 0 (nI a)) 1 (nI s_)))]) H := (fun h => by rw [q_setL] at h; exact h) hP
          have hD : va_D (va_A (wS g b z ++ wC g ad mc M sig z) s.heap.size) ((wS g b z ++ wC g (adH ad (sn z) v_.1 v_.2.1 v_.2.2) (mc + nI 1) (2 * sn z + 3) sig (zhl z a s_)) ++ [(r1, ints g 3 (upd (upd (fun _ => 0) 0 (nI a)) 1 (nI s_)))]) := (fun h => by rw [q_setL] at h; exact h) hD
          have hE := hE0.kept hS.2.1
          refine lv_dup hx hb dL_act_223 rfl ?_
          refine lv_iconst (v := nI 2) hx hb dL_act_224 (by decide) ?_
          refine lv_iconst (v := nI 0) hx hb dL_act_225 (by decide) ?_
          refine q_iast hx hb hE hP hD hS (q0 := (wS g b z ++ wC g (adH ad (sn z) v_.1 v_.2.1 v_.2.2) (mc + nI 1) (2 * sn z + 3) sig (zhl z a s_)).length) q_apR (by omega) (by omega) dL_act_226 (fun H locs hP hD hS => ?_)
          have hP : va_P g.1 vwCl ((wS g b z ++ wC g (adH ad (sn z) v_.1 v_.2.1 v_.2.2) (mc + nI 1) (2 * sn z + 3) sig (zhl z a s_)) ++ [(r1, ints g 3 (hrw (zhl z a s_) (sn z)))]) H := (fun h => by rw [q_setL, hrw_n] at h; exact h) hP
          have hD : va_D (va_A (wS g b z ++ wC g ad mc M sig z) s.heap.size) ((wS g b z ++ wC g (adH ad (sn z) v_.1 v_.2.1 v_.2.2) (mc + nI 1) (2 * sn z + 3) sig (zhl z a s_)) ++ [(r1, ints g 3 (hrw (zhl z a s_) (sn z)))]) := (fun h => by rw [q_setL, hrw_n] at h; exact h) hD
          have hE := hE0.kept hS.2.1
          refine q_nwS (wr := (wS g b z ++ wC g (adH ad (sn z) v_.1 v_.2.1 v_.2.2) (mc + nI 1) (2 * sn z + 3) sig (zhl z a s_)) ++ [(r1, ints g 3 (hrw (zhl z a s_) (sn z)))]) (As := [.ref (b 3), .ref r1]) (rest := [.ref (b 0)]) ⟨hx, hb, hml, hown, hts⟩ (c_X4_more (n := sn z) (a := b 3) (r := r1) (kr := 3) (ra := hOf b (sL z)) (ln := fun _ => 3) (fr := hrw (zhl z a s_) (sn z)) (fi := fun i => hrw z i) (by omega)) (va_cwS 2 hts gL_act_X4_more rfl rfl rfl (by decide +kernel) ⟨Nat.le_of_ble_eq_true rfl, Nat.le_of_ble_eq_true rfl⟩) hE hP hD hS hA ⟨hP 3 _ rfl, hP _ _ q_apR, fun i hi => hP _ _ (q_apL (q_apL (wS_h hi)))⟩ rfl hl.1 rfl (Nat.le_of_ble_eq_true rfl) dL_act_227 ⟨Nat.le_of_ble_eq_true rfl, Nat.le_of_ble_eq_true rfl⟩ (fun h_ H locs hP hD hS hE => ?_)
          have hP : va_P g.1 vwCl (((wS g b z ++ wC g (adH ad (sn z) v_.1 v_.2.1 v_.2.2) (mc + nI 1) (2 * sn z + 3) sig (zhl z a s_)) ++ [(r1, ints g 3 (hrw (zhl z a s_) (sn z)))]) ++ [(h_, refs g (sn z + 1) (rfF (upN (hOf b (sL z)) (sn z) r1) (sn z + 1)))]) H := hP
          have hD : va_D (va_A (wS g b z ++ wC g ad mc M sig z) s.heap.size) (((wS g b z ++ wC g (adH ad (sn z) v_.1 v_.2.1 v_.2.2) (mc + nI 1) (2 * sn z + 3) sig (zhl z a s_)) ++ [(r1, ints g 3 (hrw (zhl z a s_) (sn z)))]) ++ [(h_, refs g (sn z + 1) (rfF (upN (hOf b (sL z)) (sn z) r1) (sn z + 1)))]) := hD
          refine va_put (D := g.1) (ci := 5) (v := .ref h_) (ty := .array (.array .int)) (C := RX4) (T := TX4) (N := 4) hx hb hts (q_sub wsX40 238 rfl) tyX4 tyX4_ok nmX4 hown hE.K hP hD hS 0 rfl rfl 1 (by decide) (hts _ (List.mem_of_getElem? (i := 2) rfl)) (fun _ h9 => h9) rfl (by decide +kernel) rfl rfl (Nat.le_of_ble_eq_true rfl) dL_act_230 (fun H locs hP hD hS => ?_)
          have hP : va_P g.1 vwCl (((((b 0, .inr (5, [.ref (b 2), .ref h_, .ref (b 4), .ref (b 1)])) :: (b 1, ints g 20 (sst z)) :: (b 2, refs g (sL z) (rfF (cOf b) (sL z))) :: (b 3, refs g (sn z) (rfF (hOf b (sL z)) (sn z))) :: (b 4, refs g (sn z) (rfF (wOf b (sL z)) (sn z))) :: spool g b z) ++ wC g (adH ad (sn z) v_.1 v_.2.1 v_.2.2) (mc + nI 1) (2 * sn z + 3) sig (zhl z a s_)) ++ [(r1, ints g 3 (hrw (zhl z a s_) (sn z)))]) ++ [(h_, refs g (sn z + 1) (rfF (upN (hOf b (sL z)) (sn z) r1) (sn z + 1)))]) H := hP
          have hD : va_D (va_A (wS g b z ++ wC g ad mc M sig z) s.heap.size) (((((b 0, .inr (5, [.ref (b 2), .ref h_, .ref (b 4), .ref (b 1)])) :: (b 1, ints g 20 (sst z)) :: (b 2, refs g (sL z) (rfF (cOf b) (sL z))) :: (b 3, refs g (sn z) (rfF (hOf b (sL z)) (sn z))) :: (b 4, refs g (sn z) (rfF (wOf b (sL z)) (sn z))) :: spool g b z) ++ wC g (adH ad (sn z) v_.1 v_.2.1 v_.2.2) (mc + nI 1) (2 * sn z + 3) sig (zhl z a s_)) ++ [(r1, ints g 3 (hrw (zhl z a s_) (sn z)))]) ++ [(h_, refs g (sn z + 1) (rfF (upN (hOf b (sL z)) (sn z) r1) (sn z + 1)))]) := hD
          have hE := hE0.kept hS.2.1
          refine lv_aload_n hx hb dL_act_233 rfl (lv_at hl 7 rfl) ?_
          refine lv_aload_n hx hb dL_act_234 rfl (lv_at hl 7 rfl) ?_
          refine va_get (v := .ref (b 4)) (C := RX4) (T := TX4) (N := 4) hx hb hts (q_sub wsX40 238 rfl) hown hE.K hP 0 rfl rfl 2 (by decide) (hts _ (List.mem_of_getElem? (i := 5) rfl)) (fun _ h9 => h9) rfl dL_act_235 ?_
          refine lv_iconst (v := nI 0) hx hb dL_act_238 (by decide) ?_
          refine q_newI (n := 0) hx hb (hts _ (List.mem_of_getElem? (i := 6) rfl)) hE hP hD hS hA (by omega) (Nat.le_of_ble_eq_true rfl) (Nat.le_of_ble_eq_true rfl) dL_act_239 (fun r2 H hP hD hS => ?_)
          have hP : va_P g.1 vwCl ((((((b 0, .inr (5, [.ref (b 2), .ref h_, .ref (b 4), .ref (b 1)])) :: (b 1, ints g 20 (sst z)) :: (b 2, refs g (sL z) (rfF (cOf b) (sL z))) :: (b 3, refs g (sn z) (rfF (hOf b (sL z)) (sn z))) :: (b 4, refs g (sn z) (rfF (wOf b (sL z)) (sn z))) :: spool g b z) ++ wC g (adH ad (sn z) v_.1 v_.2.1 v_.2.2) (mc + nI 1) (2 * sn z + 3) sig (zhl z a s_)) ++ [(r1, ints g 3 (hrw (zhl z a s_) (sn z)))]) ++ [(h_, refs g (sn z + 1) (rfF (upN (hOf b (sL z)) (sn z) r1) (sn z + 1)))]) ++ [(r2, ints g 0 (fun _ => 0))]) H := hP
          have hD : va_D (va_A (wS g b z ++ wC g ad mc M sig z) s.heap.size) ((((((b 0, .inr (5, [.ref (b 2), .ref h_, .ref (b 4), .ref (b 1)])) :: (b 1, ints g 20 (sst z)) :: (b 2, refs g (sL z) (rfF (cOf b) (sL z))) :: (b 3, refs g (sn z) (rfF (hOf b (sL z)) (sn z))) :: (b 4, refs g (sn z) (rfF (wOf b (sL z)) (sn z))) :: spool g b z) ++ wC g (adH ad (sn z) v_.1 v_.2.1 v_.2.2) (mc + nI 1) (2 * sn z + 3) sig (zhl z a s_)) ++ [(r1, ints g 3 (hrw (zhl z a s_) (sn z)))]) ++ [(h_, refs g (sn z + 1) (rfF (upN (hOf b (sL z)) (sn z) r1) (sn z + 1)))]) ++ [(r2, ints g 0 (fun _ => 0))]) := hD
          have hE := hE0.kept hS.2.1
          refine q_nwS (wr := (((((b 0, .inr (5, [.ref (b 2), .ref h_, .ref (b 4), .ref (b 1)])) :: (b 1, ints g 20 (sst z)) :: (b 2, refs g (sL z) (rfF (cOf b) (sL z))) :: (b 3, refs g (sn z) (rfF (hOf b (sL z)) (sn z))) :: (b 4, refs g (sn z) (rfF (wOf b (sL z)) (sn z))) :: spool g b z) ++ wC g (adH ad (sn z) v_.1 v_.2.1 v_.2.2) (mc + nI 1) (2 * sn z + 3) sig (zhl z a s_)) ++ [(r1, ints g 3 (hrw (zhl z a s_) (sn z)))]) ++ [(h_, refs g (sn z + 1) (rfF (upN (hOf b (sL z)) (sn z) r1) (sn z + 1)))]) ++ [(r2, ints g 0 (fun _ => 0))]) (As := [.ref (b 4), .ref r2]) (rest := [.ref (b 0)]) ⟨hx, hb, hml, hown, hts⟩ (c_X4_more (n := sn z) (a := b 4) (r := r2) (kr := 0) (ra := wOf b (sL z)) (ln := fun i => ssd z i) (fr := fun _ => 0) (fi := fun i => swd z i) (by omega)) (va_cwS 2 hts gL_act_X4_more rfl rfl rfl (by decide +kernel) ⟨Nat.le_of_ble_eq_true rfl, Nat.le_of_ble_eq_true rfl⟩) hE hP hD hS hA ⟨hP 4 _ rfl, hP _ _ q_apR, fun i hi => hP _ _ (q_apL (q_apL (q_apL (q_apL (wO_w hi)))))⟩ rfl hl.1 rfl (Nat.le_of_ble_eq_true rfl) dL_act_241 ⟨Nat.le_of_ble_eq_true rfl, Nat.le_of_ble_eq_true rfl⟩ (fun w_ H locs hP hD hS hE => ?_)
          have hP : va_P g.1 vwCl (((((((b 0, .inr (5, [.ref (b 2), .ref h_, .ref (b 4), .ref (b 1)])) :: (b 1, ints g 20 (sst z)) :: (b 2, refs g (sL z) (rfF (cOf b) (sL z))) :: (b 3, refs g (sn z) (rfF (hOf b (sL z)) (sn z))) :: (b 4, refs g (sn z) (rfF (wOf b (sL z)) (sn z))) :: spool g b z) ++ wC g (adH ad (sn z) v_.1 v_.2.1 v_.2.2) (mc + nI 1) (2 * sn z + 3) sig (zhl z a s_)) ++ [(r1, ints g 3 (hrw (zhl z a s_) (sn z)))]) ++ [(h_, refs g (sn z + 1) (rfF (upN (hOf b (sL z)) (sn z) r1) (sn z + 1)))]) ++ [(r2, ints g 0 (fun _ => 0))]) ++ [(w_, refs g (sn z + 1) (rfF (upN (wOf b (sL z)) (sn z) r2) (sn z + 1)))]) H := hP
          have hD : va_D (va_A (wS g b z ++ wC g ad mc M sig z) s.heap.size) (((((((b 0, .inr (5, [.ref (b 2), .ref h_, .ref (b 4), .ref (b 1)])) :: (b 1, ints g 20 (sst z)) :: (b 2, refs g (sL z) (rfF (cOf b) (sL z))) :: (b 3, refs g (sn z) (rfF (hOf b (sL z)) (sn z))) :: (b 4, refs g (sn z) (rfF (wOf b (sL z)) (sn z))) :: spool g b z) ++ wC g (adH ad (sn z) v_.1 v_.2.1 v_.2.2) (mc + nI 1) (2 * sn z + 3) sig (zhl z a s_)) ++ [(r1, ints g 3 (hrw (zhl z a s_) (sn z)))]) ++ [(h_, refs g (sn z + 1) (rfF (upN (hOf b (sL z)) (sn z) r1) (sn z + 1)))]) ++ [(r2, ints g 0 (fun _ => 0))]) ++ [(w_, refs g (sn z + 1) (rfF (upN (wOf b (sL z)) (sn z) r2) (sn z + 1)))]) := hD
          refine va_put (D := g.1) (ci := 5) (v := .ref w_) (ty := .array (.array .int)) (C := RX4) (T := TX4) (N := 4) hx hb hts (q_sub wsX40 238 rfl) tyX4 tyX4_ok nmX4 hown hE.K hP hD hS 0 rfl rfl 2 (by decide) (hts _ (List.mem_of_getElem? (i := 5) rfl)) (fun _ h9 => h9) rfl (by decide +kernel) rfl rfl (Nat.le_of_ble_eq_true rfl) dL_act_244 (fun H locs hP hD hS => ?_)
          have hP : va_P g.1 vwCl (((((((b 0, .inr (5, [.ref (b 2), .ref h_, .ref w_, .ref (b 1)])) :: (b 1, ints g 20 (sst z)) :: (b 2, refs g (sL z) (rfF (cOf b) (sL z))) :: (b 3, refs g (sn z) (rfF (hOf b (sL z)) (sn z))) :: (b 4, refs g (sn z) (rfF (wOf b (sL z)) (sn z))) :: spool g b z) ++ wC g (adH ad (sn z) v_.1 v_.2.1 v_.2.2) (mc + nI 1) (2 * sn z + 3) sig (zhl z a s_)) ++ [(r1, ints g 3 (hrw (zhl z a s_) (sn z)))]) ++ [(h_, refs g (sn z + 1) (rfF (upN (hOf b (sL z)) (sn z) r1) (sn z + 1)))]) ++ [(r2, ints g 0 (fun _ => 0))]) ++ [(w_, refs g (sn z + 1) (rfF (upN (wOf b (sL z)) (sn z) r2) (sn z + 1)))]) H := hP
          have hD : va_D (va_A (wS g b z ++ wC g ad mc M sig z) s.heap.size) (((((((b 0, .inr (5, [.ref (b 2), .ref h_, .ref w_, .ref (b 1)])) :: (b 1, ints g 20 (sst z)) :: (b 2, refs g (sL z) (rfF (cOf b) (sL z))) :: (b 3, refs g (sn z) (rfF (hOf b (sL z)) (sn z))) :: (b 4, refs g (sn z) (rfF (wOf b (sL z)) (sn z))) :: spool g b z) ++ wC g (adH ad (sn z) v_.1 v_.2.1 v_.2.2) (mc + nI 1) (2 * sn z + 3) sig (zhl z a s_)) ++ [(r1, ints g 3 (hrw (zhl z a s_) (sn z)))]) ++ [(h_, refs g (sn z + 1) (rfF (upN (hOf b (sL z)) (sn z) r1) (sn z + 1)))]) ++ [(r2, ints g 0 (fun _ => 0))]) ++ [(w_, refs g (sn z + 1) (rfF (upN (wOf b (sL z)) (sn z) r2) (sn z + 1)))]) := hD
          have hE := hE0.kept hS.2.1
          have hP : va_P g.1 vwCl (wS g (bH b (sL z + 2 * sn z + 5) h_ w_ r1 r2) (zhl z a s_) ++ wC g (adH ad (sn z) v_.1 v_.2.1 v_.2.2) (mc + nI 1) (2 * sn z + 3) sig (zhl z a s_)) H := by rw [wS_hl]; exact q_spP pm_hill hP
          have hD : va_D (va_A (wS g b z ++ wC g ad mc M sig z) s.heap.size) (wS g (bH b (sL z + 2 * sn z + 5) h_ w_ r1 r2) (zhl z a s_) ++ wC g (adH ad (sn z) v_.1 v_.2.1 v_.2.2) (mc + nI 1) (2 * sn z + 3) sig (zhl z a s_)) := by rw [wS_hl]; exact q_spD pm_hill hD
          refine lv_iload hx hb dL_act_247 (lv_at hl 0 rfl) ?_
          refine lv_iload_n hx hb dL_act_249 rfl (lv_at hl 5 rfl) ?_
          refine lv_bipush (v := nI 8) hx hb dL_act_250 (by decide) ?_
          refine q_icmp_ge (tgt := 259) hx hb (by omega) (by omega) dL_act_252 (by decide) (fun c_8 => ?_) (fun c_8 => ?_)
          · exact absurd hf_ (by omega)
          · refine lv_iload_n hx hb dL_act_255 rfl (lv_at hl 5 rfl) ?_
            refine lv_goto (tgt := 260) hx hb dL_act_256 (by decide) ?_
            refine q_icmp_ne (tgt := 267) hx hb (by omega) (by omega) dL_act_260 (by decide) (fun c_9 => ?_) (fun c_9 => ?_)
            · exact absurd rfl c_9
            · refine lv_iconst (v := nI 1) hx hb dL_act_263 (by decide) ?_
              refine lv_goto (tgt := 268) hx hb dL_act_264 (by decide) ?_
              refine W.widen (k := 40) (n := 400) (Nat.le_of_ble_eq_true rfl) (Nat.le_of_ble_eq_true rfl) ?_
              exact q_wzret (⟨((bH b (sL z + 2 * sn z + 5) h_ w_ r1 r2), adH ad (sn z) v_.1 v_.2.1 v_.2.2, mc + nI 1, 2 * sn z + 3, sig, zhl z a s_), (bH_0 (b := b) (p := sL z + 2 * sn z) (h := h_) (w := w_) (r1 := r1) (r2 := r2)), (adH_0 (ad := ad) (n := sn z) (e := v_.1) (h := v_.2.1) (w := v_.2.2)), hI.hl hf_ ha_ h1_ h9_⟩) hx hb hr hlocks rfl hP hD hS dL_act_268 rfl
      · refine lv_aload_n hx hb dL_act_181 rfl (lv_at hl 5 rfl) ?_
        refine lv_iload hx hb dL_act_182 (lv_at hl 1 rfl) ?_
        refine lv_iload hx hb dL_act_184 (lv_at hl 0 rfl) ?_
        refine q_thX (E := xS) (name := xS) (As := [.int (nI a), .int (nI s_)]) (rest := []) ⟨hx, hb, hml, hown, hts⟩ (ct_X3_hill_3 hl0 hM hV (a := a) (s_ := s_) ha_ h1_ h9_ (by omega)) (cwV 2 hts gL_act_X3_hill rfl rfl rfl (by decide +kernel) ⟨Nat.le_of_ble_eq_true rfl, Nat.le_of_ble_eq_true rfl⟩) hE (fun q h => hA q (Nat.le_trans hS.1 h)) (q_snd hP) (va_recv hE.K (q_snd hP) (ci := 4) (q0 := 0) rfl rfl) rfl hl.1 rfl (Nat.le_of_ble_eq_true rfl) dL_act_186 ⟨Nat.le_of_ble_eq_true rfl, Nat.le_of_ble_eq_true rfl⟩ hP hS ([] : List ExceptionTableEntry) ⟨181, 191, 194, 46⟩ ([⟨373, 383, 386, 46⟩] : List ExceptionTableEntry) htab (fun z9 hz => nomatch hz) (by decide) (by decide) (hts _ (List.mem_of_getElem? (i := 1) rfl)) (q_cast (List.mem_of_getElem? (i := 4) rfl) hE) (fun q9 H hP hS => ?_)
        have hE := hE0.kept hS.2.1
        refine lv_astore (lv' := [(9, .ref q9), (8, .int (nI s_)), (7, .int (nI a)), (5, .int (nI k)), (4, .int (nI (sL z))), (3, .int (nI (sn z))), (0, .ref (ad 0)), (1, .ref (b 0)), (2, .int x)]) hx hb dL_act_194 hl (by decide) rfl (fun ls hl => ?_)
        refine lv_iconst (v := (-1 : Int32)) hx hb dL_act_196 (by decide) ?_
        refine lv_istore (lv' := [(6, .int (-1 : Int32)), (9, .ref q9), (8, .int (nI s_)), (7, .int (nI a)), (5, .int (nI k)), (4, .int (nI (sL z))), (3, .int (nI (sn z))), (0, .ref (ad 0)), (1, .ref (b 0)), (2, .int x)]) hx hb dL_act_197 hl (by decide) rfl (fun ls hl => ?_)
        refine lv_iload_n hx hb dL_act_199 rfl (lv_at hl 6 rfl) ?_
        refine lv_bipush (v := nI 8) hx hb dL_act_200 (by decide) ?_
        refine q_icmp_ge (tgt := 247) hx hb (by omega) (by omega) dL_act_202 (by decide) (fun c_10 => ?_) (fun c_10 => ?_)
        · refine lv_iload hx hb dL_act_247 (lv_at hl 0 rfl) ?_
          refine lv_iload_n hx hb dL_act_249 rfl (lv_at hl 6 rfl) ?_
          refine lv_bipush (v := nI 8) hx hb dL_act_250 (by decide) ?_
          refine q_icmp_ge (tgt := 259) hx hb (by omega) (by omega) dL_act_252 (by decide) (fun c_11 => ?_) (fun c_11 => ?_)
          · refine lv_iconst (v := (-1 : Int32)) hx hb dL_act_259 (by decide) ?_
            refine lv_icmp_ne (tgt := 267) hx hb dL_act_260 (by decide) (fun c_12 => ?_) (fun c_12 => ?_)
            · exact absurd rfl c_12
            · refine lv_iconst (v := nI 1) hx hb dL_act_263 (by decide) ?_
              refine lv_goto (tgt := 268) hx hb dL_act_264 (by decide) ?_
              refine W.widen (k := 40) (n := 400) (Nat.le_of_ble_eq_true rfl) (Nat.le_of_ble_eq_true rfl) ?_
              exact q_wzret (⟨(b, ad, mc, M, sig, z), rfl, rfl, hI⟩) hx hb hr hlocks rfl hP hD hS dL_act_268 rfl
          · exact absurd hf_ (by omega)
        · exact absurd hf_ (by omega)
    · refine lv_tableIn (off := 234) (tgt := 269) hx hb dL_act_35 (by rcases e14 with e14 | e14 | e14 | e14 <;> rw [e14] <;> decide) (by rcases e14 with e14 | e14 | e14 | e14 <;> rw [e14] <;> decide) (by rcases e14 with e14 | e14 | e14 | e14 <;> rw [e14] <;> rfl) (by decide) ?_
      refine lv_iload_n hx hb dL_act_269 rfl (lv_at hl 2 rfl) ?_
      refine q_if_ne (tgt := 275) hx hb (by omega) dL_act_270 (by decide) (fun c_13 => ?_) (fun c_13 => ?_)
      · refine lv_aload_n hx hb dL_act_275 rfl (lv_at hl 4 rfl) ?_
        refine va_get (v := .ref (b 4)) (C := RX4) (T := TX4) (N := 4) hx hb hts (q_sub wsX40 238 rfl) hown hE.K hP 0 rfl rfl 2 (by decide) (hts _ (List.mem_of_getElem? (i := 5) rfl)) (fun _ h9 => h9) rfl dL_act_276 ?_
        refine lv_iload hx hb dL_act_279 (lv_at hl 0 rfl) ?_
        refine q_aldA (n := sn z) (r := b (sL z + 2 * k + 6)) hx hb hE (hP 4 _ rfl) (by omega) (by omega) dL_act_281 (rfF_lt (by omega)) ?_
        refine q_alen (v := nI (ssd z k)) hx hb hE (hP _ _ (q_apL (wS_w (by omega)))) dL_act_282 rfl ?_
        refine lv_istore (lv' := [(7, .int (nI (ssd z k))), (5, .int (nI k)), (4, .int (nI (sL z))), (3, .int (nI (sn z))), (0, .ref (ad 0)), (1, .ref (b 0)), (2, .int x)]) hx hb dL_act_283 hl (by decide) rfl (fun ls hl => ?_)
        refine lv_iload_n hx hb dL_act_285 rfl (lv_at hl 6 rfl) ?_
        refine lv_bipush (v := nI 7) hx hb dL_act_286 (by decide) ?_
        refine q_ishr (v := sh x 7) hx hb dL_act_288 rfl ?_
        refine lv_iconst (v := nI 2) hx hb dL_act_289 (by decide) ?_
        refine q_roS (As := [.int (sh x 7), .int (nI 2)]) (rest := []) ⟨hx, hb, hml, hown, hts⟩ (c_L_below (x := sh x 7) (n := 2) (by omega) (by omega)) (va_cwS 2 hts gL_act_L_below rfl rfl rfl (by decide +kernel) ⟨Nat.le_of_ble_eq_true rfl, Nat.le_of_ble_eq_true rfl⟩) hE (fun q h => hA q (Nat.le_trans hS.1 h)) trivial rfl hl.1 rfl (Nat.le_of_ble_eq_true rfl) dL_act_290 ⟨Nat.le_of_ble_eq_true rfl, Nat.le_of_ble_eq_true rfl⟩ ?_
        refine q_if_ne (tgt := 300) hx hb (by have := bel_lt (x := sh x 7) (n := 2) (by omega); omega) dL_act_293 (by decide) (fun c_14 => ?_) (fun c_14 => ?_)
        · refine lv_iconst (v := nI 0) hx hb dL_act_300 (by decide) ?_
          refine lv_istore (lv' := [(8, .int (nI 0)), (7, .int (nI (ssd z k))), (5, .int (nI k)), (4, .int (nI (sL z))), (3, .int (nI (sn z))), (0, .ref (ad 0)), (1, .ref (b 0)), (2, .int x)]) hx hb dL_act_301 hl (by decide) rfl (fun ls hl => ?_)
          refine lv_iload hx hb dL_act_303 (lv_at hl 1 rfl) ?_
          refine lv_bipush (v := nI 12) hx hb dL_act_305 (by decide) ?_
          refine q_icmp_ge (tgt := 373) hx hb (by omega) (by omega) dL_act_307 (by decide) (fun c_sd => ?_) (fun c_sd => ?_)
          · refine lv_aload_n hx hb dL_act_373 rfl (lv_at hl 5 rfl) ?_
            refine lv_iload hx hb dL_act_374 (lv_at hl 2 rfl) ?_
            refine lv_iload hx hb dL_act_376 (lv_at hl 0 rfl) ?_
            refine q_thX (E := xS) (name := xS) (As := [.int (nI k), .int (nI 0)]) (rest := []) ⟨hx, hb, hml, hown, hts⟩ (ct_X3_say_2 hl0 hM hV (k := k) (y := 0) hk_ (by omega)) (cwV 2 hts gL_act_X3_say rfl rfl rfl (by decide +kernel) ⟨Nat.le_of_ble_eq_true rfl, Nat.le_of_ble_eq_true rfl⟩) hE (fun q h => hA q (Nat.le_trans hS.1 h)) (q_snd hP) (va_recv hE.K (q_snd hP) (ci := 4) (q0 := 0) rfl rfl) rfl hl.1 rfl (Nat.le_of_ble_eq_true rfl) dL_act_378 ⟨Nat.le_of_ble_eq_true rfl, Nat.le_of_ble_eq_true rfl⟩ hP hS ([⟨181, 191, 194, 46⟩] : List ExceptionTableEntry) ⟨373, 383, 386, 46⟩ ([] : List ExceptionTableEntry) htab (fun z9 hz => by
                have hz : z9 ∈ ([⟨181, 191, 194, 46⟩] : List ExceptionTableEntry) := hz
                rw [List.mem_singleton.mp hz]
                exact Or.inl (by decide)) (by decide) (by decide) (hts _ (List.mem_of_getElem? (i := 1) rfl)) (q_cast (List.mem_of_getElem? (i := 4) rfl) hE) (fun q9 H hP hS => ?_)
            have hE := hE0.kept hS.2.1
            refine lv_astore (lv' := [(9, .ref q9), (8, .int (nI 0)), (7, .int (nI (ssd z k))), (5, .int (nI k)), (4, .int (nI (sL z))), (3, .int (nI (sn z))), (0, .ref (ad 0)), (1, .ref (b 0)), (2, .int x)]) hx hb dL_act_386 hl (by decide) rfl (fun ls hl => ?_)
            refine lv_iconst (v := (-1 : Int32)) hx hb dL_act_388 (by decide) ?_
            refine lv_istore (lv' := [(6, .int (-1 : Int32)), (9, .ref q9), (8, .int (nI 0)), (7, .int (nI (ssd z k))), (5, .int (nI k)), (4, .int (nI (sL z))), (3, .int (nI (sn z))), (0, .ref (ad 0)), (1, .ref (b 0)), (2, .int x)]) hx hb dL_act_389 hl (by decide) rfl (fun ls hl => ?_)
            refine lv_iload hx hb dL_act_391 (lv_at hl 0 rfl) ?_
            refine lv_iload hx hb dL_act_393 (lv_at hl 3 rfl) ?_
            refine lv_bipush (v := nI 12) hx hb dL_act_395 (by decide) ?_
            refine q_icmp_ge (tgt := 407) hx hb (by omega) (by omega) dL_act_397 (by decide) (fun c_15 => ?_) (fun c_15 => ?_)
            · refine lv_iconst (v := (-1 : Int32)) hx hb dL_act_407 (by decide) ?_
              refine lv_icmp_ne (tgt := 415) hx hb dL_act_408 (by decide) (fun c_16 => ?_) (fun c_16 => ?_)
              · exact absurd rfl c_16
              · refine lv_iconst (v := nI 1) hx hb dL_act_411 (by decide) ?_
                refine lv_goto (tgt := 416) hx hb dL_act_412 (by decide) ?_
                refine W.widen (k := 40) (n := 400) (Nat.le_of_ble_eq_true rfl) (Nat.le_of_ble_eq_true rfl) ?_
                exact q_wzret (⟨(b, ad, mc, M, sig, z), rfl, rfl, hI⟩) hx hb hr hlocks rfl hP hD hS dL_act_416 rfl
            · exact absurd c_15 (by omega)
          · refine lv_iload hx hb dL_act_310 (lv_at hl 1 rfl) ?_
            refine lv_iconst (v := nI 1) hx hb dL_act_312 (by decide) ?_
            refine q_iadd (v := nI (ssd z k + 1)) hx hb dL_act_313 (nI_add _ _) ?_
            refine q_newI (n := ssd z k + 1) hx hb (hts _ (List.mem_of_getElem? (i := 6) rfl)) hE hP hD hS hA (by omega) (Nat.le_of_ble_eq_true rfl) (by show 0 + (ssd z k + 1) ≤ 400; omega) dL_act_314 (fun q H hP hD hS => ?_)
            have hP : va_P g.1 vwCl ((wS g b z ++ wC g ad mc M sig z) ++ [(q, ints g (ssd z k + 1) (fun _ => 0))]) H := hP
            have hD : va_D (va_A (wS g b z ++ wC g ad mc M sig z) s.heap.size) ((wS g b z ++ wC g ad mc M sig z) ++ [(q, ints g (ssd z k + 1) (fun _ => 0))]) := hD
            have hE := hE0.kept hS.2.1
            refine lv_astore (lv' := [(9, .ref q), (8, .int (nI 0)), (7, .int (nI (ssd z k))), (5, .int (nI k)), (4, .int (nI (sL z))), (3, .int (nI (sn z))), (0, .ref (ad 0)), (1, .ref (b 0)), (2, .int x)]) hx hb dL_act_316 hl (by decide) rfl (fun ls hl => ?_)
            have hP := Eq.mp (congrArg (fun f => va_P g.1 vwCl ((wS g b z ++ wC g ad mc M sig z) ++ [(q, ints g (ssd z k + 1) f)]) H) (cpF_0 (f := swd z k))) hP
            have hD := Eq.mp (congrArg (fun f => va_D (va_A (wS g b z ++ wC g ad mc M sig z) s.heap.size) ((wS g b z ++ wC g ad mc M sig z) ++ [(q, ints g (ssd z k + 1) f)])) (cpF_0 (f := swd z k))) hD
            refine lv_iconst (v := nI 0) hx hb dL_act_318 (by decide) ?_
            refine lv_istore (lv' := [(10, .int (nI 0)), (9, .ref q), (8, .int (nI 0)), (7, .int (nI (ssd z k))), (5, .int (nI k)), (4, .int (nI (sL z))), (3, .int (nI (sn z))), (0, .ref (ad 0)), (1, .ref (b 0)), (2, .int x)]) hx hb dL_act_319 hl (by decide) rfl (fun ls hl => ?_)
            have lp_321 : ∀ (n_ i : Nat) , i ≤ ssd z k → ssd z k + 1 ≤ i + n_ → ∀ (H : Heap) (locs : List Loc), va_P g.1 vwCl ((wS g b z ++ wC g ad mc M sig z) ++ [(q, ints g (ssd z k + 1) (cpF (swd z k) i))]) H → va_D (va_A (wS g b z ++ wC g ad mc M sig z) s.heap.size) ((wS g b z ++ wC g ad mc M sig z) ++ [(q, ints g (ssd z k + 1) (cpF (swd z k) i))]) → va_S (va_A (wS g b z ++ wC g ad mc M sig z) s.heap.size) s.heap H locs → Ev g (va_A (wS g b z ++ wC g ad mc M sig z) s.heap.size) s H → ∀ (ls : Array Slot), lv_has ls 11 [(10, .int (nI i)), (9, .ref q), (8, .int (nI 0)), (7, .int (nI (ssd z k))), (5, .int (nI k)), (4, .int (nI (sL z))), (3, .int (nI (sn z))), (0, .ref (ad 0)), (1, .ref (b 0)), (2, .int x)] → W p l e ({ frames := 7, cells := 40, slots := 400, locals := 130 } : Room) s m ([.ref (ad 0), .ref (b 0), .int x] : List Value).toArray below meth c H locs (0 + 1) (0 + (ssd z k + 1)) (MQ below (q_Qw (fun u : {u : aT // aO (b 0) (ad 0) u} => wA g u.1) (fun _ => some (.int (nI 1))) g (wS g b z ++ wC g ad mc M sig z) s.heap.size) ([.ref (ad 0), .ref (b 0), .int x] : List Value).toArray s 40 400 (va_A (wS g b z ++ wC g ad mc M sig z) s.heap.size)) (F0 m 321 ls []) := by
              intro n_
              induction n_ with
              | zero => intro i  hi_ hn_; exact absurd hn_ (by omega)
              | succ n_ ih_321 =>
                intro i  hi_i hn_i  H locs hP hD hS hE ls hl
                refine lv_iload hx hb dL_act_321 (lv_at hl 0 rfl) ?_
                refine lv_iload hx hb dL_act_323 (lv_at hl 3 rfl) ?_
                refine q_icmp_ge (tgt := 349) hx hb (by omega) (by omega) dL_act_325 (by decide) (fun c_17 => ?_) (fun c_17 => ?_)
                · have ei : i = ssd z k := by omega
                  rw [ei] at hP hD
                  refine lv_aload hx hb dL_act_349 (lv_at hl 1 rfl) ?_
                  refine lv_iload hx hb dL_act_351 (lv_at hl 3 rfl) ?_
                  refine lv_iload hx hb dL_act_353 (lv_at hl 2 rfl) ?_
                  refine q_if_eq (tgt := 362) hx hb (by omega) dL_act_355 (by decide) (fun c_18 => ?_) (fun c_18 => ?_)
                  · refine lv_iconst (v := (-1 : Int32)) hx hb dL_act_362 (by decide) ?_
                    refine q_iast hx hb hE hP hD hS (q0 := (wS g b z ++ wC g ad mc M sig z).length) q_apR (by omega) (by omega) dL_act_363 (fun H locs hP hD hS => ?_)
                    have hP : va_P g.1 vwCl ((wS g b z ++ wC g ad mc M sig z) ++ [(q, ints g (ssd z k + 1) (upd (cpF (swd z k) (ssd z k)) (ssd z k) (sayX 0)))]) H := (fun h => by rw [q_setL] at h; exact h) hP
                    have hD : va_D (va_A (wS g b z ++ wC g ad mc M sig z) s.heap.size) ((wS g b z ++ wC g ad mc M sig z) ++ [(q, ints g (ssd z k + 1) (upd (cpF (swd z k) (ssd z k)) (ssd z k) (sayX 0)))]) := (fun h => by rw [q_setL] at h; exact h) hD
                    have hE := hE0.kept hS.2.1
                    refine lv_aload_n hx hb dL_act_364 rfl (lv_at hl 8 rfl) ?_
                    refine va_get (v := .ref (b 4)) (C := RX4) (T := TX4) (N := 4) hx hb hts (q_sub wsX40 238 rfl) hown hE.K hP 0 rfl rfl 2 (by decide) (hts _ (List.mem_of_getElem? (i := 5) rfl)) (fun _ h9 => h9) rfl dL_act_365 ?_
                    refine lv_iload hx hb dL_act_368 (lv_at hl 4 rfl) ?_
                    refine lv_aload hx hb dL_act_370 (lv_at hl 1 rfl) ?_
                    refine q_aastA (q0 := 4) hx hb hE hP hD hS rfl (hP _ _ q_apR) (by omega) (by omega) dL_act_372 (fun H locs hP hD hS => ?_)
                    have hP : va_P g.1 vwCl (wS g (bU b (sL z + 2 * k + 6) q) (zsay z k (sayX 0)) ++ wC g ad mc M sig z) H := say_P hk_ hP
                    have hD : va_D (va_A (wS g b z ++ wC g ad mc M sig z) s.heap.size) (wS g (bU b (sL z + 2 * k + 6) q) (zsay z k (sayX 0)) ++ wC g ad mc M sig z) := say_D hk_ hD
                    have hE := hE0.kept hS.2.1
                    refine W.widen (k := 1) (n := 20) (Nat.le_of_ble_eq_true rfl) (by show 0 + (ssd z k + 1) ≤ 20; omega) ?_
                    refine lv_aload_n hx hb dL_act_373 rfl (lv_at hl 7 rfl) ?_
                    refine lv_iload hx hb dL_act_374 (lv_at hl 4 rfl) ?_
                    refine lv_iload hx hb dL_act_376 (lv_at hl 2 rfl) ?_
                    refine q_wrV (wr := wS g (bU b (sL z + 2 * k + 6) q) (zsay z k (sayX 0))) (As := [.int (nI k), .int (nI 0)]) (rest := []) ⟨hx, hb, hml, hown, hts⟩ (c_X3_say hM hV hk_ (y := 0) (by omega) (by omega)) (cwV 2 hts gL_act_X3_say rfl rfl rfl (by decide +kernel) ⟨Nat.le_of_ble_eq_true rfl, Nat.le_of_ble_eq_true rfl⟩) hE hP hD hS hA (va_recv hE.K (q_snd hP) (ci := 4) (q0 := 0) rfl rfl) rfl hl.1 rfl (Nat.le_of_ble_eq_true rfl) dL_act_378 ⟨Nat.le_of_ble_eq_true rfl, Nat.le_of_ble_eq_true rfl⟩ (fun _u H locs hP hD hS hE => ?_)
                    have hP : va_P g.1 vwCl (wS g (bU b (sL z + 2 * k + 6) q) (zsay z k (sayX 0)) ++ wC g ad mc M (adW sig (nI (ssr z k)) (zsay z k (sayX 0)) k (ssd z k) (sL z)) (zsay z k (sayX 0))) H := hP
                    have hD : va_D (va_A (wS g b z ++ wC g ad mc M sig z) s.heap.size) (wS g (bU b (sL z + 2 * k + 6) q) (zsay z k (sayX 0)) ++ wC g ad mc M (adW sig (nI (ssr z k)) (zsay z k (sayX 0)) k (ssd z k) (sL z)) (zsay z k (sayX 0))) := hD
                    refine lv_istore (lv' := [(6, .int (nI (ssd z k + 1))), (10, .int (nI i)), (9, .ref q), (8, .int (nI 0)), (7, .int (nI (ssd z k))), (5, .int (nI k)), (4, .int (nI (sL z))), (3, .int (nI (sn z))), (0, .ref (ad 0)), (1, .ref (b 0)), (2, .int x)]) hx hb dL_act_381 hl (by decide) rfl (fun ls hl => ?_)
                    refine lv_goto (tgt := 391) hx hb dL_act_383 (by decide) ?_
                    refine lv_iload hx hb dL_act_391 (lv_at hl 0 rfl) ?_
                    refine lv_iload hx hb dL_act_393 (lv_at hl 4 rfl) ?_
                    refine lv_bipush (v := nI 12) hx hb dL_act_395 (by decide) ?_
                    refine q_icmp_ge (tgt := 407) hx hb (by omega) (by omega) dL_act_397 (by decide) (fun c_19 => ?_) (fun c_19 => ?_)
                    · exact absurd c_19 (by omega)
                    · refine lv_iload hx hb dL_act_400 (lv_at hl 4 rfl) ?_
                      refine lv_iconst (v := nI 1) hx hb dL_act_402 (by decide) ?_
                      refine q_iadd (v := nI (ssd z k + 1)) hx hb dL_act_403 (nI_add _ _) ?_
                      refine lv_goto (tgt := 408) hx hb dL_act_404 (by decide) ?_
                      refine q_icmp_ne (tgt := 415) hx hb (by omega) (by omega) dL_act_408 (by decide) (fun c_20 => ?_) (fun c_20 => ?_)
                      · exact absurd rfl c_20
                      · refine lv_iconst (v := nI 1) hx hb dL_act_411 (by decide) ?_
                        refine lv_goto (tgt := 416) hx hb dL_act_412 (by decide) ?_
                        refine W.widen (k := 40) (n := 400) (Nat.le_of_ble_eq_true rfl) (Nat.le_of_ble_eq_true rfl) ?_
                        exact q_wzret (⟨((bU b (sL z + 2 * k + 6) q), ad, mc, M, adW sig (nI (ssr z k)) (zsay z k (sayX 0)) k (ssd z k) (sL z), (zsay z k (sayX 0))), (bU_n (b := b) (i := sL z + 2 * k + 6) (q := q) (j := 0) (by omega)), rfl, hI.say hk_ (by omega)⟩) hx hb hr hlocks rfl hP hD hS dL_act_416 rfl
                  · exact absurd c_18 (by decide)
                · refine lv_aload hx hb dL_act_328 (lv_at hl 1 rfl) ?_
                  refine lv_iload hx hb dL_act_330 (lv_at hl 0 rfl) ?_
                  refine lv_aload_n hx hb dL_act_332 rfl (lv_at hl 8 rfl) ?_
                  refine va_get (v := .ref (b 4)) (C := RX4) (T := TX4) (N := 4) hx hb hts (q_sub wsX40 238 rfl) hown hE.K hP 0 rfl rfl 2 (by decide) (hts _ (List.mem_of_getElem? (i := 5) rfl)) (fun _ h9 => h9) rfl dL_act_333 ?_
                  refine lv_iload hx hb dL_act_336 (lv_at hl 4 rfl) ?_
                  refine q_aldA (n := sn z) (r := b (sL z + 2 * k + 6)) hx hb hE (hP 4 _ rfl) (by omega) (by omega) dL_act_338 (rfF_lt (by omega)) ?_
                  refine lv_iload hx hb dL_act_339 (lv_at hl 0 rfl) ?_
                  refine q_iald (v := (swd z k) i) hx hb hE (hP _ _ (q_apL (q_apL (wS_w (by omega))))) (by omega) (by omega) dL_act_341 rfl ?_
                  refine q_iast hx hb hE hP hD hS (q0 := (wS g b z ++ wC g ad mc M sig z).length) q_apR (by omega) (by omega) dL_act_342 (fun H locs hP hD hS => ?_)
                  have hP : va_P g.1 vwCl ((wS g b z ++ wC g ad mc M sig z) ++ [(q, ints g (ssd z k + 1) (cpF (swd z k) (i + 1)))]) H := (fun h => by rw [q_setL, cpF_s] at h; exact h) hP
                  have hD : va_D (va_A (wS g b z ++ wC g ad mc M sig z) s.heap.size) ((wS g b z ++ wC g ad mc M sig z) ++ [(q, ints g (ssd z k + 1) (cpF (swd z k) (i + 1)))]) := (fun h => by rw [q_setL, cpF_s] at h; exact h) hD
                  have hE := hE0.kept hS.2.1
                  refine lv_iinc (v := nI (i + 1)) (lv' := [(10, .int (nI (i + 1))), (9, .ref q), (8, .int (nI 0)), (7, .int (nI (ssd z k))), (5, .int (nI k)), (4, .int (nI (sL z))), (3, .int (nI (sn z))), (0, .ref (ad 0)), (1, .ref (b 0)), (2, .int x)]) hx hb dL_act_343 hl (k := 0) rfl (nI_1 _) (by decide) rfl (fun ls hl => ?_)
                  refine lv_goto (tgt := 321) hx hb dL_act_346 (by decide) ?_
                  exact ih_321 (i + 1)  (by omega) (by omega)  _ _ hP hD hS hE _ (lv_sub hl [0, 1, 2, 3, 4, 5, 6, 7, 8, 9] rfl)
            
            exact lp_321 (ssd z k + 1) 0  (Nat.zero_le _) (by omega)  _ _ hP hD hS hE _ (lv_sub hl [0, 1, 2, 3, 4, 5, 6, 7, 8, 9] rfl)
        · refine lv_iconst (v := nI 1) hx hb dL_act_296 (by decide) ?_
          refine lv_goto (tgt := 301) hx hb dL_act_297 (by decide) ?_
          refine lv_istore (lv' := [(8, .int (nI 1)), (7, .int (nI (ssd z k))), (5, .int (nI k)), (4, .int (nI (sL z))), (3, .int (nI (sn z))), (0, .ref (ad 0)), (1, .ref (b 0)), (2, .int x)]) hx hb dL_act_301 hl (by decide) rfl (fun ls hl => ?_)
          refine lv_iload hx hb dL_act_303 (lv_at hl 1 rfl) ?_
          refine lv_bipush (v := nI 12) hx hb dL_act_305 (by decide) ?_
          refine q_icmp_ge (tgt := 373) hx hb (by omega) (by omega) dL_act_307 (by decide) (fun c_sd => ?_) (fun c_sd => ?_)
          · refine lv_aload_n hx hb dL_act_373 rfl (lv_at hl 5 rfl) ?_
            refine lv_iload hx hb dL_act_374 (lv_at hl 2 rfl) ?_
            refine lv_iload hx hb dL_act_376 (lv_at hl 0 rfl) ?_
            refine q_thX (E := xS) (name := xS) (As := [.int (nI k), .int (nI 1)]) (rest := []) ⟨hx, hb, hml, hown, hts⟩ (ct_X3_say_2 hl0 hM hV (k := k) (y := 1) hk_ (by omega)) (cwV 2 hts gL_act_X3_say rfl rfl rfl (by decide +kernel) ⟨Nat.le_of_ble_eq_true rfl, Nat.le_of_ble_eq_true rfl⟩) hE (fun q h => hA q (Nat.le_trans hS.1 h)) (q_snd hP) (va_recv hE.K (q_snd hP) (ci := 4) (q0 := 0) rfl rfl) rfl hl.1 rfl (Nat.le_of_ble_eq_true rfl) dL_act_378 ⟨Nat.le_of_ble_eq_true rfl, Nat.le_of_ble_eq_true rfl⟩ hP hS ([⟨181, 191, 194, 46⟩] : List ExceptionTableEntry) ⟨373, 383, 386, 46⟩ ([] : List ExceptionTableEntry) htab (fun z9 hz => by
                have hz : z9 ∈ ([⟨181, 191, 194, 46⟩] : List ExceptionTableEntry) := hz
                rw [List.mem_singleton.mp hz]
                exact Or.inl (by decide)) (by decide) (by decide) (hts _ (List.mem_of_getElem? (i := 1) rfl)) (q_cast (List.mem_of_getElem? (i := 4) rfl) hE) (fun q9 H hP hS => ?_)
            have hE := hE0.kept hS.2.1
            refine lv_astore (lv' := [(9, .ref q9), (8, .int (nI 1)), (7, .int (nI (ssd z k))), (5, .int (nI k)), (4, .int (nI (sL z))), (3, .int (nI (sn z))), (0, .ref (ad 0)), (1, .ref (b 0)), (2, .int x)]) hx hb dL_act_386 hl (by decide) rfl (fun ls hl => ?_)
            refine lv_iconst (v := (-1 : Int32)) hx hb dL_act_388 (by decide) ?_
            refine lv_istore (lv' := [(6, .int (-1 : Int32)), (9, .ref q9), (8, .int (nI 1)), (7, .int (nI (ssd z k))), (5, .int (nI k)), (4, .int (nI (sL z))), (3, .int (nI (sn z))), (0, .ref (ad 0)), (1, .ref (b 0)), (2, .int x)]) hx hb dL_act_389 hl (by decide) rfl (fun ls hl => ?_)
            refine lv_iload hx hb dL_act_391 (lv_at hl 0 rfl) ?_
            refine lv_iload hx hb dL_act_393 (lv_at hl 3 rfl) ?_
            refine lv_bipush (v := nI 12) hx hb dL_act_395 (by decide) ?_
            refine q_icmp_ge (tgt := 407) hx hb (by omega) (by omega) dL_act_397 (by decide) (fun c_21 => ?_) (fun c_21 => ?_)
            · refine lv_iconst (v := (-1 : Int32)) hx hb dL_act_407 (by decide) ?_
              refine lv_icmp_ne (tgt := 415) hx hb dL_act_408 (by decide) (fun c_22 => ?_) (fun c_22 => ?_)
              · exact absurd rfl c_22
              · refine lv_iconst (v := nI 1) hx hb dL_act_411 (by decide) ?_
                refine lv_goto (tgt := 416) hx hb dL_act_412 (by decide) ?_
                refine W.widen (k := 40) (n := 400) (Nat.le_of_ble_eq_true rfl) (Nat.le_of_ble_eq_true rfl) ?_
                exact q_wzret (⟨(b, ad, mc, M, sig, z), rfl, rfl, hI⟩) hx hb hr hlocks rfl hP hD hS dL_act_416 rfl
            · exact absurd c_21 (by omega)
          · refine lv_iload hx hb dL_act_310 (lv_at hl 1 rfl) ?_
            refine lv_iconst (v := nI 1) hx hb dL_act_312 (by decide) ?_
            refine q_iadd (v := nI (ssd z k + 1)) hx hb dL_act_313 (nI_add _ _) ?_
            refine q_newI (n := ssd z k + 1) hx hb (hts _ (List.mem_of_getElem? (i := 6) rfl)) hE hP hD hS hA (by omega) (Nat.le_of_ble_eq_true rfl) (by show 0 + (ssd z k + 1) ≤ 400; omega) dL_act_314 (fun q H hP hD hS => ?_)
            have hP : va_P g.1 vwCl ((wS g b z ++ wC g ad mc M sig z) ++ [(q, ints g (ssd z k + 1) (fun _ => 0))]) H := hP
            have hD : va_D (va_A (wS g b z ++ wC g ad mc M sig z) s.heap.size) ((wS g b z ++ wC g ad mc M sig z) ++ [(q, ints g (ssd z k + 1) (fun _ => 0))]) := hD
            have hE := hE0.kept hS.2.1
            refine lv_astore (lv' := [(9, .ref q), (8, .int (nI 1)), (7, .int (nI (ssd z k))), (5, .int (nI k)), (4, .int (nI (sL z))), (3, .int (nI (sn z))), (0, .ref (ad 0)), (1, .ref (b 0)), (2, .int x)]) hx hb dL_act_316 hl (by decide) rfl (fun ls hl => ?_)
            have hP := Eq.mp (congrArg (fun f => va_P g.1 vwCl ((wS g b z ++ wC g ad mc M sig z) ++ [(q, ints g (ssd z k + 1) f)]) H) (cpF_0 (f := swd z k))) hP
            have hD := Eq.mp (congrArg (fun f => va_D (va_A (wS g b z ++ wC g ad mc M sig z) s.heap.size) ((wS g b z ++ wC g ad mc M sig z) ++ [(q, ints g (ssd z k + 1) f)])) (cpF_0 (f := swd z k))) hD
            refine lv_iconst (v := nI 0) hx hb dL_act_318 (by decide) ?_
            refine lv_istore (lv' := [(10, .int (nI 0)), (9, .ref q), (8, .int (nI 1)), (7, .int (nI (ssd z k))), (5, .int (nI k)), (4, .int (nI (sL z))), (3, .int (nI (sn z))), (0, .ref (ad 0)), (1, .ref (b 0)), (2, .int x)]) hx hb dL_act_319 hl (by decide) rfl (fun ls hl => ?_)
            have lp_321 : ∀ (n_ i : Nat) , i ≤ ssd z k → ssd z k + 1 ≤ i + n_ → ∀ (H : Heap) (locs : List Loc), va_P g.1 vwCl ((wS g b z ++ wC g ad mc M sig z) ++ [(q, ints g (ssd z k + 1) (cpF (swd z k) i))]) H → va_D (va_A (wS g b z ++ wC g ad mc M sig z) s.heap.size) ((wS g b z ++ wC g ad mc M sig z) ++ [(q, ints g (ssd z k + 1) (cpF (swd z k) i))]) → va_S (va_A (wS g b z ++ wC g ad mc M sig z) s.heap.size) s.heap H locs → Ev g (va_A (wS g b z ++ wC g ad mc M sig z) s.heap.size) s H → ∀ (ls : Array Slot), lv_has ls 11 [(10, .int (nI i)), (9, .ref q), (8, .int (nI 1)), (7, .int (nI (ssd z k))), (5, .int (nI k)), (4, .int (nI (sL z))), (3, .int (nI (sn z))), (0, .ref (ad 0)), (1, .ref (b 0)), (2, .int x)] → W p l e ({ frames := 7, cells := 40, slots := 400, locals := 130 } : Room) s m ([.ref (ad 0), .ref (b 0), .int x] : List Value).toArray below meth c H locs (0 + 1) (0 + (ssd z k + 1)) (MQ below (q_Qw (fun u : {u : aT // aO (b 0) (ad 0) u} => wA g u.1) (fun _ => some (.int (nI 1))) g (wS g b z ++ wC g ad mc M sig z) s.heap.size) ([.ref (ad 0), .ref (b 0), .int x] : List Value).toArray s 40 400 (va_A (wS g b z ++ wC g ad mc M sig z) s.heap.size)) (F0 m 321 ls []) := by
              intro n_
              induction n_ with
              | zero => intro i  hi_ hn_; exact absurd hn_ (by omega)
              | succ n_ ih_321 =>
                intro i  hi_i hn_i  H locs hP hD hS hE ls hl
                refine lv_iload hx hb dL_act_321 (lv_at hl 0 rfl) ?_
                refine lv_iload hx hb dL_act_323 (lv_at hl 3 rfl) ?_
                refine q_icmp_ge (tgt := 349) hx hb (by omega) (by omega) dL_act_325 (by decide) (fun c_23 => ?_) (fun c_23 => ?_)
                · have ei : i = ssd z k := by omega
                  rw [ei] at hP hD
                  refine lv_aload hx hb dL_act_349 (lv_at hl 1 rfl) ?_
                  refine lv_iload hx hb dL_act_351 (lv_at hl 3 rfl) ?_
                  refine lv_iload hx hb dL_act_353 (lv_at hl 2 rfl) ?_
                  refine q_if_eq (tgt := 362) hx hb (by omega) dL_act_355 (by decide) (fun c_24 => ?_) (fun c_24 => ?_)
                  · exact absurd c_24 (by decide)
                  · refine lv_iconst (v := nI 1) hx hb dL_act_358 (by decide) ?_
                    refine lv_goto (tgt := 363) hx hb dL_act_359 (by decide) ?_
                    refine q_iast hx hb hE hP hD hS (q0 := (wS g b z ++ wC g ad mc M sig z).length) q_apR (by omega) (by omega) dL_act_363 (fun H locs hP hD hS => ?_)
                    have hP : va_P g.1 vwCl ((wS g b z ++ wC g ad mc M sig z) ++ [(q, ints g (ssd z k + 1) (upd (cpF (swd z k) (ssd z k)) (ssd z k) (sayX 1)))]) H := (fun h => by rw [q_setL] at h; exact h) hP
                    have hD : va_D (va_A (wS g b z ++ wC g ad mc M sig z) s.heap.size) ((wS g b z ++ wC g ad mc M sig z) ++ [(q, ints g (ssd z k + 1) (upd (cpF (swd z k) (ssd z k)) (ssd z k) (sayX 1)))]) := (fun h => by rw [q_setL] at h; exact h) hD
                    have hE := hE0.kept hS.2.1
                    refine lv_aload_n hx hb dL_act_364 rfl (lv_at hl 8 rfl) ?_
                    refine va_get (v := .ref (b 4)) (C := RX4) (T := TX4) (N := 4) hx hb hts (q_sub wsX40 238 rfl) hown hE.K hP 0 rfl rfl 2 (by decide) (hts _ (List.mem_of_getElem? (i := 5) rfl)) (fun _ h9 => h9) rfl dL_act_365 ?_
                    refine lv_iload hx hb dL_act_368 (lv_at hl 4 rfl) ?_
                    refine lv_aload hx hb dL_act_370 (lv_at hl 1 rfl) ?_
                    refine q_aastA (q0 := 4) hx hb hE hP hD hS rfl (hP _ _ q_apR) (by omega) (by omega) dL_act_372 (fun H locs hP hD hS => ?_)
                    have hP : va_P g.1 vwCl (wS g (bU b (sL z + 2 * k + 6) q) (zsay z k (sayX 1)) ++ wC g ad mc M sig z) H := say_P hk_ hP
                    have hD : va_D (va_A (wS g b z ++ wC g ad mc M sig z) s.heap.size) (wS g (bU b (sL z + 2 * k + 6) q) (zsay z k (sayX 1)) ++ wC g ad mc M sig z) := say_D hk_ hD
                    have hE := hE0.kept hS.2.1
                    refine W.widen (k := 1) (n := 20) (Nat.le_of_ble_eq_true rfl) (by show 0 + (ssd z k + 1) ≤ 20; omega) ?_
                    refine lv_aload_n hx hb dL_act_373 rfl (lv_at hl 7 rfl) ?_
                    refine lv_iload hx hb dL_act_374 (lv_at hl 4 rfl) ?_
                    refine lv_iload hx hb dL_act_376 (lv_at hl 2 rfl) ?_
                    refine q_wrV (wr := wS g (bU b (sL z + 2 * k + 6) q) (zsay z k (sayX 1))) (As := [.int (nI k), .int (nI 1)]) (rest := []) ⟨hx, hb, hml, hown, hts⟩ (c_X3_say hM hV hk_ (y := 1) (by omega) (by omega)) (cwV 2 hts gL_act_X3_say rfl rfl rfl (by decide +kernel) ⟨Nat.le_of_ble_eq_true rfl, Nat.le_of_ble_eq_true rfl⟩) hE hP hD hS hA (va_recv hE.K (q_snd hP) (ci := 4) (q0 := 0) rfl rfl) rfl hl.1 rfl (Nat.le_of_ble_eq_true rfl) dL_act_378 ⟨Nat.le_of_ble_eq_true rfl, Nat.le_of_ble_eq_true rfl⟩ (fun _u H locs hP hD hS hE => ?_)
                    have hP : va_P g.1 vwCl (wS g (bU b (sL z + 2 * k + 6) q) (zsay z k (sayX 1)) ++ wC g ad mc M (adW sig (nI (ssr z k)) (zsay z k (sayX 1)) k (ssd z k) (sL z)) (zsay z k (sayX 1))) H := hP
                    have hD : va_D (va_A (wS g b z ++ wC g ad mc M sig z) s.heap.size) (wS g (bU b (sL z + 2 * k + 6) q) (zsay z k (sayX 1)) ++ wC g ad mc M (adW sig (nI (ssr z k)) (zsay z k (sayX 1)) k (ssd z k) (sL z)) (zsay z k (sayX 1))) := hD
                    refine lv_istore (lv' := [(6, .int (nI (ssd z k + 1))), (10, .int (nI i)), (9, .ref q), (8, .int (nI 1)), (7, .int (nI (ssd z k))), (5, .int (nI k)), (4, .int (nI (sL z))), (3, .int (nI (sn z))), (0, .ref (ad 0)), (1, .ref (b 0)), (2, .int x)]) hx hb dL_act_381 hl (by decide) rfl (fun ls hl => ?_)
                    refine lv_goto (tgt := 391) hx hb dL_act_383 (by decide) ?_
                    refine lv_iload hx hb dL_act_391 (lv_at hl 0 rfl) ?_
                    refine lv_iload hx hb dL_act_393 (lv_at hl 4 rfl) ?_
                    refine lv_bipush (v := nI 12) hx hb dL_act_395 (by decide) ?_
                    refine q_icmp_ge (tgt := 407) hx hb (by omega) (by omega) dL_act_397 (by decide) (fun c_25 => ?_) (fun c_25 => ?_)
                    · exact absurd c_25 (by omega)
                    · refine lv_iload hx hb dL_act_400 (lv_at hl 4 rfl) ?_
                      refine lv_iconst (v := nI 1) hx hb dL_act_402 (by decide) ?_
                      refine q_iadd (v := nI (ssd z k + 1)) hx hb dL_act_403 (nI_add _ _) ?_
                      refine lv_goto (tgt := 408) hx hb dL_act_404 (by decide) ?_
                      refine q_icmp_ne (tgt := 415) hx hb (by omega) (by omega) dL_act_408 (by decide) (fun c_26 => ?_) (fun c_26 => ?_)
                      · exact absurd rfl c_26
                      · refine lv_iconst (v := nI 1) hx hb dL_act_411 (by decide) ?_
                        refine lv_goto (tgt := 416) hx hb dL_act_412 (by decide) ?_
                        refine W.widen (k := 40) (n := 400) (Nat.le_of_ble_eq_true rfl) (Nat.le_of_ble_eq_true rfl) ?_
                        exact q_wzret (⟨((bU b (sL z + 2 * k + 6) q), ad, mc, M, adW sig (nI (ssr z k)) (zsay z k (sayX 1)) k (ssd z k) (sL z), (zsay z k (sayX 1))), (bU_n (b := b) (i := sL z + 2 * k + 6) (q := q) (j := 0) (by omega)), rfl, hI.say hk_ (by omega)⟩) hx hb hr hlocks rfl hP hD hS dL_act_416 rfl
                · refine lv_aload hx hb dL_act_328 (lv_at hl 1 rfl) ?_
                  refine lv_iload hx hb dL_act_330 (lv_at hl 0 rfl) ?_
                  refine lv_aload_n hx hb dL_act_332 rfl (lv_at hl 8 rfl) ?_
                  refine va_get (v := .ref (b 4)) (C := RX4) (T := TX4) (N := 4) hx hb hts (q_sub wsX40 238 rfl) hown hE.K hP 0 rfl rfl 2 (by decide) (hts _ (List.mem_of_getElem? (i := 5) rfl)) (fun _ h9 => h9) rfl dL_act_333 ?_
                  refine lv_iload hx hb dL_act_336 (lv_at hl 4 rfl) ?_
                  refine q_aldA (n := sn z) (r := b (sL z + 2 * k + 6)) hx hb hE (hP 4 _ rfl) (by omega) (by omega) dL_act_338 (rfF_lt (by omega)) ?_
                  refine lv_iload hx hb dL_act_339 (lv_at hl 0 rfl) ?_
                  refine q_iald (v := (swd z k) i) hx hb hE (hP _ _ (q_apL (q_apL (wS_w (by omega))))) (by omega) (by omega) dL_act_341 rfl ?_
                  refine q_iast hx hb hE hP hD hS (q0 := (wS g b z ++ wC g ad mc M sig z).length) q_apR (by omega) (by omega) dL_act_342 (fun H locs hP hD hS => ?_)
                  have hP : va_P g.1 vwCl ((wS g b z ++ wC g ad mc M sig z) ++ [(q, ints g (ssd z k + 1) (cpF (swd z k) (i + 1)))]) H := (fun h => by rw [q_setL, cpF_s] at h; exact h) hP
                  have hD : va_D (va_A (wS g b z ++ wC g ad mc M sig z) s.heap.size) ((wS g b z ++ wC g ad mc M sig z) ++ [(q, ints g (ssd z k + 1) (cpF (swd z k) (i + 1)))]) := (fun h => by rw [q_setL, cpF_s] at h; exact h) hD
                  have hE := hE0.kept hS.2.1
                  refine lv_iinc (v := nI (i + 1)) (lv' := [(10, .int (nI (i + 1))), (9, .ref q), (8, .int (nI 1)), (7, .int (nI (ssd z k))), (5, .int (nI k)), (4, .int (nI (sL z))), (3, .int (nI (sn z))), (0, .ref (ad 0)), (1, .ref (b 0)), (2, .int x)]) hx hb dL_act_343 hl (k := 0) rfl (nI_1 _) (by decide) rfl (fun ls hl => ?_)
                  refine lv_goto (tgt := 321) hx hb dL_act_346 (by decide) ?_
                  exact ih_321 (i + 1)  (by omega) (by omega)  _ _ hP hD hS hE _ (lv_sub hl [0, 1, 2, 3, 4, 5, 6, 7, 8, 9] rfl)
            
            exact lp_321 (ssd z k + 1) 0  (Nat.zero_le _) (by omega)  _ _ hP hD hS hE _ (lv_sub hl [0, 1, 2, 3, 4, 5, 6, 7, 8, 9] rfl)
      · exact absurd hk_ (by omega)
    · refine lv_tableIn (off := 382) (tgt := 417) hx hb dL_act_35 (by rw [e14] <;> decide) (by rw [e14] <;> decide) (by rw [e14] <;> rfl) (by decide) ?_
      refine lv_iload_n hx hb dL_act_417 rfl (lv_at hl 2 rfl) ?_
      refine q_if_eq (tgt := 432) hx hb (by omega) dL_act_418 (by decide) (fun c_27 => ?_) (fun c_27 => ?_)
      · exact absurd hk_ (by omega)
      · refine lv_iload_n hx hb dL_act_421 rfl (lv_at hl 5 rfl) ?_
        refine lv_bipush (v := nI 6) hx hb dL_act_422 (by decide) ?_
        refine q_ishr (v := sh x 6) hx hb dL_act_424 rfl ?_
        refine lv_iconst (v := nI 4) hx hb dL_act_425 (by decide) ?_
        refine q_roS (As := [.int (sh x 6), .int (nI 4)]) (rest := []) ⟨hx, hb, hml, hown, hts⟩ (c_L_below (x := sh x 6) (n := 4) (by omega) (by omega)) (va_cwS 2 hts gL_act_L_below rfl rfl rfl (by decide +kernel) ⟨Nat.le_of_ble_eq_true rfl, Nat.le_of_ble_eq_true rfl⟩) hE (fun q h => hA q (Nat.le_trans hS.1 h)) trivial rfl hl.1 rfl (Nat.le_of_ble_eq_true rfl) dL_act_426 ⟨Nat.le_of_ble_eq_true rfl, Nat.le_of_ble_eq_true rfl⟩ ?_
        refine q_if_le (tgt := 434) hx hb (by have := bel_lt (x := sh x 6) (n := 4) (by omega); omega) dL_act_429 (by decide) (fun c_28 => ?_) (fun c_28 => ?_)
        · refine lv_aload_n hx hb dL_act_434 rfl (lv_at hl 4 rfl) ?_
          refine va_get (v := .ref (b 4)) (C := RX4) (T := TX4) (N := 4) hx hb hts (q_sub wsX40 238 rfl) hown hE.K hP 0 rfl rfl 2 (by decide) (hts _ (List.mem_of_getElem? (i := 5) rfl)) (fun _ h9 => h9) rfl dL_act_435 ?_
          refine lv_iload hx hb dL_act_438 (lv_at hl 0 rfl) ?_
          refine q_aldA (n := sn z) (r := b (sL z + 2 * k + 6)) hx hb hE (hP 4 _ rfl) (by omega) (by omega) dL_act_440 (rfF_lt (by omega)) ?_
          refine q_alen (v := nI (ssd z k)) hx hb hE (hP _ _ (q_apL (wS_w (by omega)))) dL_act_441 rfl ?_
          refine lv_istore (lv' := [(7, .int (nI (ssd z k))), (5, .int (nI k)), (4, .int (nI (sL z))), (3, .int (nI (sn z))), (0, .ref (ad 0)), (1, .ref (b 0)), (2, .int x)]) hx hb dL_act_442 hl (by decide) rfl (fun ls hl => ?_)
          refine lv_aload_n hx hb dL_act_444 rfl (lv_at hl 5 rfl) ?_
          refine va_get (v := .ref (b 4)) (C := RX4) (T := TX4) (N := 4) hx hb hts (q_sub wsX40 238 rfl) hown hE.K hP 0 rfl rfl 2 (by decide) (hts _ (List.mem_of_getElem? (i := 5) rfl)) (fun _ h9 => h9) rfl dL_act_445 ?_
          refine lv_iload hx hb dL_act_448 (lv_at hl 1 rfl) ?_
          refine lv_iconst (v := nI 0) hx hb dL_act_450 (by decide) ?_
          refine q_newI (n := 0) hx hb (hts _ (List.mem_of_getElem? (i := 6) rfl)) hE hP hD hS hA (by omega) (Nat.le_of_ble_eq_true rfl) (Nat.le_of_ble_eq_true rfl) dL_act_451 (fun q H hP hD hS => ?_)
          have hP : va_P g.1 vwCl ((wS g b z ++ wC g ad mc M sig z) ++ [(q, ints g 0 (fun _ => 0))]) H := hP
          have hD : va_D (va_A (wS g b z ++ wC g ad mc M sig z) s.heap.size) ((wS g b z ++ wC g ad mc M sig z) ++ [(q, ints g 0 (fun _ => 0))]) := hD
          have hE := hE0.kept hS.2.1
          refine q_aastA (q0 := 4) hx hb hE hP hD hS rfl (hP _ _ q_apR) (by omega) (by omega) dL_act_453 (fun H locs hP hD hS => ?_)
          have hP : va_P g.1 vwCl (wS g (bU b (sL z + 2 * k + 6) q) (zsd z k 0) ++ wC g ad mc M sig z) H := hush_P hk_ hP
          have hD : va_D (va_A (wS g b z ++ wC g ad mc M sig z) s.heap.size) (wS g (bU b (sL z + 2 * k + 6) q) (zsd z k 0) ++ wC g ad mc M sig z) := hush_D hk_ hD
          have hE := hE0.kept hS.2.1
          refine lv_aload_n hx hb dL_act_454 rfl (lv_at hl 4 rfl) ?_
          refine lv_iload hx hb dL_act_455 (lv_at hl 1 rfl) ?_
          refine q_wrV (wr := wS g (bU b (sL z + 2 * k + 6) q) (zsd z k 0)) (As := [.int (nI k)]) (rest := []) ⟨hx, hb, hml, hown, hts⟩ (c_X3_hush hM hV hk_) (cwV 1 hts gL_act_X3_hush rfl rfl rfl (by decide +kernel) ⟨Nat.le_of_ble_eq_true rfl, Nat.le_of_ble_eq_true rfl⟩) hE hP hD hS hA (va_recv hE.K (q_snd hP) (ci := 4) (q0 := 0) rfl rfl) rfl hl.1 rfl (Nat.le_of_ble_eq_true rfl) dL_act_457 ⟨Nat.le_of_ble_eq_true rfl, Nat.le_of_ble_eq_true rfl⟩ (fun _u H locs hP hD hS hE => ?_)
          have hP : va_P g.1 vwCl (wS g (bU b (sL z + 2 * k + 6) q) (zsd z k 0) ++ wC g ad mc M (adWs sig (-nI (ssr z k)) z k (ssd z k)) (zsd z k 0)) H := hP
          have hD : va_D (va_A (wS g b z ++ wC g ad mc M sig z) s.heap.size) (wS g (bU b (sL z + 2 * k + 6) q) (zsd z k 0) ++ wC g ad mc M (adWs sig (-nI (ssr z k)) z k (ssd z k)) (zsd z k 0)) := hD
          refine lv_iload hx hb dL_act_460 (lv_at hl 0 rfl) ?_
          refine q_icmp_ne (tgt := 469) hx hb (by omega) (by omega) dL_act_462 (by decide) (fun c_29 => ?_) (fun c_29 => ?_)
          · exact absurd rfl c_29
          · refine lv_iconst (v := nI 1) hx hb dL_act_465 (by decide) ?_
            refine lv_goto (tgt := 470) hx hb dL_act_466 (by decide) ?_
            refine W.widen (k := 40) (n := 400) (Nat.le_of_ble_eq_true rfl) (Nat.le_of_ble_eq_true rfl) ?_
            exact q_wzret (⟨((bU b (sL z + 2 * k + 6) q), ad, mc, M, adWs sig (-nI (ssr z k)) z k (ssd z k), zsd z k 0), (bU_n (b := b) (i := sL z + 2 * k + 6) (q := q) (j := 0) (by omega)), rfl, hI.hush hk_⟩) hx hb hr hlocks rfl hP hD hS dL_act_470 rfl
        · refine lv_iconst (v := nI 1) hx hb dL_act_432 (by decide) ?_
          refine W.widen (k := 40) (n := 400) (Nat.le_of_ble_eq_true rfl) (Nat.le_of_ble_eq_true rfl) ?_
          exact q_wzret (⟨(b, ad, mc, M, sig, z), rfl, rfl, hI⟩) hx hb hr hlocks rfl hP hD hS dL_act_433 rfl
    · refine lv_tableIn (off := 436) (tgt := 471) hx hb dL_act_35 (by rcases e14 with e14 | e14 <;> rw [e14] <;> decide) (by rcases e14 with e14 | e14 <;> rw [e14] <;> decide) (by rcases e14 with e14 | e14 <;> rw [e14] <;> rfl) (by decide) ?_
      refine lv_iload_n hx hb dL_act_471 rfl (lv_at hl 2 rfl) ?_
      refine q_if_ne (tgt := 477) hx hb (by omega) dL_act_472 (by decide) (fun c_30 => ?_) (fun c_30 => ?_)
      · refine lv_aload_n hx hb dL_act_477 rfl (lv_at hl 4 rfl) ?_
        refine va_get (v := .ref (b 3)) (C := RX4) (T := TX4) (N := 4) hx hb hts (q_sub wsX40 238 rfl) hown hE.K hP 0 rfl rfl 1 (by decide) (hts _ (List.mem_of_getElem? (i := 2) rfl)) (fun _ h9 => h9) rfl dL_act_478 ?_
        refine lv_iload hx hb dL_act_481 (lv_at hl 0 rfl) ?_
        refine q_aldA (n := sn z) (r := b (sL z + 2 * k + 5)) hx hb hE (hP 3 _ rfl) (by omega) (by omega) dL_act_483 (rfF_lt (by omega)) ?_
        refine lv_iconst (v := nI 2) hx hb dL_act_484 (by decide) ?_
        refine q_iald (v := nI (sdl z k)) hx hb hE (hP _ _ (q_apL (wS_h (by omega)))) (by omega) (by omega) dL_act_485 rfl ?_
        refine lv_istore (lv' := [(7, .int (nI (sdl z k))), (5, .int (nI k)), (4, .int (nI (sL z))), (3, .int (nI (sn z))), (0, .ref (ad 0)), (1, .ref (b 0)), (2, .int x)]) hx hb dL_act_486 hl (by decide) rfl (fun ls hl => ?_)
        refine lv_aload_n hx hb dL_act_488 rfl (lv_at hl 5 rfl) ?_
        refine va_get (v := .ref (b 3)) (C := RX4) (T := TX4) (N := 4) hx hb hts (q_sub wsX40 238 rfl) hown hE.K hP 0 rfl rfl 1 (by decide) (hts _ (List.mem_of_getElem? (i := 2) rfl)) (fun _ h9 => h9) rfl dL_act_489 ?_
        refine lv_iload hx hb dL_act_492 (lv_at hl 1 rfl) ?_
        refine q_aldA (n := sn z) (r := b (sL z + 2 * k + 5)) hx hb hE (hP 3 _ rfl) (by omega) (by omega) dL_act_494 (rfF_lt (by omega)) ?_
        refine lv_iconst (v := nI 2) hx hb dL_act_495 (by decide) ?_
        refine lv_iload_n hx hb dL_act_496 rfl (lv_at hl 6 rfl) ?_
        refine lv_bipush (v := nI 7) hx hb dL_act_497 (by decide) ?_
        refine q_ishr (v := sh x 7) hx hb dL_act_499 rfl ?_
        refine lv_iload hx hb dL_act_500 (lv_at hl 2 rfl) ?_
        refine q_roS (As := [.int (sh x 7), .int (nI (sL z))]) (rest := [.int (nI 2), .ref (b (sL z + 2 * k + 5))]) ⟨hx, hb, hml, hown, hts⟩ (c_L_below (x := sh x 7) (n := sL z) (by omega) (by omega)) (va_cwS 2 hts gL_act_L_below rfl rfl rfl (by decide +kernel) ⟨Nat.le_of_ble_eq_true rfl, Nat.le_of_ble_eq_true rfl⟩) hE (fun q h => hA q (Nat.le_trans hS.1 h)) trivial rfl hl.1 rfl (Nat.le_of_ble_eq_true rfl) dL_act_502 ⟨Nat.le_of_ble_eq_true rfl, Nat.le_of_ble_eq_true rfl⟩ ?_
        obtain ⟨d_, hd9_, ed⟩ : ∃ d_, d_ < sL z ∧ bel (sh x 7) (sL z) = d_ := ⟨_, bel_lt (by omega), rfl⟩
        rw [ed]
        refine q_iast hx hb hE hP hD hS (q0 := (sL z + 2 * k + 5)) (q_apL (wS_h hk_)) (by omega) (by omega) dL_act_505 (fun H locs hP hD hS => ?_)
        have hP : va_P g.1 vwCl (wS g b (zdl z k d_) ++ wC g ad mc M sig z) H := (fun h => by rw [wS_dl hk_] at h; exact h) hP
        have hD : va_D (va_A (wS g b z ++ wC g ad mc M sig z) s.heap.size) (wS g b (zdl z k d_) ++ wC g ad mc M sig z) := (fun h => by rw [wS_dl hk_] at h; exact h) hD
        have hE := hE0.kept hS.2.1
        refine lv_aload_n hx hb dL_act_506 rfl (lv_at hl 4 rfl) ?_
        refine lv_iload hx hb dL_act_507 (lv_at hl 1 rfl) ?_
        refine lv_aload_n hx hb dL_act_509 rfl (lv_at hl 5 rfl) ?_
        refine va_get (v := .ref (b 3)) (C := RX4) (T := TX4) (N := 4) hx hb hts (q_sub wsX40 238 rfl) hown hE.K hP 0 rfl rfl 1 (by decide) (hts _ (List.mem_of_getElem? (i := 2) rfl)) (fun _ h9 => h9) rfl dL_act_510 ?_
        refine lv_iload hx hb dL_act_513 (lv_at hl 1 rfl) ?_
        refine q_aldA (n := sn z) (r := b (sL z + 2 * k + 5)) hx hb hE (hP 3 _ rfl) (by omega) (by omega) dL_act_515 (rfF_lt hk_) ?_
        refine lv_iconst (v := nI 2) hx hb dL_act_516 (by decide) ?_
        refine q_iald (v := nI d_) hx hb hE (hP _ _ (q_apL (wS_h hk_))) (by omega) (by omega) dL_act_517 (by show nI (sdl (zdl z k d_) k) = _; rw [show sdl (zdl z k d_) k = d_ from upN_s]) ?_
        refine q_wrV (wr := wS g b (zdl z k d_)) (As := [.int (nI k), .int (nI d_)]) (rest := []) ⟨hx, hb, hml, hown, hts⟩ (c_X3_setDelay hM hV hk_ hd9_) (cwV 2 hts gL_act_X3_setDelay rfl rfl rfl (by decide +kernel) ⟨Nat.le_of_ble_eq_true rfl, Nat.le_of_ble_eq_true rfl⟩) hE hP hD hS hA (va_recv hE.K (q_snd hP) (ci := 4) (q0 := 0) rfl rfl) rfl hl.1 rfl (Nat.le_of_ble_eq_true rfl) dL_act_518 ⟨Nat.le_of_ble_eq_true rfl, Nat.le_of_ble_eq_true rfl⟩ (fun _u H locs hP hD hS hE => ?_)
        have hP : va_P g.1 vwCl (wS g b (zdl z k d_) ++ wC g ad mc M (adWs (adWs sig (-nI (ssr z k)) z k (ssd z k)) (nI (ssr z k)) (zdl z k d_) k (ssd z k)) (zdl z k d_)) H := hP
        have hD : va_D (va_A (wS g b z ++ wC g ad mc M sig z) s.heap.size) (wS g b (zdl z k d_) ++ wC g ad mc M (adWs (adWs sig (-nI (ssr z k)) z k (ssd z k)) (nI (ssr z k)) (zdl z k d_) k (ssd z k)) (zdl z k d_)) := hD
        refine lv_iload hx hb dL_act_521 (lv_at hl 0 rfl) ?_
        refine q_icmp_ne (tgt := 530) hx hb (by omega) (by omega) dL_act_523 (by decide) (fun c_31 => ?_) (fun c_31 => ?_)
        · exact absurd rfl c_31
        · refine lv_iconst (v := nI 1) hx hb dL_act_526 (by decide) ?_
          refine lv_goto (tgt := 531) hx hb dL_act_527 (by decide) ?_
          refine W.widen (k := 40) (n := 400) (Nat.le_of_ble_eq_true rfl) (Nat.le_of_ble_eq_true rfl) ?_
          exact q_wzret (⟨(b, ad, mc, M, adWs (adWs sig (-nI (ssr z k)) z k (ssd z k)) (nI (ssr z k)) (zdl z k d_) k (ssd z k), (zdl z k d_)), rfl, rfl, hI.dl hk_ hd9_⟩) hx hb hr hlocks rfl hP hD hS dL_act_531 rfl
      · exact absurd hk_ (by omega)
    · refine lv_tableIn (off := 497) (tgt := 532) hx hb dL_act_35 (by rw [e14] <;> decide) (by rw [e14] <;> decide) (by rw [e14] <;> rfl) (by decide) ?_
      refine lv_iload_n hx hb dL_act_532 rfl (lv_at hl 2 rfl) ?_
      refine q_if_ne (tgt := 538) hx hb (by omega) dL_act_533 (by decide) (fun c_32 => ?_) (fun c_32 => ?_)
      · refine lv_aload_n hx hb dL_act_538 rfl (lv_at hl 4 rfl) ?_
        refine va_get (v := .ref (b 3)) (C := RX4) (T := TX4) (N := 4) hx hb hts (q_sub wsX40 238 rfl) hown hE.K hP 0 rfl rfl 1 (by decide) (hts _ (List.mem_of_getElem? (i := 2) rfl)) (fun _ h9 => h9) rfl dL_act_539 ?_
        refine lv_iload hx hb dL_act_542 (lv_at hl 0 rfl) ?_
        refine q_aldA (n := sn z) (r := b (sL z + 2 * k + 5)) hx hb hE (hP 3 _ rfl) (by omega) (by omega) dL_act_544 (rfF_lt (by omega)) ?_
        refine lv_iconst (v := nI 1) hx hb dL_act_545 (by decide) ?_
        refine q_iald (v := nI (ssr z k)) hx hb hE (hP _ _ (q_apL (wS_h (by omega)))) (by omega) (by omega) dL_act_546 rfl ?_
        refine lv_istore (lv' := [(7, .int (nI (ssr z k))), (5, .int (nI k)), (4, .int (nI (sL z))), (3, .int (nI (sn z))), (0, .ref (ad 0)), (1, .ref (b 0)), (2, .int x)]) hx hb dL_act_547 hl (by decide) rfl (fun ls hl => ?_)
        refine lv_aload_n hx hb dL_act_549 rfl (lv_at hl 5 rfl) ?_
        refine va_get (v := .ref (b 3)) (C := RX4) (T := TX4) (N := 4) hx hb hts (q_sub wsX40 238 rfl) hown hE.K hP 0 rfl rfl 1 (by decide) (hts _ (List.mem_of_getElem? (i := 2) rfl)) (fun _ h9 => h9) rfl dL_act_550 ?_
        refine lv_iload hx hb dL_act_553 (lv_at hl 1 rfl) ?_
        refine q_aldA (n := sn z) (r := b (sL z + 2 * k + 5)) hx hb hE (hP 3 _ rfl) (by omega) (by omega) dL_act_555 (rfF_lt (by omega)) ?_
        refine lv_iconst (v := nI 1) hx hb dL_act_556 (by decide) ?_
        refine lv_iconst (v := nI 1) hx hb dL_act_557 (by decide) ?_
        refine lv_iload_n hx hb dL_act_558 rfl (lv_at hl 6 rfl) ?_
        refine lv_bipush (v := nI 7) hx hb dL_act_559 (by decide) ?_
        refine q_ishr (v := sh x 7) hx hb dL_act_561 rfl ?_
        refine lv_bipush (v := nI 9) hx hb dL_act_562 (by decide) ?_
        refine q_roS (As := [.int (sh x 7), .int (nI 9)]) (rest := [.int (nI 1), .int (nI 1), .ref (b (sL z + 2 * k + 5))]) ⟨hx, hb, hml, hown, hts⟩ (c_L_below (x := sh x 7) (n := 9) (by omega) (by omega)) (va_cwS 2 hts gL_act_L_below rfl rfl rfl (by decide +kernel) ⟨Nat.le_of_ble_eq_true rfl, Nat.le_of_ble_eq_true rfl⟩) hE (fun q h => hA q (Nat.le_trans hS.1 h)) trivial rfl hl.1 rfl (Nat.le_of_ble_eq_true rfl) dL_act_564 ⟨Nat.le_of_ble_eq_true rfl, Nat.le_of_ble_eq_true rfl⟩ ?_
        refine q_iadd (v := nI (1 + bel (sh x 7) 9)) hx hb dL_act_567 (nI_add _ _) ?_
        obtain ⟨s_, h1_, h9_, es⟩ : ∃ s_, 1 ≤ s_ ∧ s_ ≤ 9 ∧ 1 + bel (sh x 7) 9 = s_ := ⟨_, by omega, by have := bel_lt (x := sh x 7) (n := 9) (by omega); omega, rfl⟩
        rw [es]
        refine q_iast hx hb hE hP hD hS (q0 := (sL z + 2 * k + 5)) (q_apL (wS_h hk_)) (by omega) (by omega) dL_act_568 (fun H locs hP hD hS => ?_)
        have hP : va_P g.1 vwCl (wS g b (zsr z k s_) ++ wC g ad mc M sig z) H := (fun h => by rw [wS_sr hk_] at h; exact h) hP
        have hD : va_D (va_A (wS g b z ++ wC g ad mc M sig z) s.heap.size) (wS g b (zsr z k s_) ++ wC g ad mc M sig z) := (fun h => by rw [wS_sr hk_] at h; exact h) hD
        have hE := hE0.kept hS.2.1
        refine lv_aload_n hx hb dL_act_569 rfl (lv_at hl 4 rfl) ?_
        refine lv_iload hx hb dL_act_570 (lv_at hl 1 rfl) ?_
        refine lv_aload_n hx hb dL_act_572 rfl (lv_at hl 5 rfl) ?_
        refine va_get (v := .ref (b 3)) (C := RX4) (T := TX4) (N := 4) hx hb hts (q_sub wsX40 238 rfl) hown hE.K hP 0 rfl rfl 1 (by decide) (hts _ (List.mem_of_getElem? (i := 2) rfl)) (fun _ h9 => h9) rfl dL_act_573 ?_
        refine lv_iload hx hb dL_act_576 (lv_at hl 1 rfl) ?_
        refine q_aldA (n := sn z) (r := b (sL z + 2 * k + 5)) hx hb hE (hP 3 _ rfl) (by omega) (by omega) dL_act_578 (rfF_lt hk_) ?_
        refine lv_iconst (v := nI 1) hx hb dL_act_579 (by decide) ?_
        refine q_iald (v := nI s_) hx hb hE (hP _ _ (q_apL (wS_h hk_))) (by omega) (by omega) dL_act_580 (by show nI (ssr (zsr z k s_) k) = _; rw [show ssr (zsr z k s_) k = s_ from upN_s]) ?_
        refine q_wrV (wr := wS g b (zsr z k s_)) (As := [.int (nI k), .int (nI s_)]) (rest := []) ⟨hx, hb, hml, hown, hts⟩ (c_X3_setStrength hM hV hk_ h1_ h9_) (cwV 2 hts gL_act_X3_setStrength rfl rfl rfl (by decide +kernel) ⟨Nat.le_of_ble_eq_true rfl, Nat.le_of_ble_eq_true rfl⟩) hE hP hD hS hA (va_recv hE.K (q_snd hP) (ci := 4) (q0 := 0) rfl rfl) rfl hl.1 rfl (Nat.le_of_ble_eq_true rfl) dL_act_581 ⟨Nat.le_of_ble_eq_true rfl, Nat.le_of_ble_eq_true rfl⟩ (fun _u H locs hP hD hS hE => ?_)
        have hP : va_P g.1 vwCl (wS g b (zsr z k s_) ++ wC g ad mc M (adWs sig (nI s_ - nI (ssr z k)) z k (ssd z k)) (zsr z k s_)) H := hP
        have hD : va_D (va_A (wS g b z ++ wC g ad mc M sig z) s.heap.size) (wS g b (zsr z k s_) ++ wC g ad mc M (adWs sig (nI s_ - nI (ssr z k)) z k (ssd z k)) (zsr z k s_)) := hD
        refine lv_iload hx hb dL_act_584 (lv_at hl 0 rfl) ?_
        refine q_icmp_ne (tgt := 593) hx hb (by omega) (by omega) dL_act_586 (by decide) (fun c_33 => ?_) (fun c_33 => ?_)
        · exact absurd rfl c_33
        · refine lv_iconst (v := nI 1) hx hb dL_act_589 (by decide) ?_
          refine lv_goto (tgt := 594) hx hb dL_act_590 (by decide) ?_
          refine W.widen (k := 40) (n := 400) (Nat.le_of_ble_eq_true rfl) (Nat.le_of_ble_eq_true rfl) ?_
          exact q_wzret (⟨(b, ad, mc, M, adWs sig (nI s_ - nI (ssr z k)) z k (ssd z k), (zsr z k s_)), rfl, rfl, hI.sr hk_ h1_ h9_⟩) hx hb hr hlocks rfl hP hD hS dL_act_594 rfl
      · exact absurd hk_ (by omega)
    · refine lv_tableOut (tgt := 595) hx hb dL_act_35 (Or.inr (by rw [nI_toInt (by omega)]; omega)) (by decide) ?_
      refine lv_iload_n hx hb dL_act_595 rfl (lv_at hl 5 rfl) ?_
      refine lv_iconst (v := nI 4) hx hb dL_act_596 (by decide) ?_
      refine q_ishr (v := sh x 4) hx hb dL_act_597 rfl ?_
      refine lv_bipush (v := nI 20) hx hb dL_act_598 (by decide) ?_
      refine q_roS (As := [.int (sh x 4), .int (nI 20)]) (rest := []) ⟨hx, hb, hml, hown, hts⟩ (c_L_below (x := sh x 4) (n := 20) (by omega) (by omega)) (va_cwS 2 hts gL_act_L_below rfl rfl rfl (by decide +kernel) ⟨Nat.le_of_ble_eq_true rfl, Nat.le_of_ble_eq_true rfl⟩) hE (fun q h => hA q (Nat.le_trans hS.1 h)) trivial rfl hl.1 rfl (Nat.le_of_ble_eq_true rfl) dL_act_600 ⟨Nat.le_of_ble_eq_true rfl, Nat.le_of_ble_eq_true rfl⟩ ?_
      obtain ⟨p_, hp_, ep⟩ : ∃ p_, p_ < 20 ∧ bel (sh x 4) 20 = p_ := ⟨_, bel_lt (by omega), rfl⟩
      rw [ep]
      refine lv_istore (lv' := [(7, .int (nI p_)), (5, .int (nI k)), (4, .int (nI (sL z))), (3, .int (nI (sn z))), (0, .ref (ad 0)), (1, .ref (b 0)), (2, .int x)]) hx hb dL_act_603 hl (by decide) rfl (fun ls hl => ?_)
      refine lv_aload_n hx hb dL_act_605 rfl (lv_at hl 5 rfl) ?_
      refine va_get (v := .ref (b 1)) (C := RX4) (T := TX4) (N := 4) hx hb hts (q_sub wsX40 238 rfl) hown hE.K hP 0 rfl rfl 3 (by decide) (hts _ (List.mem_of_getElem? (i := 7) rfl)) (fun _ h9 => h9) rfl dL_act_606 ?_
      refine lv_iload hx hb dL_act_609 (lv_at hl 0 rfl) ?_
      refine q_iald (v := (sst z) p_) hx hb hE (hP 1 _ rfl) (by omega) (by omega) dL_act_611 rfl ?_
      refine lv_istore (lv' := [(8, .int ((sst z) p_)), (7, .int (nI p_)), (5, .int (nI k)), (4, .int (nI (sL z))), (3, .int (nI (sn z))), (0, .ref (ad 0)), (1, .ref (b 0)), (2, .int x)]) hx hb dL_act_612 hl (by decide) rfl (fun ls hl => ?_)
      refine lv_aload_n hx hb dL_act_614 rfl (lv_at hl 6 rfl) ?_
      refine va_get (v := .ref (b 1)) (C := RX4) (T := TX4) (N := 4) hx hb hts (q_sub wsX40 238 rfl) hown hE.K hP 0 rfl rfl 3 (by decide) (hts _ (List.mem_of_getElem? (i := 7) rfl)) (fun _ h9 => h9) rfl dL_act_615 ?_
      refine lv_iload hx hb dL_act_618 (lv_at hl 1 rfl) ?_
      refine lv_iload_n hx hb dL_act_620 rfl (lv_at hl 7 rfl) ?_
      refine lv_bipush (v := nI 6) hx hb dL_act_621 (by decide) ?_
      refine q_ishr (v := sh x 6) hx hb dL_act_623 rfl ?_
      refine lv_iload_n hx hb dL_act_624 rfl (lv_at hl 7 rfl) ?_
      refine lv_bipush (v := nI 8) hx hb dL_act_625 (by decide) ?_
      refine q_ishr (v := sh x 8) hx hb dL_act_627 rfl ?_
      refine lv_iconst (v := nI 3) hx hb dL_act_628 (by decide) ?_
      refine q_roS (As := [.int (sh x 8), .int (nI 3)]) (rest := [.int (sh x 6), .int (nI p_), .ref (b 1)]) ⟨hx, hb, hml, hown, hts⟩ (c_L_below (x := sh x 8) (n := 3) (by omega) (by omega)) (va_cwS 2 hts gL_act_L_below rfl rfl rfl (by decide +kernel) ⟨Nat.le_of_ble_eq_true rfl, Nat.le_of_ble_eq_true rfl⟩) hE (fun q h => hA q (Nat.le_trans hS.1 h)) trivial rfl hl.1 rfl (Nat.le_of_ble_eq_true rfl) dL_act_629 ⟨Nat.le_of_ble_eq_true rfl, Nat.le_of_ble_eq_true rfl⟩ ?_
      refine q_if_ne (tgt := 641) hx hb (by have := bel_lt (x := sh x 8) (n := 3) (by omega); omega) dL_act_632 (by decide) (fun c_a => ?_) (fun c_a => ?_)
      · refine lv_bipush (v := nI 9) hx hb dL_act_641 (by decide) ?_
        refine q_roS (As := [.int (sh x 6), .int (nI 9)]) (rest := [.int (nI p_), .ref (b 1)]) ⟨hx, hb, hml, hown, hts⟩ (c_L_below (x := sh x 6) (n := 9) (by omega) (by omega)) (va_cwS 2 hts gL_act_L_below rfl rfl rfl (by decide +kernel) ⟨Nat.le_of_ble_eq_true rfl, Nat.le_of_ble_eq_true rfl⟩) hE (fun q h => hA q (Nat.le_trans hS.1 h)) trivial rfl hl.1 rfl (Nat.le_of_ble_eq_true rfl) dL_act_643 ⟨Nat.le_of_ble_eq_true rfl, Nat.le_of_ble_eq_true rfl⟩ ?_
        refine lv_iload_n hx hb dL_act_646 rfl (lv_at hl 7 rfl) ?_
        refine lv_bipush (v := nI 8) hx hb dL_act_647 (by decide) ?_
        refine q_ishr (v := sh x 8) hx hb dL_act_649 rfl ?_
        refine lv_iconst (v := nI 3) hx hb dL_act_650 (by decide) ?_
        refine q_roS (As := [.int (sh x 8), .int (nI 3)]) (rest := [.int (nI (bel (sh x 6) 9)), .int (nI p_), .ref (b 1)]) ⟨hx, hb, hml, hown, hts⟩ (c_L_below (x := sh x 8) (n := 3) (by omega) (by omega)) (va_cwS 2 hts gL_act_L_below rfl rfl rfl (by decide +kernel) ⟨Nat.le_of_ble_eq_true rfl, Nat.le_of_ble_eq_true rfl⟩) hE (fun q h => hA q (Nat.le_trans hS.1 h)) trivial rfl hl.1 rfl (Nat.le_of_ble_eq_true rfl) dL_act_651 ⟨Nat.le_of_ble_eq_true rfl, Nat.le_of_ble_eq_true rfl⟩ ?_
        refine q_if_ne (tgt := 662) hx hb (by have := bel_lt (x := sh x 8) (n := 3) (by omega); omega) dL_act_654 (by decide) (fun c_34 => ?_) (fun c_34 => ?_)
        · refine lv_iconst (v := nI 4) hx hb dL_act_662 (by decide) ?_
          refine q_isub (v := (nI (bel (sh x 6) 9)) - (nI 4)) hx hb dL_act_663 rfl ?_
          have hv_ : inB (nI (bel (sh x 6) 9) - nI 4) (-99) 99 := q_stm (c := 0) (by have := bel_lt (x := sh x 6) (n := 9) (by omega); omega) (by omega)
          refine q_iast hx hb hE hP hD hS (q0 := 1) rfl (by omega) (by omega) dL_act_664 (fun H locs hP hD hS => ?_)
          have hP : va_P g.1 vwCl (wS g b (zst z p_ (nI (bel (sh x 6) 9) - nI 4)) ++ wC g ad mc M sig z) H := hP
          have hD : va_D (va_A (wS g b z ++ wC g ad mc M sig z) s.heap.size) (wS g b (zst z p_ (nI (bel (sh x 6) 9) - nI 4)) ++ wC g ad mc M sig z) := hD
          have hE := hE0.kept hS.2.1
          refine lv_aload_n hx hb dL_act_665 rfl (lv_at hl 5 rfl) ?_
          refine lv_iload hx hb dL_act_666 (lv_at hl 1 rfl) ?_
          refine lv_aload_n hx hb dL_act_668 rfl (lv_at hl 6 rfl) ?_
          refine va_get (v := .ref (b 1)) (C := RX4) (T := TX4) (N := 4) hx hb hts (q_sub wsX40 238 rfl) hown hE.K hP 0 rfl rfl 3 (by decide) (hts _ (List.mem_of_getElem? (i := 7) rfl)) (fun _ h9 => h9) rfl dL_act_669 ?_
          refine lv_iload hx hb dL_act_672 (lv_at hl 1 rfl) ?_
          refine q_iald (v := nI (bel (sh x 6) 9) - nI 4) hx hb hE (hP 1 _ rfl) (by omega) (by omega) dL_act_674 pk_us ?_
          refine q_wrV (wr := wS g b (zst z p_ (nI (bel (sh x 6) 9) - nI 4))) (As := [.int (nI p_), .int (nI (bel (sh x 6) 9) - nI 4)]) (rest := []) ⟨hx, hb, hml, hown, hts⟩ (c_X3_setStorm hM hV hp_ hv_) (cwV 2 hts gL_act_X3_setStorm rfl rfl rfl (by decide +kernel) ⟨Nat.le_of_ble_eq_true rfl, Nat.le_of_ble_eq_true rfl⟩) hE hP hD hS hA (va_recv hE.K (q_snd hP) (ci := 4) (q0 := 0) rfl rfl) rfl hl.1 rfl (Nat.le_of_ble_eq_true rfl) dL_act_675 ⟨Nat.le_of_ble_eq_true rfl, Nat.le_of_ble_eq_true rfl⟩ (fun _u H locs hP hD hS hE => ?_)
          have hP : va_P g.1 vwCl (wS g b (zst z p_ (nI (bel (sh x 6) 9) - nI 4)) ++ wC g ad mc M sig (zst z p_ (nI (bel (sh x 6) 9) - nI 4))) H := hP
          have hD : va_D (va_A (wS g b z ++ wC g ad mc M sig z) s.heap.size) (wS g b (zst z p_ (nI (bel (sh x 6) 9) - nI 4)) ++ wC g ad mc M sig (zst z p_ (nI (bel (sh x 6) 9) - nI 4))) := hD
          refine lv_iload hx hb dL_act_678 (lv_at hl 0 rfl) ?_
          refine lv_icmp_ne (tgt := 687) hx hb dL_act_680 (by decide) (fun c_35 => ?_) (fun c_35 => ?_)
          · exact absurd rfl c_35
          · refine lv_iconst (v := nI 1) hx hb dL_act_683 (by decide) ?_
            refine lv_goto (tgt := 688) hx hb dL_act_684 (by decide) ?_
            refine W.widen (k := 40) (n := 400) (Nat.le_of_ble_eq_true rfl) (Nat.le_of_ble_eq_true rfl) ?_
            exact q_wzret (⟨(b, ad, mc, M, sig, (zst z p_ (nI (bel (sh x 6) 9) - nI 4))), rfl, rfl, hI.st hv_⟩) hx hb hr hlocks rfl hP hD hS dL_act_688 rfl
        · exact absurd c_a (by omega)
      · refine lv_sipush (v := nI 199) hx hb dL_act_635 (by decide) ?_
        refine lv_goto (tgt := 643) hx hb dL_act_638 (by decide) ?_
        refine q_roS (As := [.int (sh x 6), .int (nI 199)]) (rest := [.int (nI p_), .ref (b 1)]) ⟨hx, hb, hml, hown, hts⟩ (c_L_below (x := sh x 6) (n := 199) (by omega) (by omega)) (va_cwS 2 hts gL_act_L_below rfl rfl rfl (by decide +kernel) ⟨Nat.le_of_ble_eq_true rfl, Nat.le_of_ble_eq_true rfl⟩) hE (fun q h => hA q (Nat.le_trans hS.1 h)) trivial rfl hl.1 rfl (Nat.le_of_ble_eq_true rfl) dL_act_643 ⟨Nat.le_of_ble_eq_true rfl, Nat.le_of_ble_eq_true rfl⟩ ?_
        refine lv_iload_n hx hb dL_act_646 rfl (lv_at hl 7 rfl) ?_
        refine lv_bipush (v := nI 8) hx hb dL_act_647 (by decide) ?_
        refine q_ishr (v := sh x 8) hx hb dL_act_649 rfl ?_
        refine lv_iconst (v := nI 3) hx hb dL_act_650 (by decide) ?_
        refine q_roS (As := [.int (sh x 8), .int (nI 3)]) (rest := [.int (nI (bel (sh x 6) 199)), .int (nI p_), .ref (b 1)]) ⟨hx, hb, hml, hown, hts⟩ (c_L_below (x := sh x 8) (n := 3) (by omega) (by omega)) (va_cwS 2 hts gL_act_L_below rfl rfl rfl (by decide +kernel) ⟨Nat.le_of_ble_eq_true rfl, Nat.le_of_ble_eq_true rfl⟩) hE (fun q h => hA q (Nat.le_trans hS.1 h)) trivial rfl hl.1 rfl (Nat.le_of_ble_eq_true rfl) dL_act_651 ⟨Nat.le_of_ble_eq_true rfl, Nat.le_of_ble_eq_true rfl⟩ ?_
        refine q_if_ne (tgt := 662) hx hb (by have := bel_lt (x := sh x 8) (n := 3) (by omega); omega) dL_act_654 (by decide) (fun c_36 => ?_) (fun c_36 => ?_)
        · exact absurd c_a (by omega)
        · refine lv_bipush (v := nI 99) hx hb dL_act_657 (by decide) ?_
          refine lv_goto (tgt := 663) hx hb dL_act_659 (by decide) ?_
          refine q_isub (v := (nI (bel (sh x 6) 199)) - (nI 99)) hx hb dL_act_663 rfl ?_
          have hv_ : inB (nI (bel (sh x 6) 199) - nI 99) (-99) 99 := q_stm (c := 0) (by have := bel_lt (x := sh x 6) (n := 199) (by omega); omega) (by omega)
          refine q_iast hx hb hE hP hD hS (q0 := 1) rfl (by omega) (by omega) dL_act_664 (fun H locs hP hD hS => ?_)
          have hP : va_P g.1 vwCl (wS g b (zst z p_ (nI (bel (sh x 6) 199) - nI 99)) ++ wC g ad mc M sig z) H := hP
          have hD : va_D (va_A (wS g b z ++ wC g ad mc M sig z) s.heap.size) (wS g b (zst z p_ (nI (bel (sh x 6) 199) - nI 99)) ++ wC g ad mc M sig z) := hD
          have hE := hE0.kept hS.2.1
          refine lv_aload_n hx hb dL_act_665 rfl (lv_at hl 5 rfl) ?_
          refine lv_iload hx hb dL_act_666 (lv_at hl 1 rfl) ?_
          refine lv_aload_n hx hb dL_act_668 rfl (lv_at hl 6 rfl) ?_
          refine va_get (v := .ref (b 1)) (C := RX4) (T := TX4) (N := 4) hx hb hts (q_sub wsX40 238 rfl) hown hE.K hP 0 rfl rfl 3 (by decide) (hts _ (List.mem_of_getElem? (i := 7) rfl)) (fun _ h9 => h9) rfl dL_act_669 ?_
          refine lv_iload hx hb dL_act_672 (lv_at hl 1 rfl) ?_
          refine q_iald (v := nI (bel (sh x 6) 199) - nI 99) hx hb hE (hP 1 _ rfl) (by omega) (by omega) dL_act_674 pk_us ?_
          refine q_wrV (wr := wS g b (zst z p_ (nI (bel (sh x 6) 199) - nI 99))) (As := [.int (nI p_), .int (nI (bel (sh x 6) 199) - nI 99)]) (rest := []) ⟨hx, hb, hml, hown, hts⟩ (c_X3_setStorm hM hV hp_ hv_) (cwV 2 hts gL_act_X3_setStorm rfl rfl rfl (by decide +kernel) ⟨Nat.le_of_ble_eq_true rfl, Nat.le_of_ble_eq_true rfl⟩) hE hP hD hS hA (va_recv hE.K (q_snd hP) (ci := 4) (q0 := 0) rfl rfl) rfl hl.1 rfl (Nat.le_of_ble_eq_true rfl) dL_act_675 ⟨Nat.le_of_ble_eq_true rfl, Nat.le_of_ble_eq_true rfl⟩ (fun _u H locs hP hD hS hE => ?_)
          have hP : va_P g.1 vwCl (wS g b (zst z p_ (nI (bel (sh x 6) 199) - nI 99)) ++ wC g ad mc M sig (zst z p_ (nI (bel (sh x 6) 199) - nI 99))) H := hP
          have hD : va_D (va_A (wS g b z ++ wC g ad mc M sig z) s.heap.size) (wS g b (zst z p_ (nI (bel (sh x 6) 199) - nI 99)) ++ wC g ad mc M sig (zst z p_ (nI (bel (sh x 6) 199) - nI 99))) := hD
          refine lv_iload hx hb dL_act_678 (lv_at hl 0 rfl) ?_
          refine lv_icmp_ne (tgt := 687) hx hb dL_act_680 (by decide) (fun c_37 => ?_) (fun c_37 => ?_)
          · exact absurd rfl c_37
          · refine lv_iconst (v := nI 1) hx hb dL_act_683 (by decide) ?_
            refine lv_goto (tgt := 688) hx hb dL_act_684 (by decide) ?_
            refine W.widen (k := 40) (n := 400) (Nat.le_of_ble_eq_true rfl) (Nat.le_of_ble_eq_true rfl) ?_
            exact q_wzret (⟨(b, ad, mc, M, sig, (zst z p_ (nI (bel (sh x 6) 199) - nI 99))), rfl, rfl, hI.st hv_⟩) hx hb hr hlocks rfl hP hD hS dL_act_688 rfl
  · refine lv_iconst (v := (-1 : Int32)) hx hb dL_act_16 (by decide) ?_
    refine lv_goto (tgt := 27) hx hb dL_act_17 (by decide) ?_
    refine lv_istore (lv' := [(5, .int (-1 : Int32)), (4, .int (nI (sL z))), (3, .int (nI (sn z))), (0, .ref (ad 0)), (1, .ref (b 0)), (2, .int x)]) hx hb dL_act_27 hl (by decide) rfl (fun ls hl => ?_)
    refine lv_iload_n hx hb dL_act_29 rfl (lv_at hl 5 rfl) ?_
    refine lv_bipush (v := nI 14) hx hb dL_act_30 (by decide) ?_
    refine q_roS (As := [.int x, .int (nI 14)]) (rest := []) ⟨hx, hb, hml, hown, hts⟩ (c_L_below (x := x) (n := 14) (by omega) (by omega)) (va_cwS 2 hts gL_act_L_below rfl rfl rfl (by decide +kernel) ⟨Nat.le_of_ble_eq_true rfl, Nat.le_of_ble_eq_true rfl⟩) hE (fun q h => hA q (Nat.le_trans hS.1 h)) trivial rfl hl.1 rfl (Nat.le_of_ble_eq_true rfl) dL_act_32 ⟨Nat.le_of_ble_eq_true rfl, Nat.le_of_ble_eq_true rfl⟩ ?_
    have h14 := bel_lt (x := x) (n := 14) (by omega)
    rcases (show (bel x 14 = 0) ∨ (bel x 14 = 1 ∨ bel x 14 = 2) ∨ (bel x 14 = 3 ∨ bel x 14 = 4 ∨ bel x 14 = 5 ∨ bel x 14 = 6) ∨ (bel x 14 = 7) ∨ (bel x 14 = 8 ∨ bel x 14 = 9) ∨ (bel x 14 = 10) ∨ 11 ≤ bel x 14 by omega) with e14 | e14 | e14 | e14 | e14 | e14 | e14
    · refine lv_tableIn (off := 57) (tgt := 92) hx hb dL_act_35 (by rw [e14] <;> decide) (by rw [e14] <;> decide) (by rw [e14] <;> rfl) (by decide) ?_
      refine lv_iload_n hx hb dL_act_92 rfl (lv_at hl 5 rfl) ?_
      refine lv_iconst (v := nI 4) hx hb dL_act_93 (by decide) ?_
      refine q_ishr (v := sh x 4) hx hb dL_act_94 rfl ?_
      refine lv_iconst (v := nI 4) hx hb dL_act_95 (by decide) ?_
      refine q_roS (As := [.int (sh x 4), .int (nI 4)]) (rest := []) ⟨hx, hb, hml, hown, hts⟩ (c_L_below (x := sh x 4) (n := 4) (by omega) (by omega)) (va_cwS 2 hts gL_act_L_below rfl rfl rfl (by decide +kernel) ⟨Nat.le_of_ble_eq_true rfl, Nat.le_of_ble_eq_true rfl⟩) hE (fun q h => hA q (Nat.le_trans hS.1 h)) trivial rfl hl.1 rfl (Nat.le_of_ble_eq_true rfl) dL_act_96 ⟨Nat.le_of_ble_eq_true rfl, Nat.le_of_ble_eq_true rfl⟩ ?_
      refine q_if_le (tgt := 104) hx hb (by have := bel_lt (x := sh x 4) (n := 4) (by omega); omega) dL_act_99 (by decide) (fun c_38 => ?_) (fun c_38 => ?_)
      · refine lv_iload_n hx hb dL_act_104 rfl (lv_at hl 5 rfl) ?_
        refine lv_bipush (v := nI 6) hx hb dL_act_105 (by decide) ?_
        refine q_ishr (v := sh x 6) hx hb dL_act_107 rfl ?_
        refine lv_iconst (v := nI 5) hx hb dL_act_108 (by decide) ?_
        refine q_roS (As := [.int (sh x 6), .int (nI 5)]) (rest := []) ⟨hx, hb, hml, hown, hts⟩ (c_L_below (x := sh x 6) (n := 5) (by omega) (by omega)) (va_cwS 2 hts gL_act_L_below rfl rfl rfl (by decide +kernel) ⟨Nat.le_of_ble_eq_true rfl, Nat.le_of_ble_eq_true rfl⟩) hE (fun q h => hA q (Nat.le_trans hS.1 h)) trivial rfl hl.1 rfl (Nat.le_of_ble_eq_true rfl) dL_act_109 ⟨Nat.le_of_ble_eq_true rfl, Nat.le_of_ble_eq_true rfl⟩ ?_
        obtain ⟨q_, hq_, eq_⟩ : ∃ q, q < 5 ∧ bel (sh x 6) 5 = q := ⟨_, bel_lt (by omega), rfl⟩
        rw [eq_]
        refine lv_istore (lv' := [(7, .int (nI q_)), (5, .int (-1 : Int32)), (4, .int (nI (sL z))), (3, .int (nI (sn z))), (0, .ref (ad 0)), (1, .ref (b 0)), (2, .int x)]) hx hb dL_act_112 hl (by decide) rfl (fun ls hl => ?_)
        rcases (show q_ = 0 ∨ q_ = 1 ∨ q_ = 2 ∨ q_ = 3 ∨ q_ = 4 by omega) with rfl | rfl | rfl | rfl | rfl
        · refine lv_aload_n hx hb dL_act_114 rfl (lv_at hl 5 rfl) ?_
          refine lv_iconst (v := nI 1) hx hb dL_act_115 (by decide) ?_
          refine lv_iload hx hb dL_act_116 (lv_at hl 0 rfl) ?_
          refine q_ishl (v := nI 1) hx hb dL_act_118 (by decide) ?_
          refine q_nwS (wr := wS g b z ++ wC g ad mc M sig z) (As := [.int (nI 1)]) (rest := [.ref (b 0)]) ⟨hx, hb, hml, hown, hts⟩ (c_tab1 ) (va_cwS 1 hts gL_act_X4_table rfl rfl rfl (by decide +kernel) ⟨Nat.le_of_ble_eq_true rfl, Nat.le_of_ble_eq_true rfl⟩) hE hP hD hS hA trivial rfl hl.1 rfl (Nat.le_of_ble_eq_true rfl) dL_act_119 ⟨Nat.le_of_ble_eq_true rfl, Nat.le_of_ble_eq_true rfl⟩ (fun u_ H locs hP hD hS hE => ?_)
          have hP : va_P g.1 vwCl ((wS g b z ++ wC g ad mc M sig z) ++ ((u_.1, refs g 1 (rfF u_.2 1)) :: tRows g 1 u_.2 chip)) H := hP
          have hD : va_D (va_A (wS g b z ++ wC g ad mc M sig z) s.heap.size) ((wS g b z ++ wC g ad mc M sig z) ++ ((u_.1, refs g 1 (rfF u_.2 1)) :: tRows g 1 u_.2 chip)) := hD
          refine va_put (D := g.1) (ci := 5) (v := .ref u_.1) (ty := .array (.array .int)) (C := RX4) (T := TX4) (N := 4) hx hb hts (q_sub wsX40 238 rfl) tyX4 tyX4_ok nmX4 hown hE.K hP hD hS 0 rfl rfl 0 (by decide) (hts _ (List.mem_of_getElem? (i := 3) rfl)) (fun _ h9 => h9) rfl (by decide +kernel) rfl rfl (Nat.le_of_ble_eq_true rfl) dL_act_122 (fun H locs hP hD hS => ?_)
          have hP : va_P g.1 vwCl ((((b 0, .inr (5, [.ref u_.1, .ref (b 3), .ref (b 4), .ref (b 1)])) :: (b 1, ints g 20 (sst z)) :: (b 2, refs g (sL z) (rfF (cOf b) (sL z))) :: (b 3, refs g (sn z) (rfF (hOf b (sL z)) (sn z))) :: (b 4, refs g (sn z) (rfF (wOf b (sL z)) (sn z))) :: spool g b z) ++ wC g ad mc M sig z) ++ ((u_.1, refs g 1 (rfF u_.2 1)) :: tRows g 1 u_.2 chip)) H := hP
          have hD : va_D (va_A (wS g b z ++ wC g ad mc M sig z) s.heap.size) ((((b 0, .inr (5, [.ref u_.1, .ref (b 3), .ref (b 4), .ref (b 1)])) :: (b 1, ints g 20 (sst z)) :: (b 2, refs g (sL z) (rfF (cOf b) (sL z))) :: (b 3, refs g (sn z) (rfF (hOf b (sL z)) (sn z))) :: (b 4, refs g (sn z) (rfF (wOf b (sL z)) (sn z))) :: spool g b z) ++ wC g ad mc M sig z) ++ ((u_.1, refs g 1 (rfF u_.2 1)) :: tRows g 1 u_.2 chip)) := hD
          have hE := hE0.kept hS.2.1
          refine lv_aload_n hx hb dL_act_125 rfl (lv_at hl 5 rfl) ?_
          refine lv_iconst (v := nI 0) hx hb dL_act_126 (by decide) ?_
          refine q_newA (n := 0) hx hb hown (hts _ (List.mem_of_getElem? (i := 4) rfl)) hE hP hD hS hA (by omega) (Nat.le_of_ble_eq_true rfl) (Nat.le_of_ble_eq_true rfl) dL_act_127 (fun h_ H hP hD hS => ?_)
          have hP : va_P g.1 vwCl (((((b 0, .inr (5, [.ref u_.1, .ref (b 3), .ref (b 4), .ref (b 1)])) :: (b 1, ints g 20 (sst z)) :: (b 2, refs g (sL z) (rfF (cOf b) (sL z))) :: (b 3, refs g (sn z) (rfF (hOf b (sL z)) (sn z))) :: (b 4, refs g (sn z) (rfF (wOf b (sL z)) (sn z))) :: spool g b z) ++ wC g ad mc M sig z) ++ ((u_.1, refs g 1 (rfF u_.2 1)) :: tRows g 1 u_.2 chip)) ++ [(h_, refs g 0 (fun _ => none))]) H := hP
          have hD : va_D (va_A (wS g b z ++ wC g ad mc M sig z) s.heap.size) (((((b 0, .inr (5, [.ref u_.1, .ref (b 3), .ref (b 4), .ref (b 1)])) :: (b 1, ints g 20 (sst z)) :: (b 2, refs g (sL z) (rfF (cOf b) (sL z))) :: (b 3, refs g (sn z) (rfF (hOf b (sL z)) (sn z))) :: (b 4, refs g (sn z) (rfF (wOf b (sL z)) (sn z))) :: spool g b z) ++ wC g ad mc M sig z) ++ ((u_.1, refs g 1 (rfF u_.2 1)) :: tRows g 1 u_.2 chip)) ++ [(h_, refs g 0 (fun _ => none))]) := hD
          have hE := hE0.kept hS.2.1
          refine va_put (D := g.1) (ci := 5) (v := .ref h_) (ty := .array (.array .int)) (C := RX4) (T := TX4) (N := 4) hx hb hts (q_sub wsX40 238 rfl) tyX4 tyX4_ok nmX4 hown hE.K hP hD hS 0 rfl rfl 1 (by decide) (hts _ (List.mem_of_getElem? (i := 2) rfl)) (fun _ h9 => h9) rfl (by decide +kernel) rfl rfl (Nat.le_of_ble_eq_true rfl) dL_act_130 (fun H locs hP hD hS => ?_)
          have hP : va_P g.1 vwCl (((((b 0, .inr (5, [.ref u_.1, .ref h_, .ref (b 4), .ref (b 1)])) :: (b 1, ints g 20 (sst z)) :: (b 2, refs g (sL z) (rfF (cOf b) (sL z))) :: (b 3, refs g (sn z) (rfF (hOf b (sL z)) (sn z))) :: (b 4, refs g (sn z) (rfF (wOf b (sL z)) (sn z))) :: spool g b z) ++ wC g ad mc M sig z) ++ ((u_.1, refs g 1 (rfF u_.2 1)) :: tRows g 1 u_.2 chip)) ++ [(h_, refs g 0 (fun _ => none))]) H := hP
          have hD : va_D (va_A (wS g b z ++ wC g ad mc M sig z) s.heap.size) (((((b 0, .inr (5, [.ref u_.1, .ref h_, .ref (b 4), .ref (b 1)])) :: (b 1, ints g 20 (sst z)) :: (b 2, refs g (sL z) (rfF (cOf b) (sL z))) :: (b 3, refs g (sn z) (rfF (hOf b (sL z)) (sn z))) :: (b 4, refs g (sn z) (rfF (wOf b (sL z)) (sn z))) :: spool g b z) ++ wC g ad mc M sig z) ++ ((u_.1, refs g 1 (rfF u_.2 1)) :: tRows g 1 u_.2 chip)) ++ [(h_, refs g 0 (fun _ => none))]) := hD
          have hE := hE0.kept hS.2.1
          refine lv_aload_n hx hb dL_act_133 rfl (lv_at hl 5 rfl) ?_
          refine lv_iconst (v := nI 0) hx hb dL_act_134 (by decide) ?_
          refine q_newA (n := 0) hx hb hown (hts _ (List.mem_of_getElem? (i := 4) rfl)) hE hP hD hS hA (by omega) (Nat.le_of_ble_eq_true rfl) (Nat.le_of_ble_eq_true rfl) dL_act_135 (fun w_ H hP hD hS => ?_)
          have hP : va_P g.1 vwCl ((((((b 0, .inr (5, [.ref u_.1, .ref h_, .ref (b 4), .ref (b 1)])) :: (b 1, ints g 20 (sst z)) :: (b 2, refs g (sL z) (rfF (cOf b) (sL z))) :: (b 3, refs g (sn z) (rfF (hOf b (sL z)) (sn z))) :: (b 4, refs g (sn z) (rfF (wOf b (sL z)) (sn z))) :: spool g b z) ++ wC g ad mc M sig z) ++ ((u_.1, refs g 1 (rfF u_.2 1)) :: tRows g 1 u_.2 chip)) ++ [(h_, refs g 0 (fun _ => none))]) ++ [(w_, refs g 0 (fun _ => none))]) H := hP
          have hD : va_D (va_A (wS g b z ++ wC g ad mc M sig z) s.heap.size) ((((((b 0, .inr (5, [.ref u_.1, .ref h_, .ref (b 4), .ref (b 1)])) :: (b 1, ints g 20 (sst z)) :: (b 2, refs g (sL z) (rfF (cOf b) (sL z))) :: (b 3, refs g (sn z) (rfF (hOf b (sL z)) (sn z))) :: (b 4, refs g (sn z) (rfF (wOf b (sL z)) (sn z))) :: spool g b z) ++ wC g ad mc M sig z) ++ ((u_.1, refs g 1 (rfF u_.2 1)) :: tRows g 1 u_.2 chip)) ++ [(h_, refs g 0 (fun _ => none))]) ++ [(w_, refs g 0 (fun _ => none))]) := hD
          have hE := hE0.kept hS.2.1
          refine va_put (D := g.1) (ci := 5) (v := .ref w_) (ty := .array (.array .int)) (C := RX4) (T := TX4) (N := 4) hx hb hts (q_sub wsX40 238 rfl) tyX4 tyX4_ok nmX4 hown hE.K hP hD hS 0 rfl rfl 2 (by decide) (hts _ (List.mem_of_getElem? (i := 5) rfl)) (fun _ h9 => h9) rfl (by decide +kernel) rfl rfl (Nat.le_of_ble_eq_true rfl) dL_act_138 (fun H locs hP hD hS => ?_)
          have hP : va_P g.1 vwCl ((((((b 0, .inr (5, [.ref u_.1, .ref h_, .ref w_, .ref (b 1)])) :: (b 1, ints g 20 (sst z)) :: (b 2, refs g (sL z) (rfF (cOf b) (sL z))) :: (b 3, refs g (sn z) (rfF (hOf b (sL z)) (sn z))) :: (b 4, refs g (sn z) (rfF (wOf b (sL z)) (sn z))) :: spool g b z) ++ wC g ad mc M sig z) ++ ((u_.1, refs g 1 (rfF u_.2 1)) :: tRows g 1 u_.2 chip)) ++ [(h_, refs g 0 (fun _ => none))]) ++ [(w_, refs g 0 (fun _ => none))]) H := hP
          have hD : va_D (va_A (wS g b z ++ wC g ad mc M sig z) s.heap.size) ((((((b 0, .inr (5, [.ref u_.1, .ref h_, .ref w_, .ref (b 1)])) :: (b 1, ints g 20 (sst z)) :: (b 2, refs g (sL z) (rfF (cOf b) (sL z))) :: (b 3, refs g (sn z) (rfF (hOf b (sL z)) (sn z))) :: (b 4, refs g (sn z) (rfF (wOf b (sL z)) (sn z))) :: spool g b z) ++ wC g ad mc M sig z) ++ ((u_.1, refs g 1 (rfF u_.2 1)) :: tRows g 1 u_.2 chip)) ++ [(h_, refs g 0 (fun _ => none))]) ++ [(w_, refs g 0 (fun _ => none))]) := hD
          have hE := hE0.kept hS.2.1
          have hP : va_P g.1 vwCl (wS g (bB (b 0) (b 1) u_.1 h_ w_ u_.2) (zcl z (2 ^ 0)) ++ wC g ad mc M sig z) H := by rw [wS_new rfl]; exact q_spP pm_codes hP
          have hD : va_D (va_A (wS g b z ++ wC g ad mc M sig z) s.heap.size) (wS g (bB (b 0) (b 1) u_.1 h_ w_ u_.2) (zcl z (2 ^ 0)) ++ wC g ad mc M sig z) := by rw [wS_new rfl]; exact q_spD pm_codes hD
          refine lv_aload_n hx hb dL_act_141 rfl (lv_at hl 4 rfl) ?_
          refine lv_iload hx hb dL_act_142 (lv_at hl 0 rfl) ?_
          refine q_wrV (wr := wS g (bB (b 0) (b 1) u_.1 h_ w_ u_.2) (zcl z (2 ^ 0))) (As := [.int (nI 0)]) (rest := []) ⟨hx, hb, hml, hown, hts⟩ (c_X3_setCodes hM hV (q_ := 0) (by decide)) (cwV 1 hts gL_act_X3_setCodes rfl rfl rfl (by decide +kernel) ⟨Nat.le_of_ble_eq_true rfl, Nat.le_of_ble_eq_true rfl⟩) hE hP hD hS hA (va_recv hE.K (q_snd hP) (ci := 4) (q0 := 0) rfl rfl) rfl hl.1 rfl (Nat.le_of_ble_eq_true rfl) dL_act_144 ⟨Nat.le_of_ble_eq_true rfl, Nat.le_of_ble_eq_true rfl⟩ (fun _u H locs hP hD hS hE => ?_)
          have hP : va_P g.1 vwCl (wS g (bB (b 0) (b 1) u_.1 h_ w_ u_.2) (zcl z (2 ^ 0)) ++ wC g ad (mc + nI 1) (min M 1) (fillF sig (nI 0) 207) (zcl z (2 ^ 0))) H := hP
          have hD : va_D (va_A (wS g b z ++ wC g ad mc M sig z) s.heap.size) (wS g (bB (b 0) (b 1) u_.1 h_ w_ u_.2) (zcl z (2 ^ 0)) ++ wC g ad (mc + nI 1) (min M 1) (fillF sig (nI 0) 207) (zcl z (2 ^ 0))) := hD
          refine lv_iload hx hb dL_act_147 (lv_at hl 2 rfl) ?_
          refine q_icmp_ne (tgt := 156) hx hb (by omega) (by omega) dL_act_149 (by decide) (fun c_39 => ?_) (fun c_39 => ?_)
          · exact absurd rfl c_39
          · refine lv_iconst (v := nI 1) hx hb dL_act_152 (by decide) ?_
            refine lv_goto (tgt := 157) hx hb dL_act_153 (by decide) ?_
            refine W.widen (k := 40) (n := 400) (Nat.le_of_ble_eq_true rfl) (Nat.le_of_ble_eq_true rfl) ?_
            exact q_wzret (⟨((bB (b 0) (b 1) u_.1 h_ w_ u_.2), ad, mc + nI 1, min M 1, fillF sig (nI 0) 207, (zcl z (2 ^ 0))), rfl, rfl, hI.cl (q := 0) (by decide)⟩) hx hb hr hlocks rfl hP hD hS dL_act_157 rfl
        · refine lv_aload_n hx hb dL_act_114 rfl (lv_at hl 5 rfl) ?_
          refine lv_iconst (v := nI 1) hx hb dL_act_115 (by decide) ?_
          refine lv_iload hx hb dL_act_116 (lv_at hl 0 rfl) ?_
          refine q_ishl (v := nI 2) hx hb dL_act_118 (by decide) ?_
          refine q_nwS (wr := wS g b z ++ wC g ad mc M sig z) (As := [.int (nI 2)]) (rest := [.ref (b 0)]) ⟨hx, hb, hml, hown, hts⟩ (c_tab2 ) (va_cwS 1 hts gL_act_X4_table rfl rfl rfl (by decide +kernel) ⟨Nat.le_of_ble_eq_true rfl, Nat.le_of_ble_eq_true rfl⟩) hE hP hD hS hA trivial rfl hl.1 rfl (Nat.le_of_ble_eq_true rfl) dL_act_119 ⟨Nat.le_of_ble_eq_true rfl, Nat.le_of_ble_eq_true rfl⟩ (fun u_ H locs hP hD hS hE => ?_)
          have hP : va_P g.1 vwCl ((wS g b z ++ wC g ad mc M sig z) ++ ((u_.1, refs g 2 (rfF u_.2 2)) :: tRows g 2 u_.2 chip)) H := hP
          have hD : va_D (va_A (wS g b z ++ wC g ad mc M sig z) s.heap.size) ((wS g b z ++ wC g ad mc M sig z) ++ ((u_.1, refs g 2 (rfF u_.2 2)) :: tRows g 2 u_.2 chip)) := hD
          refine va_put (D := g.1) (ci := 5) (v := .ref u_.1) (ty := .array (.array .int)) (C := RX4) (T := TX4) (N := 4) hx hb hts (q_sub wsX40 238 rfl) tyX4 tyX4_ok nmX4 hown hE.K hP hD hS 0 rfl rfl 0 (by decide) (hts _ (List.mem_of_getElem? (i := 3) rfl)) (fun _ h9 => h9) rfl (by decide +kernel) rfl rfl (Nat.le_of_ble_eq_true rfl) dL_act_122 (fun H locs hP hD hS => ?_)
          have hP : va_P g.1 vwCl ((((b 0, .inr (5, [.ref u_.1, .ref (b 3), .ref (b 4), .ref (b 1)])) :: (b 1, ints g 20 (sst z)) :: (b 2, refs g (sL z) (rfF (cOf b) (sL z))) :: (b 3, refs g (sn z) (rfF (hOf b (sL z)) (sn z))) :: (b 4, refs g (sn z) (rfF (wOf b (sL z)) (sn z))) :: spool g b z) ++ wC g ad mc M sig z) ++ ((u_.1, refs g 2 (rfF u_.2 2)) :: tRows g 2 u_.2 chip)) H := hP
          have hD : va_D (va_A (wS g b z ++ wC g ad mc M sig z) s.heap.size) ((((b 0, .inr (5, [.ref u_.1, .ref (b 3), .ref (b 4), .ref (b 1)])) :: (b 1, ints g 20 (sst z)) :: (b 2, refs g (sL z) (rfF (cOf b) (sL z))) :: (b 3, refs g (sn z) (rfF (hOf b (sL z)) (sn z))) :: (b 4, refs g (sn z) (rfF (wOf b (sL z)) (sn z))) :: spool g b z) ++ wC g ad mc M sig z) ++ ((u_.1, refs g 2 (rfF u_.2 2)) :: tRows g 2 u_.2 chip)) := hD
          have hE := hE0.kept hS.2.1
          refine lv_aload_n hx hb dL_act_125 rfl (lv_at hl 5 rfl) ?_
          refine lv_iconst (v := nI 0) hx hb dL_act_126 (by decide) ?_
          refine q_newA (n := 0) hx hb hown (hts _ (List.mem_of_getElem? (i := 4) rfl)) hE hP hD hS hA (by omega) (Nat.le_of_ble_eq_true rfl) (Nat.le_of_ble_eq_true rfl) dL_act_127 (fun h_ H hP hD hS => ?_)
          have hP : va_P g.1 vwCl (((((b 0, .inr (5, [.ref u_.1, .ref (b 3), .ref (b 4), .ref (b 1)])) :: (b 1, ints g 20 (sst z)) :: (b 2, refs g (sL z) (rfF (cOf b) (sL z))) :: (b 3, refs g (sn z) (rfF (hOf b (sL z)) (sn z))) :: (b 4, refs g (sn z) (rfF (wOf b (sL z)) (sn z))) :: spool g b z) ++ wC g ad mc M sig z) ++ ((u_.1, refs g 2 (rfF u_.2 2)) :: tRows g 2 u_.2 chip)) ++ [(h_, refs g 0 (fun _ => none))]) H := hP
          have hD : va_D (va_A (wS g b z ++ wC g ad mc M sig z) s.heap.size) (((((b 0, .inr (5, [.ref u_.1, .ref (b 3), .ref (b 4), .ref (b 1)])) :: (b 1, ints g 20 (sst z)) :: (b 2, refs g (sL z) (rfF (cOf b) (sL z))) :: (b 3, refs g (sn z) (rfF (hOf b (sL z)) (sn z))) :: (b 4, refs g (sn z) (rfF (wOf b (sL z)) (sn z))) :: spool g b z) ++ wC g ad mc M sig z) ++ ((u_.1, refs g 2 (rfF u_.2 2)) :: tRows g 2 u_.2 chip)) ++ [(h_, refs g 0 (fun _ => none))]) := hD
          have hE := hE0.kept hS.2.1
          refine va_put (D := g.1) (ci := 5) (v := .ref h_) (ty := .array (.array .int)) (C := RX4) (T := TX4) (N := 4) hx hb hts (q_sub wsX40 238 rfl) tyX4 tyX4_ok nmX4 hown hE.K hP hD hS 0 rfl rfl 1 (by decide) (hts _ (List.mem_of_getElem? (i := 2) rfl)) (fun _ h9 => h9) rfl (by decide +kernel) rfl rfl (Nat.le_of_ble_eq_true rfl) dL_act_130 (fun H locs hP hD hS => ?_)
          have hP : va_P g.1 vwCl (((((b 0, .inr (5, [.ref u_.1, .ref h_, .ref (b 4), .ref (b 1)])) :: (b 1, ints g 20 (sst z)) :: (b 2, refs g (sL z) (rfF (cOf b) (sL z))) :: (b 3, refs g (sn z) (rfF (hOf b (sL z)) (sn z))) :: (b 4, refs g (sn z) (rfF (wOf b (sL z)) (sn z))) :: spool g b z) ++ wC g ad mc M sig z) ++ ((u_.1, refs g 2 (rfF u_.2 2)) :: tRows g 2 u_.2 chip)) ++ [(h_, refs g 0 (fun _ => none))]) H := hP
          have hD : va_D (va_A (wS g b z ++ wC g ad mc M sig z) s.heap.size) (((((b 0, .inr (5, [.ref u_.1, .ref h_, .ref (b 4), .ref (b 1)])) :: (b 1, ints g 20 (sst z)) :: (b 2, refs g (sL z) (rfF (cOf b) (sL z))) :: (b 3, refs g (sn z) (rfF (hOf b (sL z)) (sn z))) :: (b 4, refs g (sn z) (rfF (wOf b (sL z)) (sn z))) :: spool g b z) ++ wC g ad mc M sig z) ++ ((u_.1, refs g 2 (rfF u_.2 2)) :: tRows g 2 u_.2 chip)) ++ [(h_, refs g 0 (fun _ => none))]) := hD
          have hE := hE0.kept hS.2.1
          refine lv_aload_n hx hb dL_act_133 rfl (lv_at hl 5 rfl) ?_
          refine lv_iconst (v := nI 0) hx hb dL_act_134 (by decide) ?_
          refine q_newA (n := 0) hx hb hown (hts _ (List.mem_of_getElem? (i := 4) rfl)) hE hP hD hS hA (by omega) (Nat.le_of_ble_eq_true rfl) (Nat.le_of_ble_eq_true rfl) dL_act_135 (fun w_ H hP hD hS => ?_)
          have hP : va_P g.1 vwCl ((((((b 0, .inr (5, [.ref u_.1, .ref h_, .ref (b 4), .ref (b 1)])) :: (b 1, ints g 20 (sst z)) :: (b 2, refs g (sL z) (rfF (cOf b) (sL z))) :: (b 3, refs g (sn z) (rfF (hOf b (sL z)) (sn z))) :: (b 4, refs g (sn z) (rfF (wOf b (sL z)) (sn z))) :: spool g b z) ++ wC g ad mc M sig z) ++ ((u_.1, refs g 2 (rfF u_.2 2)) :: tRows g 2 u_.2 chip)) ++ [(h_, refs g 0 (fun _ => none))]) ++ [(w_, refs g 0 (fun _ => none))]) H := hP
          have hD : va_D (va_A (wS g b z ++ wC g ad mc M sig z) s.heap.size) ((((((b 0, .inr (5, [.ref u_.1, .ref h_, .ref (b 4), .ref (b 1)])) :: (b 1, ints g 20 (sst z)) :: (b 2, refs g (sL z) (rfF (cOf b) (sL z))) :: (b 3, refs g (sn z) (rfF (hOf b (sL z)) (sn z))) :: (b 4, refs g (sn z) (rfF (wOf b (sL z)) (sn z))) :: spool g b z) ++ wC g ad mc M sig z) ++ ((u_.1, refs g 2 (rfF u_.2 2)) :: tRows g 2 u_.2 chip)) ++ [(h_, refs g 0 (fun _ => none))]) ++ [(w_, refs g 0 (fun _ => none))]) := hD
          have hE := hE0.kept hS.2.1
          refine va_put (D := g.1) (ci := 5) (v := .ref w_) (ty := .array (.array .int)) (C := RX4) (T := TX4) (N := 4) hx hb hts (q_sub wsX40 238 rfl) tyX4 tyX4_ok nmX4 hown hE.K hP hD hS 0 rfl rfl 2 (by decide) (hts _ (List.mem_of_getElem? (i := 5) rfl)) (fun _ h9 => h9) rfl (by decide +kernel) rfl rfl (Nat.le_of_ble_eq_true rfl) dL_act_138 (fun H locs hP hD hS => ?_)
          have hP : va_P g.1 vwCl ((((((b 0, .inr (5, [.ref u_.1, .ref h_, .ref w_, .ref (b 1)])) :: (b 1, ints g 20 (sst z)) :: (b 2, refs g (sL z) (rfF (cOf b) (sL z))) :: (b 3, refs g (sn z) (rfF (hOf b (sL z)) (sn z))) :: (b 4, refs g (sn z) (rfF (wOf b (sL z)) (sn z))) :: spool g b z) ++ wC g ad mc M sig z) ++ ((u_.1, refs g 2 (rfF u_.2 2)) :: tRows g 2 u_.2 chip)) ++ [(h_, refs g 0 (fun _ => none))]) ++ [(w_, refs g 0 (fun _ => none))]) H := hP
          have hD : va_D (va_A (wS g b z ++ wC g ad mc M sig z) s.heap.size) ((((((b 0, .inr (5, [.ref u_.1, .ref h_, .ref w_, .ref (b 1)])) :: (b 1, ints g 20 (sst z)) :: (b 2, refs g (sL z) (rfF (cOf b) (sL z))) :: (b 3, refs g (sn z) (rfF (hOf b (sL z)) (sn z))) :: (b 4, refs g (sn z) (rfF (wOf b (sL z)) (sn z))) :: spool g b z) ++ wC g ad mc M sig z) ++ ((u_.1, refs g 2 (rfF u_.2 2)) :: tRows g 2 u_.2 chip)) ++ [(h_, refs g 0 (fun _ => none))]) ++ [(w_, refs g 0 (fun _ => none))]) := hD
          have hE := hE0.kept hS.2.1
          have hP : va_P g.1 vwCl (wS g (bB (b 0) (b 1) u_.1 h_ w_ u_.2) (zcl z (2 ^ 1)) ++ wC g ad mc M sig z) H := by rw [wS_new rfl]; exact q_spP pm_codes hP
          have hD : va_D (va_A (wS g b z ++ wC g ad mc M sig z) s.heap.size) (wS g (bB (b 0) (b 1) u_.1 h_ w_ u_.2) (zcl z (2 ^ 1)) ++ wC g ad mc M sig z) := by rw [wS_new rfl]; exact q_spD pm_codes hD
          refine lv_aload_n hx hb dL_act_141 rfl (lv_at hl 4 rfl) ?_
          refine lv_iload hx hb dL_act_142 (lv_at hl 0 rfl) ?_
          refine q_wrV (wr := wS g (bB (b 0) (b 1) u_.1 h_ w_ u_.2) (zcl z (2 ^ 1))) (As := [.int (nI 1)]) (rest := []) ⟨hx, hb, hml, hown, hts⟩ (c_X3_setCodes hM hV (q_ := 1) (by decide)) (cwV 1 hts gL_act_X3_setCodes rfl rfl rfl (by decide +kernel) ⟨Nat.le_of_ble_eq_true rfl, Nat.le_of_ble_eq_true rfl⟩) hE hP hD hS hA (va_recv hE.K (q_snd hP) (ci := 4) (q0 := 0) rfl rfl) rfl hl.1 rfl (Nat.le_of_ble_eq_true rfl) dL_act_144 ⟨Nat.le_of_ble_eq_true rfl, Nat.le_of_ble_eq_true rfl⟩ (fun _u H locs hP hD hS hE => ?_)
          have hP : va_P g.1 vwCl (wS g (bB (b 0) (b 1) u_.1 h_ w_ u_.2) (zcl z (2 ^ 1)) ++ wC g ad (mc + nI 1) (min M 1) (fillF sig (nI 0) 207) (zcl z (2 ^ 1))) H := hP
          have hD : va_D (va_A (wS g b z ++ wC g ad mc M sig z) s.heap.size) (wS g (bB (b 0) (b 1) u_.1 h_ w_ u_.2) (zcl z (2 ^ 1)) ++ wC g ad (mc + nI 1) (min M 1) (fillF sig (nI 0) 207) (zcl z (2 ^ 1))) := hD
          refine lv_iload hx hb dL_act_147 (lv_at hl 2 rfl) ?_
          refine q_icmp_ne (tgt := 156) hx hb (by omega) (by omega) dL_act_149 (by decide) (fun c_40 => ?_) (fun c_40 => ?_)
          · exact absurd rfl c_40
          · refine lv_iconst (v := nI 1) hx hb dL_act_152 (by decide) ?_
            refine lv_goto (tgt := 157) hx hb dL_act_153 (by decide) ?_
            refine W.widen (k := 40) (n := 400) (Nat.le_of_ble_eq_true rfl) (Nat.le_of_ble_eq_true rfl) ?_
            exact q_wzret (⟨((bB (b 0) (b 1) u_.1 h_ w_ u_.2), ad, mc + nI 1, min M 1, fillF sig (nI 0) 207, (zcl z (2 ^ 1))), rfl, rfl, hI.cl (q := 1) (by decide)⟩) hx hb hr hlocks rfl hP hD hS dL_act_157 rfl
        · refine lv_aload_n hx hb dL_act_114 rfl (lv_at hl 5 rfl) ?_
          refine lv_iconst (v := nI 1) hx hb dL_act_115 (by decide) ?_
          refine lv_iload hx hb dL_act_116 (lv_at hl 0 rfl) ?_
          refine q_ishl (v := nI 4) hx hb dL_act_118 (by decide) ?_
          refine q_nwS (wr := wS g b z ++ wC g ad mc M sig z) (As := [.int (nI 4)]) (rest := [.ref (b 0)]) ⟨hx, hb, hml, hown, hts⟩ (c_tab4 ) (va_cwS 1 hts gL_act_X4_table rfl rfl rfl (by decide +kernel) ⟨Nat.le_of_ble_eq_true rfl, Nat.le_of_ble_eq_true rfl⟩) hE hP hD hS hA trivial rfl hl.1 rfl (Nat.le_of_ble_eq_true rfl) dL_act_119 ⟨Nat.le_of_ble_eq_true rfl, Nat.le_of_ble_eq_true rfl⟩ (fun u_ H locs hP hD hS hE => ?_)
          have hP : va_P g.1 vwCl ((wS g b z ++ wC g ad mc M sig z) ++ ((u_.1, refs g 4 (rfF u_.2 4)) :: tRows g 4 u_.2 chip)) H := hP
          have hD : va_D (va_A (wS g b z ++ wC g ad mc M sig z) s.heap.size) ((wS g b z ++ wC g ad mc M sig z) ++ ((u_.1, refs g 4 (rfF u_.2 4)) :: tRows g 4 u_.2 chip)) := hD
          refine va_put (D := g.1) (ci := 5) (v := .ref u_.1) (ty := .array (.array .int)) (C := RX4) (T := TX4) (N := 4) hx hb hts (q_sub wsX40 238 rfl) tyX4 tyX4_ok nmX4 hown hE.K hP hD hS 0 rfl rfl 0 (by decide) (hts _ (List.mem_of_getElem? (i := 3) rfl)) (fun _ h9 => h9) rfl (by decide +kernel) rfl rfl (Nat.le_of_ble_eq_true rfl) dL_act_122 (fun H locs hP hD hS => ?_)
          have hP : va_P g.1 vwCl ((((b 0, .inr (5, [.ref u_.1, .ref (b 3), .ref (b 4), .ref (b 1)])) :: (b 1, ints g 20 (sst z)) :: (b 2, refs g (sL z) (rfF (cOf b) (sL z))) :: (b 3, refs g (sn z) (rfF (hOf b (sL z)) (sn z))) :: (b 4, refs g (sn z) (rfF (wOf b (sL z)) (sn z))) :: spool g b z) ++ wC g ad mc M sig z) ++ ((u_.1, refs g 4 (rfF u_.2 4)) :: tRows g 4 u_.2 chip)) H := hP
          have hD : va_D (va_A (wS g b z ++ wC g ad mc M sig z) s.heap.size) ((((b 0, .inr (5, [.ref u_.1, .ref (b 3), .ref (b 4), .ref (b 1)])) :: (b 1, ints g 20 (sst z)) :: (b 2, refs g (sL z) (rfF (cOf b) (sL z))) :: (b 3, refs g (sn z) (rfF (hOf b (sL z)) (sn z))) :: (b 4, refs g (sn z) (rfF (wOf b (sL z)) (sn z))) :: spool g b z) ++ wC g ad mc M sig z) ++ ((u_.1, refs g 4 (rfF u_.2 4)) :: tRows g 4 u_.2 chip)) := hD
          have hE := hE0.kept hS.2.1
          refine lv_aload_n hx hb dL_act_125 rfl (lv_at hl 5 rfl) ?_
          refine lv_iconst (v := nI 0) hx hb dL_act_126 (by decide) ?_
          refine q_newA (n := 0) hx hb hown (hts _ (List.mem_of_getElem? (i := 4) rfl)) hE hP hD hS hA (by omega) (Nat.le_of_ble_eq_true rfl) (Nat.le_of_ble_eq_true rfl) dL_act_127 (fun h_ H hP hD hS => ?_)
          have hP : va_P g.1 vwCl (((((b 0, .inr (5, [.ref u_.1, .ref (b 3), .ref (b 4), .ref (b 1)])) :: (b 1, ints g 20 (sst z)) :: (b 2, refs g (sL z) (rfF (cOf b) (sL z))) :: (b 3, refs g (sn z) (rfF (hOf b (sL z)) (sn z))) :: (b 4, refs g (sn z) (rfF (wOf b (sL z)) (sn z))) :: spool g b z) ++ wC g ad mc M sig z) ++ ((u_.1, refs g 4 (rfF u_.2 4)) :: tRows g 4 u_.2 chip)) ++ [(h_, refs g 0 (fun _ => none))]) H := hP
          have hD : va_D (va_A (wS g b z ++ wC g ad mc M sig z) s.heap.size) (((((b 0, .inr (5, [.ref u_.1, .ref (b 3), .ref (b 4), .ref (b 1)])) :: (b 1, ints g 20 (sst z)) :: (b 2, refs g (sL z) (rfF (cOf b) (sL z))) :: (b 3, refs g (sn z) (rfF (hOf b (sL z)) (sn z))) :: (b 4, refs g (sn z) (rfF (wOf b (sL z)) (sn z))) :: spool g b z) ++ wC g ad mc M sig z) ++ ((u_.1, refs g 4 (rfF u_.2 4)) :: tRows g 4 u_.2 chip)) ++ [(h_, refs g 0 (fun _ => none))]) := hD
          have hE := hE0.kept hS.2.1
          refine va_put (D := g.1) (ci := 5) (v := .ref h_) (ty := .array (.array .int)) (C := RX4) (T := TX4) (N := 4) hx hb hts (q_sub wsX40 238 rfl) tyX4 tyX4_ok nmX4 hown hE.K hP hD hS 0 rfl rfl 1 (by decide) (hts _ (List.mem_of_getElem? (i := 2) rfl)) (fun _ h9 => h9) rfl (by decide +kernel) rfl rfl (Nat.le_of_ble_eq_true rfl) dL_act_130 (fun H locs hP hD hS => ?_)
          have hP : va_P g.1 vwCl (((((b 0, .inr (5, [.ref u_.1, .ref h_, .ref (b 4), .ref (b 1)])) :: (b 1, ints g 20 (sst z)) :: (b 2, refs g (sL z) (rfF (cOf b) (sL z))) :: (b 3, refs g (sn z) (rfF (hOf b (sL z)) (sn z))) :: (b 4, refs g (sn z) (rfF (wOf b (sL z)) (sn z))) :: spool g b z) ++ wC g ad mc M sig z) ++ ((u_.1, refs g 4 (rfF u_.2 4)) :: tRows g 4 u_.2 chip)) ++ [(h_, refs g 0 (fun _ => none))]) H := hP
          have hD : va_D (va_A (wS g b z ++ wC g ad mc M sig z) s.heap.size) (((((b 0, .inr (5, [.ref u_.1, .ref h_, .ref (b 4), .ref (b 1)])) :: (b 1, ints g 20 (sst z)) :: (b 2, refs g (sL z) (rfF (cOf b) (sL z))) :: (b 3, refs g (sn z) (rfF (hOf b (sL z)) (sn z))) :: (b 4, refs g (sn z) (rfF (wOf b (sL z)) (sn z))) :: spool g b z) ++ wC g ad mc M sig z) ++ ((u_.1, refs g 4 (rfF u_.2 4)) :: tRows g 4 u_.2 chip)) ++ [(h_, refs g 0 (fun _ => none))]) := hD
          have hE := hE0.kept hS.2.1
          refine lv_aload_n hx hb dL_act_133 rfl (lv_at hl 5 rfl) ?_
          refine lv_iconst (v := nI 0) hx hb dL_act_134 (by decide) ?_
          refine q_newA (n := 0) hx hb hown (hts _ (List.mem_of_getElem? (i := 4) rfl)) hE hP hD hS hA (by omega) (Nat.le_of_ble_eq_true rfl) (Nat.le_of_ble_eq_true rfl) dL_act_135 (fun w_ H hP hD hS => ?_)
          have hP : va_P g.1 vwCl ((((((b 0, .inr (5, [.ref u_.1, .ref h_, .ref (b 4), .ref (b 1)])) :: (b 1, ints g 20 (sst z)) :: (b 2, refs g (sL z) (rfF (cOf b) (sL z))) :: (b 3, refs g (sn z) (rfF (hOf b (sL z)) (sn z))) :: (b 4, refs g (sn z) (rfF (wOf b (sL z)) (sn z))) :: spool g b z) ++ wC g ad mc M sig z) ++ ((u_.1, refs g 4 (rfF u_.2 4)) :: tRows g 4 u_.2 chip)) ++ [(h_, refs g 0 (fun _ => none))]) ++ [(w_, refs g 0 (fun _ => none))]) H := hP
          have hD : va_D (va_A (wS g b z ++ wC g ad mc M sig z) s.heap.size) ((((((b 0, .inr (5, [.ref u_.1, .ref h_, .ref (b 4), .ref (b 1)])) :: (b 1, ints g 20 (sst z)) :: (b 2, refs g (sL z) (rfF (cOf b) (sL z))) :: (b 3, refs g (sn z) (rfF (hOf b (sL z)) (sn z))) :: (b 4, refs g (sn z) (rfF (wOf b (sL z)) (sn z))) :: spool g b z) ++ wC g ad mc M sig z) ++ ((u_.1, refs g 4 (rfF u_.2 4)) :: tRows g 4 u_.2 chip)) ++ [(h_, refs g 0 (fun _ => none))]) ++ [(w_, refs g 0 (fun _ => none))]) := hD
          have hE := hE0.kept hS.2.1
          refine va_put (D := g.1) (ci := 5) (v := .ref w_) (ty := .array (.array .int)) (C := RX4) (T := TX4) (N := 4) hx hb hts (q_sub wsX40 238 rfl) tyX4 tyX4_ok nmX4 hown hE.K hP hD hS 0 rfl rfl 2 (by decide) (hts _ (List.mem_of_getElem? (i := 5) rfl)) (fun _ h9 => h9) rfl (by decide +kernel) rfl rfl (Nat.le_of_ble_eq_true rfl) dL_act_138 (fun H locs hP hD hS => ?_)
          have hP : va_P g.1 vwCl ((((((b 0, .inr (5, [.ref u_.1, .ref h_, .ref w_, .ref (b 1)])) :: (b 1, ints g 20 (sst z)) :: (b 2, refs g (sL z) (rfF (cOf b) (sL z))) :: (b 3, refs g (sn z) (rfF (hOf b (sL z)) (sn z))) :: (b 4, refs g (sn z) (rfF (wOf b (sL z)) (sn z))) :: spool g b z) ++ wC g ad mc M sig z) ++ ((u_.1, refs g 4 (rfF u_.2 4)) :: tRows g 4 u_.2 chip)) ++ [(h_, refs g 0 (fun _ => none))]) ++ [(w_, refs g 0 (fun _ => none))]) H := hP
          have hD : va_D (va_A (wS g b z ++ wC g ad mc M sig z) s.heap.size) ((((((b 0, .inr (5, [.ref u_.1, .ref h_, .ref w_, .ref (b 1)])) :: (b 1, ints g 20 (sst z)) :: (b 2, refs g (sL z) (rfF (cOf b) (sL z))) :: (b 3, refs g (sn z) (rfF (hOf b (sL z)) (sn z))) :: (b 4, refs g (sn z) (rfF (wOf b (sL z)) (sn z))) :: spool g b z) ++ wC g ad mc M sig z) ++ ((u_.1, refs g 4 (rfF u_.2 4)) :: tRows g 4 u_.2 chip)) ++ [(h_, refs g 0 (fun _ => none))]) ++ [(w_, refs g 0 (fun _ => none))]) := hD
          have hE := hE0.kept hS.2.1
          have hP : va_P g.1 vwCl (wS g (bB (b 0) (b 1) u_.1 h_ w_ u_.2) (zcl z (2 ^ 2)) ++ wC g ad mc M sig z) H := by rw [wS_new rfl]; exact q_spP pm_codes hP
          have hD : va_D (va_A (wS g b z ++ wC g ad mc M sig z) s.heap.size) (wS g (bB (b 0) (b 1) u_.1 h_ w_ u_.2) (zcl z (2 ^ 2)) ++ wC g ad mc M sig z) := by rw [wS_new rfl]; exact q_spD pm_codes hD
          refine lv_aload_n hx hb dL_act_141 rfl (lv_at hl 4 rfl) ?_
          refine lv_iload hx hb dL_act_142 (lv_at hl 0 rfl) ?_
          refine q_wrV (wr := wS g (bB (b 0) (b 1) u_.1 h_ w_ u_.2) (zcl z (2 ^ 2))) (As := [.int (nI 2)]) (rest := []) ⟨hx, hb, hml, hown, hts⟩ (c_X3_setCodes hM hV (q_ := 2) (by decide)) (cwV 1 hts gL_act_X3_setCodes rfl rfl rfl (by decide +kernel) ⟨Nat.le_of_ble_eq_true rfl, Nat.le_of_ble_eq_true rfl⟩) hE hP hD hS hA (va_recv hE.K (q_snd hP) (ci := 4) (q0 := 0) rfl rfl) rfl hl.1 rfl (Nat.le_of_ble_eq_true rfl) dL_act_144 ⟨Nat.le_of_ble_eq_true rfl, Nat.le_of_ble_eq_true rfl⟩ (fun _u H locs hP hD hS hE => ?_)
          have hP : va_P g.1 vwCl (wS g (bB (b 0) (b 1) u_.1 h_ w_ u_.2) (zcl z (2 ^ 2)) ++ wC g ad (mc + nI 1) (min M 1) (fillF sig (nI 0) 207) (zcl z (2 ^ 2))) H := hP
          have hD : va_D (va_A (wS g b z ++ wC g ad mc M sig z) s.heap.size) (wS g (bB (b 0) (b 1) u_.1 h_ w_ u_.2) (zcl z (2 ^ 2)) ++ wC g ad (mc + nI 1) (min M 1) (fillF sig (nI 0) 207) (zcl z (2 ^ 2))) := hD
          refine lv_iload hx hb dL_act_147 (lv_at hl 2 rfl) ?_
          refine q_icmp_ne (tgt := 156) hx hb (by omega) (by omega) dL_act_149 (by decide) (fun c_41 => ?_) (fun c_41 => ?_)
          · exact absurd rfl c_41
          · refine lv_iconst (v := nI 1) hx hb dL_act_152 (by decide) ?_
            refine lv_goto (tgt := 157) hx hb dL_act_153 (by decide) ?_
            refine W.widen (k := 40) (n := 400) (Nat.le_of_ble_eq_true rfl) (Nat.le_of_ble_eq_true rfl) ?_
            exact q_wzret (⟨((bB (b 0) (b 1) u_.1 h_ w_ u_.2), ad, mc + nI 1, min M 1, fillF sig (nI 0) 207, (zcl z (2 ^ 2))), rfl, rfl, hI.cl (q := 2) (by decide)⟩) hx hb hr hlocks rfl hP hD hS dL_act_157 rfl
        · refine lv_aload_n hx hb dL_act_114 rfl (lv_at hl 5 rfl) ?_
          refine lv_iconst (v := nI 1) hx hb dL_act_115 (by decide) ?_
          refine lv_iload hx hb dL_act_116 (lv_at hl 0 rfl) ?_
          refine q_ishl (v := nI 8) hx hb dL_act_118 (by decide) ?_
          refine q_nwS (wr := wS g b z ++ wC g ad mc M sig z) (As := [.int (nI 8)]) (rest := [.ref (b 0)]) ⟨hx, hb, hml, hown, hts⟩ (c_tab8 ) (va_cwS 1 hts gL_act_X4_table rfl rfl rfl (by decide +kernel) ⟨Nat.le_of_ble_eq_true rfl, Nat.le_of_ble_eq_true rfl⟩) hE hP hD hS hA trivial rfl hl.1 rfl (Nat.le_of_ble_eq_true rfl) dL_act_119 ⟨Nat.le_of_ble_eq_true rfl, Nat.le_of_ble_eq_true rfl⟩ (fun u_ H locs hP hD hS hE => ?_)
          have hP : va_P g.1 vwCl ((wS g b z ++ wC g ad mc M sig z) ++ ((u_.1, refs g 8 (rfF u_.2 8)) :: tRows g 8 u_.2 chip)) H := hP
          have hD : va_D (va_A (wS g b z ++ wC g ad mc M sig z) s.heap.size) ((wS g b z ++ wC g ad mc M sig z) ++ ((u_.1, refs g 8 (rfF u_.2 8)) :: tRows g 8 u_.2 chip)) := hD
          refine va_put (D := g.1) (ci := 5) (v := .ref u_.1) (ty := .array (.array .int)) (C := RX4) (T := TX4) (N := 4) hx hb hts (q_sub wsX40 238 rfl) tyX4 tyX4_ok nmX4 hown hE.K hP hD hS 0 rfl rfl 0 (by decide) (hts _ (List.mem_of_getElem? (i := 3) rfl)) (fun _ h9 => h9) rfl (by decide +kernel) rfl rfl (Nat.le_of_ble_eq_true rfl) dL_act_122 (fun H locs hP hD hS => ?_)
          have hP : va_P g.1 vwCl ((((b 0, .inr (5, [.ref u_.1, .ref (b 3), .ref (b 4), .ref (b 1)])) :: (b 1, ints g 20 (sst z)) :: (b 2, refs g (sL z) (rfF (cOf b) (sL z))) :: (b 3, refs g (sn z) (rfF (hOf b (sL z)) (sn z))) :: (b 4, refs g (sn z) (rfF (wOf b (sL z)) (sn z))) :: spool g b z) ++ wC g ad mc M sig z) ++ ((u_.1, refs g 8 (rfF u_.2 8)) :: tRows g 8 u_.2 chip)) H := hP
          have hD : va_D (va_A (wS g b z ++ wC g ad mc M sig z) s.heap.size) ((((b 0, .inr (5, [.ref u_.1, .ref (b 3), .ref (b 4), .ref (b 1)])) :: (b 1, ints g 20 (sst z)) :: (b 2, refs g (sL z) (rfF (cOf b) (sL z))) :: (b 3, refs g (sn z) (rfF (hOf b (sL z)) (sn z))) :: (b 4, refs g (sn z) (rfF (wOf b (sL z)) (sn z))) :: spool g b z) ++ wC g ad mc M sig z) ++ ((u_.1, refs g 8 (rfF u_.2 8)) :: tRows g 8 u_.2 chip)) := hD
          have hE := hE0.kept hS.2.1
          refine lv_aload_n hx hb dL_act_125 rfl (lv_at hl 5 rfl) ?_
          refine lv_iconst (v := nI 0) hx hb dL_act_126 (by decide) ?_
          refine q_newA (n := 0) hx hb hown (hts _ (List.mem_of_getElem? (i := 4) rfl)) hE hP hD hS hA (by omega) (Nat.le_of_ble_eq_true rfl) (Nat.le_of_ble_eq_true rfl) dL_act_127 (fun h_ H hP hD hS => ?_)
          have hP : va_P g.1 vwCl (((((b 0, .inr (5, [.ref u_.1, .ref (b 3), .ref (b 4), .ref (b 1)])) :: (b 1, ints g 20 (sst z)) :: (b 2, refs g (sL z) (rfF (cOf b) (sL z))) :: (b 3, refs g (sn z) (rfF (hOf b (sL z)) (sn z))) :: (b 4, refs g (sn z) (rfF (wOf b (sL z)) (sn z))) :: spool g b z) ++ wC g ad mc M sig z) ++ ((u_.1, refs g 8 (rfF u_.2 8)) :: tRows g 8 u_.2 chip)) ++ [(h_, refs g 0 (fun _ => none))]) H := hP
          have hD : va_D (va_A (wS g b z ++ wC g ad mc M sig z) s.heap.size) (((((b 0, .inr (5, [.ref u_.1, .ref (b 3), .ref (b 4), .ref (b 1)])) :: (b 1, ints g 20 (sst z)) :: (b 2, refs g (sL z) (rfF (cOf b) (sL z))) :: (b 3, refs g (sn z) (rfF (hOf b (sL z)) (sn z))) :: (b 4, refs g (sn z) (rfF (wOf b (sL z)) (sn z))) :: spool g b z) ++ wC g ad mc M sig z) ++ ((u_.1, refs g 8 (rfF u_.2 8)) :: tRows g 8 u_.2 chip)) ++ [(h_, refs g 0 (fun _ => none))]) := hD
          have hE := hE0.kept hS.2.1
          refine va_put (D := g.1) (ci := 5) (v := .ref h_) (ty := .array (.array .int)) (C := RX4) (T := TX4) (N := 4) hx hb hts (q_sub wsX40 238 rfl) tyX4 tyX4_ok nmX4 hown hE.K hP hD hS 0 rfl rfl 1 (by decide) (hts _ (List.mem_of_getElem? (i := 2) rfl)) (fun _ h9 => h9) rfl (by decide +kernel) rfl rfl (Nat.le_of_ble_eq_true rfl) dL_act_130 (fun H locs hP hD hS => ?_)
          have hP : va_P g.1 vwCl (((((b 0, .inr (5, [.ref u_.1, .ref h_, .ref (b 4), .ref (b 1)])) :: (b 1, ints g 20 (sst z)) :: (b 2, refs g (sL z) (rfF (cOf b) (sL z))) :: (b 3, refs g (sn z) (rfF (hOf b (sL z)) (sn z))) :: (b 4, refs g (sn z) (rfF (wOf b (sL z)) (sn z))) :: spool g b z) ++ wC g ad mc M sig z) ++ ((u_.1, refs g 8 (rfF u_.2 8)) :: tRows g 8 u_.2 chip)) ++ [(h_, refs g 0 (fun _ => none))]) H := hP
          have hD : va_D (va_A (wS g b z ++ wC g ad mc M sig z) s.heap.size) (((((b 0, .inr (5, [.ref u_.1, .ref h_, .ref (b 4), .ref (b 1)])) :: (b 1, ints g 20 (sst z)) :: (b 2, refs g (sL z) (rfF (cOf b) (sL z))) :: (b 3, refs g (sn z) (rfF (hOf b (sL z)) (sn z))) :: (b 4, refs g (sn z) (rfF (wOf b (sL z)) (sn z))) :: spool g b z) ++ wC g ad mc M sig z) ++ ((u_.1, refs g 8 (rfF u_.2 8)) :: tRows g 8 u_.2 chip)) ++ [(h_, refs g 0 (fun _ => none))]) := hD
          have hE := hE0.kept hS.2.1
          refine lv_aload_n hx hb dL_act_133 rfl (lv_at hl 5 rfl) ?_
          refine lv_iconst (v := nI 0) hx hb dL_act_134 (by decide) ?_
          refine q_newA (n := 0) hx hb hown (hts _ (List.mem_of_getElem? (i := 4) rfl)) hE hP hD hS hA (by omega) (Nat.le_of_ble_eq_true rfl) (Nat.le_of_ble_eq_true rfl) dL_act_135 (fun w_ H hP hD hS => ?_)
          have hP : va_P g.1 vwCl ((((((b 0, .inr (5, [.ref u_.1, .ref h_, .ref (b 4), .ref (b 1)])) :: (b 1, ints g 20 (sst z)) :: (b 2, refs g (sL z) (rfF (cOf b) (sL z))) :: (b 3, refs g (sn z) (rfF (hOf b (sL z)) (sn z))) :: (b 4, refs g (sn z) (rfF (wOf b (sL z)) (sn z))) :: spool g b z) ++ wC g ad mc M sig z) ++ ((u_.1, refs g 8 (rfF u_.2 8)) :: tRows g 8 u_.2 chip)) ++ [(h_, refs g 0 (fun _ => none))]) ++ [(w_, refs g 0 (fun _ => none))]) H := hP
          have hD : va_D (va_A (wS g b z ++ wC g ad mc M sig z) s.heap.size) ((((((b 0, .inr (5, [.ref u_.1, .ref h_, .ref (b 4), .ref (b 1)])) :: (b 1, ints g 20 (sst z)) :: (b 2, refs g (sL z) (rfF (cOf b) (sL z))) :: (b 3, refs g (sn z) (rfF (hOf b (sL z)) (sn z))) :: (b 4, refs g (sn z) (rfF (wOf b (sL z)) (sn z))) :: spool g b z) ++ wC g ad mc M sig z) ++ ((u_.1, refs g 8 (rfF u_.2 8)) :: tRows g 8 u_.2 chip)) ++ [(h_, refs g 0 (fun _ => none))]) ++ [(w_, refs g 0 (fun _ => none))]) := hD
          have hE := hE0.kept hS.2.1
          refine va_put (D := g.1) (ci := 5) (v := .ref w_) (ty := .array (.array .int)) (C := RX4) (T := TX4) (N := 4) hx hb hts (q_sub wsX40 238 rfl) tyX4 tyX4_ok nmX4 hown hE.K hP hD hS 0 rfl rfl 2 (by decide) (hts _ (List.mem_of_getElem? (i := 5) rfl)) (fun _ h9 => h9) rfl (by decide +kernel) rfl rfl (Nat.le_of_ble_eq_true rfl) dL_act_138 (fun H locs hP hD hS => ?_)
          have hP : va_P g.1 vwCl ((((((b 0, .inr (5, [.ref u_.1, .ref h_, .ref w_, .ref (b 1)])) :: (b 1, ints g 20 (sst z)) :: (b 2, refs g (sL z) (rfF (cOf b) (sL z))) :: (b 3, refs g (sn z) (rfF (hOf b (sL z)) (sn z))) :: (b 4, refs g (sn z) (rfF (wOf b (sL z)) (sn z))) :: spool g b z) ++ wC g ad mc M sig z) ++ ((u_.1, refs g 8 (rfF u_.2 8)) :: tRows g 8 u_.2 chip)) ++ [(h_, refs g 0 (fun _ => none))]) ++ [(w_, refs g 0 (fun _ => none))]) H := hP
          have hD : va_D (va_A (wS g b z ++ wC g ad mc M sig z) s.heap.size) ((((((b 0, .inr (5, [.ref u_.1, .ref h_, .ref w_, .ref (b 1)])) :: (b 1, ints g 20 (sst z)) :: (b 2, refs g (sL z) (rfF (cOf b) (sL z))) :: (b 3, refs g (sn z) (rfF (hOf b (sL z)) (sn z))) :: (b 4, refs g (sn z) (rfF (wOf b (sL z)) (sn z))) :: spool g b z) ++ wC g ad mc M sig z) ++ ((u_.1, refs g 8 (rfF u_.2 8)) :: tRows g 8 u_.2 chip)) ++ [(h_, refs g 0 (fun _ => none))]) ++ [(w_, refs g 0 (fun _ => none))]) := hD
          have hE := hE0.kept hS.2.1
          have hP : va_P g.1 vwCl (wS g (bB (b 0) (b 1) u_.1 h_ w_ u_.2) (zcl z (2 ^ 3)) ++ wC g ad mc M sig z) H := by rw [wS_new rfl]; exact q_spP pm_codes hP
          have hD : va_D (va_A (wS g b z ++ wC g ad mc M sig z) s.heap.size) (wS g (bB (b 0) (b 1) u_.1 h_ w_ u_.2) (zcl z (2 ^ 3)) ++ wC g ad mc M sig z) := by rw [wS_new rfl]; exact q_spD pm_codes hD
          refine lv_aload_n hx hb dL_act_141 rfl (lv_at hl 4 rfl) ?_
          refine lv_iload hx hb dL_act_142 (lv_at hl 0 rfl) ?_
          refine q_wrV (wr := wS g (bB (b 0) (b 1) u_.1 h_ w_ u_.2) (zcl z (2 ^ 3))) (As := [.int (nI 3)]) (rest := []) ⟨hx, hb, hml, hown, hts⟩ (c_X3_setCodes hM hV (q_ := 3) (by decide)) (cwV 1 hts gL_act_X3_setCodes rfl rfl rfl (by decide +kernel) ⟨Nat.le_of_ble_eq_true rfl, Nat.le_of_ble_eq_true rfl⟩) hE hP hD hS hA (va_recv hE.K (q_snd hP) (ci := 4) (q0 := 0) rfl rfl) rfl hl.1 rfl (Nat.le_of_ble_eq_true rfl) dL_act_144 ⟨Nat.le_of_ble_eq_true rfl, Nat.le_of_ble_eq_true rfl⟩ (fun _u H locs hP hD hS hE => ?_)
          have hP : va_P g.1 vwCl (wS g (bB (b 0) (b 1) u_.1 h_ w_ u_.2) (zcl z (2 ^ 3)) ++ wC g ad (mc + nI 1) (min M 1) (fillF sig (nI 0) 207) (zcl z (2 ^ 3))) H := hP
          have hD : va_D (va_A (wS g b z ++ wC g ad mc M sig z) s.heap.size) (wS g (bB (b 0) (b 1) u_.1 h_ w_ u_.2) (zcl z (2 ^ 3)) ++ wC g ad (mc + nI 1) (min M 1) (fillF sig (nI 0) 207) (zcl z (2 ^ 3))) := hD
          refine lv_iload hx hb dL_act_147 (lv_at hl 2 rfl) ?_
          refine q_icmp_ne (tgt := 156) hx hb (by omega) (by omega) dL_act_149 (by decide) (fun c_42 => ?_) (fun c_42 => ?_)
          · exact absurd rfl c_42
          · refine lv_iconst (v := nI 1) hx hb dL_act_152 (by decide) ?_
            refine lv_goto (tgt := 157) hx hb dL_act_153 (by decide) ?_
            refine W.widen (k := 40) (n := 400) (Nat.le_of_ble_eq_true rfl) (Nat.le_of_ble_eq_true rfl) ?_
            exact q_wzret (⟨((bB (b 0) (b 1) u_.1 h_ w_ u_.2), ad, mc + nI 1, min M 1, fillF sig (nI 0) 207, (zcl z (2 ^ 3))), rfl, rfl, hI.cl (q := 3) (by decide)⟩) hx hb hr hlocks rfl hP hD hS dL_act_157 rfl
        · refine lv_aload_n hx hb dL_act_114 rfl (lv_at hl 5 rfl) ?_
          refine lv_iconst (v := nI 1) hx hb dL_act_115 (by decide) ?_
          refine lv_iload hx hb dL_act_116 (lv_at hl 0 rfl) ?_
          refine q_ishl (v := nI 16) hx hb dL_act_118 (by decide) ?_
          refine q_nwS (wr := wS g b z ++ wC g ad mc M sig z) (As := [.int (nI 16)]) (rest := [.ref (b 0)]) ⟨hx, hb, hml, hown, hts⟩ (c_tab16 ) (va_cwS 1 hts gL_act_X4_table rfl rfl rfl (by decide +kernel) ⟨Nat.le_of_ble_eq_true rfl, Nat.le_of_ble_eq_true rfl⟩) hE hP hD hS hA trivial rfl hl.1 rfl (Nat.le_of_ble_eq_true rfl) dL_act_119 ⟨Nat.le_of_ble_eq_true rfl, Nat.le_of_ble_eq_true rfl⟩ (fun u_ H locs hP hD hS hE => ?_)
          have hP : va_P g.1 vwCl ((wS g b z ++ wC g ad mc M sig z) ++ ((u_.1, refs g 16 (rfF u_.2 16)) :: tRows g 16 u_.2 chip)) H := hP
          have hD : va_D (va_A (wS g b z ++ wC g ad mc M sig z) s.heap.size) ((wS g b z ++ wC g ad mc M sig z) ++ ((u_.1, refs g 16 (rfF u_.2 16)) :: tRows g 16 u_.2 chip)) := hD
          refine va_put (D := g.1) (ci := 5) (v := .ref u_.1) (ty := .array (.array .int)) (C := RX4) (T := TX4) (N := 4) hx hb hts (q_sub wsX40 238 rfl) tyX4 tyX4_ok nmX4 hown hE.K hP hD hS 0 rfl rfl 0 (by decide) (hts _ (List.mem_of_getElem? (i := 3) rfl)) (fun _ h9 => h9) rfl (by decide +kernel) rfl rfl (Nat.le_of_ble_eq_true rfl) dL_act_122 (fun H locs hP hD hS => ?_)
          have hP : va_P g.1 vwCl ((((b 0, .inr (5, [.ref u_.1, .ref (b 3), .ref (b 4), .ref (b 1)])) :: (b 1, ints g 20 (sst z)) :: (b 2, refs g (sL z) (rfF (cOf b) (sL z))) :: (b 3, refs g (sn z) (rfF (hOf b (sL z)) (sn z))) :: (b 4, refs g (sn z) (rfF (wOf b (sL z)) (sn z))) :: spool g b z) ++ wC g ad mc M sig z) ++ ((u_.1, refs g 16 (rfF u_.2 16)) :: tRows g 16 u_.2 chip)) H := hP
          have hD : va_D (va_A (wS g b z ++ wC g ad mc M sig z) s.heap.size) ((((b 0, .inr (5, [.ref u_.1, .ref (b 3), .ref (b 4), .ref (b 1)])) :: (b 1, ints g 20 (sst z)) :: (b 2, refs g (sL z) (rfF (cOf b) (sL z))) :: (b 3, refs g (sn z) (rfF (hOf b (sL z)) (sn z))) :: (b 4, refs g (sn z) (rfF (wOf b (sL z)) (sn z))) :: spool g b z) ++ wC g ad mc M sig z) ++ ((u_.1, refs g 16 (rfF u_.2 16)) :: tRows g 16 u_.2 chip)) := hD
          have hE := hE0.kept hS.2.1
          refine lv_aload_n hx hb dL_act_125 rfl (lv_at hl 5 rfl) ?_
          refine lv_iconst (v := nI 0) hx hb dL_act_126 (by decide) ?_
          refine q_newA (n := 0) hx hb hown (hts _ (List.mem_of_getElem? (i := 4) rfl)) hE hP hD hS hA (by omega) (Nat.le_of_ble_eq_true rfl) (Nat.le_of_ble_eq_true rfl) dL_act_127 (fun h_ H hP hD hS => ?_)
          have hP : va_P g.1 vwCl (((((b 0, .inr (5, [.ref u_.1, .ref (b 3), .ref (b 4), .ref (b 1)])) :: (b 1, ints g 20 (sst z)) :: (b 2, refs g (sL z) (rfF (cOf b) (sL z))) :: (b 3, refs g (sn z) (rfF (hOf b (sL z)) (sn z))) :: (b 4, refs g (sn z) (rfF (wOf b (sL z)) (sn z))) :: spool g b z) ++ wC g ad mc M sig z) ++ ((u_.1, refs g 16 (rfF u_.2 16)) :: tRows g 16 u_.2 chip)) ++ [(h_, refs g 0 (fun _ => none))]) H := hP
          have hD : va_D (va_A (wS g b z ++ wC g ad mc M sig z) s.heap.size) (((((b 0, .inr (5, [.ref u_.1, .ref (b 3), .ref (b 4), .ref (b 1)])) :: (b 1, ints g 20 (sst z)) :: (b 2, refs g (sL z) (rfF (cOf b) (sL z))) :: (b 3, refs g (sn z) (rfF (hOf b (sL z)) (sn z))) :: (b 4, refs g (sn z) (rfF (wOf b (sL z)) (sn z))) :: spool g b z) ++ wC g ad mc M sig z) ++ ((u_.1, refs g 16 (rfF u_.2 16)) :: tRows g 16 u_.2 chip)) ++ [(h_, refs g 0 (fun _ => none))]) := hD
          have hE := hE0.kept hS.2.1
          refine va_put (D := g.1) (ci := 5) (v := .ref h_) (ty := .array (.array .int)) (C := RX4) (T := TX4) (N := 4) hx hb hts (q_sub wsX40 238 rfl) tyX4 tyX4_ok nmX4 hown hE.K hP hD hS 0 rfl rfl 1 (by decide) (hts _ (List.mem_of_getElem? (i := 2) rfl)) (fun _ h9 => h9) rfl (by decide +kernel) rfl rfl (Nat.le_of_ble_eq_true rfl) dL_act_130 (fun H locs hP hD hS => ?_)
          have hP : va_P g.1 vwCl (((((b 0, .inr (5, [.ref u_.1, .ref h_, .ref (b 4), .ref (b 1)])) :: (b 1, ints g 20 (sst z)) :: (b 2, refs g (sL z) (rfF (cOf b) (sL z))) :: (b 3, refs g (sn z) (rfF (hOf b (sL z)) (sn z))) :: (b 4, refs g (sn z) (rfF (wOf b (sL z)) (sn z))) :: spool g b z) ++ wC g ad mc M sig z) ++ ((u_.1, refs g 16 (rfF u_.2 16)) :: tRows g 16 u_.2 chip)) ++ [(h_, refs g 0 (fun _ => none))]) H := hP
          have hD : va_D (va_A (wS g b z ++ wC g ad mc M sig z) s.heap.size) (((((b 0, .inr (5, [.ref u_.1, .ref h_, .ref (b 4), .ref (b 1)])) :: (b 1, ints g 20 (sst z)) :: (b 2, refs g (sL z) (rfF (cOf b) (sL z))) :: (b 3, refs g (sn z) (rfF (hOf b (sL z)) (sn z))) :: (b 4, refs g (sn z) (rfF (wOf b (sL z)) (sn z))) :: spool g b z) ++ wC g ad mc M sig z) ++ ((u_.1, refs g 16 (rfF u_.2 16)) :: tRows g 16 u_.2 chip)) ++ [(h_, refs g 0 (fun _ => none))]) := hD
          have hE := hE0.kept hS.2.1
          refine lv_aload_n hx hb dL_act_133 rfl (lv_at hl 5 rfl) ?_
          refine lv_iconst (v := nI 0) hx hb dL_act_134 (by decide) ?_
          refine q_newA (n := 0) hx hb hown (hts _ (List.mem_of_getElem? (i := 4) rfl)) hE hP hD hS hA (by omega) (Nat.le_of_ble_eq_true rfl) (Nat.le_of_ble_eq_true rfl) dL_act_135 (fun w_ H hP hD hS => ?_)
          have hP : va_P g.1 vwCl ((((((b 0, .inr (5, [.ref u_.1, .ref h_, .ref (b 4), .ref (b 1)])) :: (b 1, ints g 20 (sst z)) :: (b 2, refs g (sL z) (rfF (cOf b) (sL z))) :: (b 3, refs g (sn z) (rfF (hOf b (sL z)) (sn z))) :: (b 4, refs g (sn z) (rfF (wOf b (sL z)) (sn z))) :: spool g b z) ++ wC g ad mc M sig z) ++ ((u_.1, refs g 16 (rfF u_.2 16)) :: tRows g 16 u_.2 chip)) ++ [(h_, refs g 0 (fun _ => none))]) ++ [(w_, refs g 0 (fun _ => none))]) H := hP
          have hD : va_D (va_A (wS g b z ++ wC g ad mc M sig z) s.heap.size) ((((((b 0, .inr (5, [.ref u_.1, .ref h_, .ref (b 4), .ref (b 1)])) :: (b 1, ints g 20 (sst z)) :: (b 2, refs g (sL z) (rfF (cOf b) (sL z))) :: (b 3, refs g (sn z) (rfF (hOf b (sL z)) (sn z))) :: (b 4, refs g (sn z) (rfF (wOf b (sL z)) (sn z))) :: spool g b z) ++ wC g ad mc M sig z) ++ ((u_.1, refs g 16 (rfF u_.2 16)) :: tRows g 16 u_.2 chip)) ++ [(h_, refs g 0 (fun _ => none))]) ++ [(w_, refs g 0 (fun _ => none))]) := hD
          have hE := hE0.kept hS.2.1
          refine va_put (D := g.1) (ci := 5) (v := .ref w_) (ty := .array (.array .int)) (C := RX4) (T := TX4) (N := 4) hx hb hts (q_sub wsX40 238 rfl) tyX4 tyX4_ok nmX4 hown hE.K hP hD hS 0 rfl rfl 2 (by decide) (hts _ (List.mem_of_getElem? (i := 5) rfl)) (fun _ h9 => h9) rfl (by decide +kernel) rfl rfl (Nat.le_of_ble_eq_true rfl) dL_act_138 (fun H locs hP hD hS => ?_)
          have hP : va_P g.1 vwCl ((((((b 0, .inr (5, [.ref u_.1, .ref h_, .ref w_, .ref (b 1)])) :: (b 1, ints g 20 (sst z)) :: (b 2, refs g (sL z) (rfF (cOf b) (sL z))) :: (b 3, refs g (sn z) (rfF (hOf b (sL z)) (sn z))) :: (b 4, refs g (sn z) (rfF (wOf b (sL z)) (sn z))) :: spool g b z) ++ wC g ad mc M sig z) ++ ((u_.1, refs g 16 (rfF u_.2 16)) :: tRows g 16 u_.2 chip)) ++ [(h_, refs g 0 (fun _ => none))]) ++ [(w_, refs g 0 (fun _ => none))]) H := hP
          have hD : va_D (va_A (wS g b z ++ wC g ad mc M sig z) s.heap.size) ((((((b 0, .inr (5, [.ref u_.1, .ref h_, .ref w_, .ref (b 1)])) :: (b 1, ints g 20 (sst z)) :: (b 2, refs g (sL z) (rfF (cOf b) (sL z))) :: (b 3, refs g (sn z) (rfF (hOf b (sL z)) (sn z))) :: (b 4, refs g (sn z) (rfF (wOf b (sL z)) (sn z))) :: spool g b z) ++ wC g ad mc M sig z) ++ ((u_.1, refs g 16 (rfF u_.2 16)) :: tRows g 16 u_.2 chip)) ++ [(h_, refs g 0 (fun _ => none))]) ++ [(w_, refs g 0 (fun _ => none))]) := hD
          have hE := hE0.kept hS.2.1
          have hP : va_P g.1 vwCl (wS g (bB (b 0) (b 1) u_.1 h_ w_ u_.2) (zcl z (2 ^ 4)) ++ wC g ad mc M sig z) H := by rw [wS_new rfl]; exact q_spP pm_codes hP
          have hD : va_D (va_A (wS g b z ++ wC g ad mc M sig z) s.heap.size) (wS g (bB (b 0) (b 1) u_.1 h_ w_ u_.2) (zcl z (2 ^ 4)) ++ wC g ad mc M sig z) := by rw [wS_new rfl]; exact q_spD pm_codes hD
          refine lv_aload_n hx hb dL_act_141 rfl (lv_at hl 4 rfl) ?_
          refine lv_iload hx hb dL_act_142 (lv_at hl 0 rfl) ?_
          refine q_wrV (wr := wS g (bB (b 0) (b 1) u_.1 h_ w_ u_.2) (zcl z (2 ^ 4))) (As := [.int (nI 4)]) (rest := []) ⟨hx, hb, hml, hown, hts⟩ (c_X3_setCodes hM hV (q_ := 4) (by decide)) (cwV 1 hts gL_act_X3_setCodes rfl rfl rfl (by decide +kernel) ⟨Nat.le_of_ble_eq_true rfl, Nat.le_of_ble_eq_true rfl⟩) hE hP hD hS hA (va_recv hE.K (q_snd hP) (ci := 4) (q0 := 0) rfl rfl) rfl hl.1 rfl (Nat.le_of_ble_eq_true rfl) dL_act_144 ⟨Nat.le_of_ble_eq_true rfl, Nat.le_of_ble_eq_true rfl⟩ (fun _u H locs hP hD hS hE => ?_)
          have hP : va_P g.1 vwCl (wS g (bB (b 0) (b 1) u_.1 h_ w_ u_.2) (zcl z (2 ^ 4)) ++ wC g ad (mc + nI 1) (min M 1) (fillF sig (nI 0) 207) (zcl z (2 ^ 4))) H := hP
          have hD : va_D (va_A (wS g b z ++ wC g ad mc M sig z) s.heap.size) (wS g (bB (b 0) (b 1) u_.1 h_ w_ u_.2) (zcl z (2 ^ 4)) ++ wC g ad (mc + nI 1) (min M 1) (fillF sig (nI 0) 207) (zcl z (2 ^ 4))) := hD
          refine lv_iload hx hb dL_act_147 (lv_at hl 2 rfl) ?_
          refine q_icmp_ne (tgt := 156) hx hb (by omega) (by omega) dL_act_149 (by decide) (fun c_43 => ?_) (fun c_43 => ?_)
          · exact absurd rfl c_43
          · refine lv_iconst (v := nI 1) hx hb dL_act_152 (by decide) ?_
            refine lv_goto (tgt := 157) hx hb dL_act_153 (by decide) ?_
            refine W.widen (k := 40) (n := 400) (Nat.le_of_ble_eq_true rfl) (Nat.le_of_ble_eq_true rfl) ?_
            exact q_wzret (⟨((bB (b 0) (b 1) u_.1 h_ w_ u_.2), ad, mc + nI 1, min M 1, fillF sig (nI 0) 207, (zcl z (2 ^ 4))), rfl, rfl, hI.cl (q := 4) (by decide)⟩) hx hb hr hlocks rfl hP hD hS dL_act_157 rfl
      · refine lv_iconst (v := nI 1) hx hb dL_act_102 (by decide) ?_
        refine W.widen (k := 40) (n := 400) (Nat.le_of_ble_eq_true rfl) (Nat.le_of_ble_eq_true rfl) ?_
        exact q_wzret (⟨(b, ad, mc, M, sig, z), rfl, rfl, hI⟩) hx hb hr hlocks rfl hP hD hS dL_act_103 rfl
    · refine lv_tableIn (off := 123) (tgt := 158) hx hb dL_act_35 (by rcases e14 with e14 | e14 <;> rw [e14] <;> decide) (by rcases e14 with e14 | e14 <;> rw [e14] <;> decide) (by rcases e14 with e14 | e14 <;> rw [e14] <;> rfl) (by decide) ?_
      refine lv_iload_n hx hb dL_act_158 rfl (lv_at hl 5 rfl) ?_
      refine lv_iconst (v := nI 5) hx hb dL_act_159 (by decide) ?_
      refine q_ishr (v := sh x 5) hx hb dL_act_160 rfl ?_
      refine lv_iload hx hb dL_act_161 (lv_at hl 1 rfl) ?_
      refine q_roS (As := [.int (sh x 5), .int (nI (sL z))]) (rest := []) ⟨hx, hb, hml, hown, hts⟩ (c_L_below (x := sh x 5) (n := sL z) (by omega) (by omega)) (va_cwS 2 hts gL_act_L_below rfl rfl rfl (by decide +kernel) ⟨Nat.le_of_ble_eq_true rfl, Nat.le_of_ble_eq_true rfl⟩) hE (fun q h => hA q (Nat.le_trans hS.1 h)) trivial rfl hl.1 rfl (Nat.le_of_ble_eq_true rfl) dL_act_163 ⟨Nat.le_of_ble_eq_true rfl, Nat.le_of_ble_eq_true rfl⟩ ?_
      obtain ⟨a, ha_, ea⟩ : ∃ a, a < sL z ∧ bel (sh x 5) (sL z) = a := ⟨_, bel_lt (by omega), rfl⟩
      rw [ea]
      refine lv_istore (lv' := [(7, .int (nI a)), (5, .int (-1 : Int32)), (4, .int (nI (sL z))), (3, .int (nI (sn z))), (0, .ref (ad 0)), (1, .ref (b 0)), (2, .int x)]) hx hb dL_act_166 hl (by decide) rfl (fun ls hl => ?_)
      refine lv_iconst (v := nI 1) hx hb dL_act_168 (by decide) ?_
      refine lv_iload_n hx hb dL_act_169 rfl (lv_at hl 6 rfl) ?_
      refine lv_bipush (v := nI 7) hx hb dL_act_170 (by decide) ?_
      refine q_ishr (v := sh x 7) hx hb dL_act_172 rfl ?_
      refine lv_bipush (v := nI 9) hx hb dL_act_173 (by decide) ?_
      refine q_roS (As := [.int (sh x 7), .int (nI 9)]) (rest := [.int (nI 1)]) ⟨hx, hb, hml, hown, hts⟩ (c_L_below (x := sh x 7) (n := 9) (by omega) (by omega)) (va_cwS 2 hts gL_act_L_below rfl rfl rfl (by decide +kernel) ⟨Nat.le_of_ble_eq_true rfl, Nat.le_of_ble_eq_true rfl⟩) hE (fun q h => hA q (Nat.le_trans hS.1 h)) trivial rfl hl.1 rfl (Nat.le_of_ble_eq_true rfl) dL_act_175 ⟨Nat.le_of_ble_eq_true rfl, Nat.le_of_ble_eq_true rfl⟩ ?_
      refine q_iadd (v := nI (1 + bel (sh x 7) 9)) hx hb dL_act_178 (nI_add _ _) ?_
      obtain ⟨s_, h1_, h9_, es⟩ : ∃ s_, 1 ≤ s_ ∧ s_ ≤ 9 ∧ 1 + bel (sh x 7) 9 = s_ := ⟨_, by omega, by have := bel_lt (x := sh x 7) (n := 9) (by omega); omega, rfl⟩
      rw [es]
      refine lv_istore (lv' := [(8, .int (nI s_)), (7, .int (nI a)), (5, .int (-1 : Int32)), (4, .int (nI (sL z))), (3, .int (nI (sn z))), (0, .ref (ad 0)), (1, .ref (b 0)), (2, .int x)]) hx hb dL_act_179 hl (by decide) rfl (fun ls hl => ?_)
      by_cases hf_ : sn z < 8
      · refine lv_aload_n hx hb dL_act_181 rfl (lv_at hl 5 rfl) ?_
        refine lv_iload hx hb dL_act_182 (lv_at hl 1 rfl) ?_
        refine lv_iload hx hb dL_act_184 (lv_at hl 0 rfl) ?_
        refine q_wrV (wr := wS g b z) (As := [.int (nI a), .int (nI s_)]) (rest := []) ⟨hx, hb, hml, hown, hts⟩ (c_X3_hill hM hV ha_ h1_ h9_ hf_) (cwV 2 hts gL_act_X3_hill rfl rfl rfl (by decide +kernel) ⟨Nat.le_of_ble_eq_true rfl, Nat.le_of_ble_eq_true rfl⟩) hE hP hD hS hA (va_recv hE.K (q_snd hP) (ci := 4) (q0 := 0) rfl rfl) rfl hl.1 rfl (Nat.le_of_ble_eq_true rfl) dL_act_186 ⟨Nat.le_of_ble_eq_true rfl, Nat.le_of_ble_eq_true rfl⟩ (fun v_ H locs hP hD hS hE => ?_)
        have hP : va_P g.1 vwCl (wS g b z ++ wC g (adH ad (sn z) v_.1 v_.2.1 v_.2.2) (mc + nI 1) (2 * sn z + 3) sig (zhl z a s_)) H := hP
        have hD : va_D (va_A (wS g b z ++ wC g ad mc M sig z) s.heap.size) (wS g b z ++ wC g (adH ad (sn z) v_.1 v_.2.1 v_.2.2) (mc + nI 1) (2 * sn z + 3) sig (zhl z a s_)) := hD
        refine lv_istore (lv' := [(6, .int (nI (sn z))), (8, .int (nI s_)), (7, .int (nI a)), (5, .int (-1 : Int32)), (4, .int (nI (sL z))), (3, .int (nI (sn z))), (0, .ref (ad 0)), (1, .ref (b 0)), (2, .int x)]) hx hb dL_act_189 hl (by decide) rfl (fun ls hl => ?_)
        refine lv_goto (tgt := 199) hx hb dL_act_191 (by decide) ?_
        refine lv_iload_n hx hb dL_act_199 rfl (lv_at hl 5 rfl) ?_
        refine lv_bipush (v := nI 8) hx hb dL_act_200 (by decide) ?_
        refine q_icmp_ge (tgt := 247) hx hb (by omega) (by omega) dL_act_202 (by decide) (fun c_44 => ?_) (fun c_44 => ?_)
        · exact absurd hf_ (by omega)
        · refine lv_aload_n hx hb dL_act_205 rfl (lv_at hl 7 rfl) ?_
          refine lv_aload_n hx hb dL_act_206 rfl (lv_at hl 7 rfl) ?_
          refine va_get (v := .ref (b 3)) (C := RX4) (T := TX4) (N := 4) hx hb hts (q_sub wsX40 238 rfl) hown hE.K hP 0 rfl rfl 1 (by decide) (hts _ (List.mem_of_getElem? (i := 2) rfl)) (fun _ h9 => h9) rfl dL_act_207 ?_
          refine lv_iconst (v := nI 3) hx hb dL_act_210 (by decide) ?_
          refine q_newI (n := 3) hx hb (hts _ (List.mem_of_getElem? (i := 6) rfl)) hE hP hD hS hA (by omega) (Nat.le_of_ble_eq_true rfl) (Nat.le_of_ble_eq_true rfl) dL_act_211 (fun r1 H hP hD hS => ?_)
          have hP : va_P g.1 vwCl ((wS g b z ++ wC g (adH ad (sn z) v_.1 v_.2.1 v_.2.2) (mc + nI 1) (2 * sn z + 3) sig (zhl z a s_)) ++ [(r1, ints g 3 (fun _ => 0))]) H := hP
          have hD : va_D (va_A (wS g b z ++ wC g ad mc M sig z) s.heap.size) ((wS g b z ++ wC g (adH ad (sn z) v_.1 v_.2.1 v_.2.2) (mc + nI 1) (2 * sn z + 3) sig (zhl z a s_)) ++ [(r1, ints g 3 (fun _ => 0))]) := hD
          have hE := hE0.kept hS.2.1
          refine lv_dup hx hb dL_act_213 rfl ?_
          refine lv_iconst (v := nI 0) hx hb dL_act_214 (by decide) ?_
          refine lv_iload hx hb dL_act_215 (lv_at hl 2 rfl) ?_
          refine q_iast hx hb hE hP hD hS (q0 := (wS g b z ++ wC g (adH ad (sn z) v_.1 v_.2.1 v_.2.2) (mc + nI 1) (2 * sn z + 3) sig (zhl z a s_)).length) q_apR (by omega) (by omega) dL_act_217 (fun H locs hP hD hS => ?_)
          have hP : va_P g.1 vwCl ((wS g b z ++ wC g (adH ad (sn z) v_.1 v_.2.1 v_.2.2) (mc + nI 1) (2 * sn z + 3) sig (zhl z a s_)) ++ [(r1, ints g 3 (upd (fun _ => 0) 0 (nI a)))]) H := (fun h => by rw [q_setL] at h; exact h) hP
          have hD : va_D (va_A (wS g b z ++ wC g ad mc M sig z) s.heap.size) ((wS g b z ++ wC g (adH ad (sn z) v_.1 v_.2.1 v_.2.2) (mc + nI 1) (2 * sn z + 3) sig (zhl z a s_)) ++ [(r1, ints g 3 (upd (fun _ => 0) 0 (nI a)))]) := (fun h => by rw [q_setL] at h; exact h) hD
          have hE := hE0.kept hS.2.1
          refine lv_dup hx hb dL_act_218 rfl ?_
          refine lv_iconst (v := nI 1) hx hb dL_act_219 (by decide) ?_
          refine lv_iload hx hb dL_act_220 (lv_at hl 1 rfl) ?_
          refine q_iast hx hb hE hP hD hS (q0 := (wS g b z ++ wC g (adH ad (sn z) v_.1 v_.2.1 v_.2.2) (mc + nI 1) (2 * sn z + 3) sig (zhl z a s_)).length) q_apR (by omega) (by omega) dL_act_222 (fun H locs hP hD hS => ?_)
          have hP : va_P g.1 vwCl ((wS g b z ++ wC g (adH ad (sn z) v_.1 v_.2.1 v_.2.2) (mc + nI 1) (2 * sn z + 3) sig (zhl z a s_)) ++ [(r1, ints g 3 (upd (upd (fun _ => 0) 0 (nI a)) 1 (nI s_)))]) H := (fun h => by rw [q_setL] at h; exact h) hP
          have hD : va_D (va_A (wS g b z ++ wC g ad mc M sig z) s.heap.size) ((wS g b z ++ wC g (adH ad (sn z) v_.1 v_.2.1 v_.2.2) (mc + nI 1) (2 * sn z + 3) sig (zhl z a s_)) ++ [(r1, ints g 3 (upd (upd (fun _ => 0) 0 (nI a)) 1 (nI s_)))]) := (fun h => by rw [q_setL] at h; exact h) hD
          have hE := hE0.kept hS.2.1
          refine lv_dup hx hb dL_act_223 rfl ?_
          refine lv_iconst (v := nI 2) hx hb dL_act_224 (by decide) ?_
          refine lv_iconst (v := nI 0) hx hb dL_act_225 (by decide) ?_
          refine q_iast hx hb hE hP hD hS (q0 := (wS g b z ++ wC g (adH ad (sn z) v_.1 v_.2.1 v_.2.2) (mc + nI 1) (2 * sn z + 3) sig (zhl z a s_)).length) q_apR (by omega) (by omega) dL_act_226 (fun H locs hP hD hS => ?_)
          have hP : va_P g.1 vwCl ((wS g b z ++ wC g (adH ad (sn z) v_.1 v_.2.1 v_.2.2) (mc + nI 1) (2 * sn z + 3) sig (zhl z a s_)) ++ [(r1, ints g 3 (hrw (zhl z a s_) (sn z)))]) H := (fun h => by rw [q_setL, hrw_n] at h; exact h) hP
          have hD : va_D (va_A (wS g b z ++ wC g ad mc M sig z) s.heap.size) ((wS g b z ++ wC g (adH ad (sn z) v_.1 v_.2.1 v_.2.2) (mc + nI 1) (2 * sn z + 3) sig (zhl z a s_)) ++ [(r1, ints g 3 (hrw (zhl z a s_) (sn z)))]) := (fun h => by rw [q_setL, hrw_n] at h; exact h) hD
          have hE := hE0.kept hS.2.1
          refine q_nwS (wr := (wS g b z ++ wC g (adH ad (sn z) v_.1 v_.2.1 v_.2.2) (mc + nI 1) (2 * sn z + 3) sig (zhl z a s_)) ++ [(r1, ints g 3 (hrw (zhl z a s_) (sn z)))]) (As := [.ref (b 3), .ref r1]) (rest := [.ref (b 0)]) ⟨hx, hb, hml, hown, hts⟩ (c_X4_more (n := sn z) (a := b 3) (r := r1) (kr := 3) (ra := hOf b (sL z)) (ln := fun _ => 3) (fr := hrw (zhl z a s_) (sn z)) (fi := fun i => hrw z i) (by omega)) (va_cwS 2 hts gL_act_X4_more rfl rfl rfl (by decide +kernel) ⟨Nat.le_of_ble_eq_true rfl, Nat.le_of_ble_eq_true rfl⟩) hE hP hD hS hA ⟨hP 3 _ rfl, hP _ _ q_apR, fun i hi => hP _ _ (q_apL (q_apL (wS_h hi)))⟩ rfl hl.1 rfl (Nat.le_of_ble_eq_true rfl) dL_act_227 ⟨Nat.le_of_ble_eq_true rfl, Nat.le_of_ble_eq_true rfl⟩ (fun h_ H locs hP hD hS hE => ?_)
          have hP : va_P g.1 vwCl (((wS g b z ++ wC g (adH ad (sn z) v_.1 v_.2.1 v_.2.2) (mc + nI 1) (2 * sn z + 3) sig (zhl z a s_)) ++ [(r1, ints g 3 (hrw (zhl z a s_) (sn z)))]) ++ [(h_, refs g (sn z + 1) (rfF (upN (hOf b (sL z)) (sn z) r1) (sn z + 1)))]) H := hP
          have hD : va_D (va_A (wS g b z ++ wC g ad mc M sig z) s.heap.size) (((wS g b z ++ wC g (adH ad (sn z) v_.1 v_.2.1 v_.2.2) (mc + nI 1) (2 * sn z + 3) sig (zhl z a s_)) ++ [(r1, ints g 3 (hrw (zhl z a s_) (sn z)))]) ++ [(h_, refs g (sn z + 1) (rfF (upN (hOf b (sL z)) (sn z) r1) (sn z + 1)))]) := hD
          refine va_put (D := g.1) (ci := 5) (v := .ref h_) (ty := .array (.array .int)) (C := RX4) (T := TX4) (N := 4) hx hb hts (q_sub wsX40 238 rfl) tyX4 tyX4_ok nmX4 hown hE.K hP hD hS 0 rfl rfl 1 (by decide) (hts _ (List.mem_of_getElem? (i := 2) rfl)) (fun _ h9 => h9) rfl (by decide +kernel) rfl rfl (Nat.le_of_ble_eq_true rfl) dL_act_230 (fun H locs hP hD hS => ?_)
          have hP : va_P g.1 vwCl (((((b 0, .inr (5, [.ref (b 2), .ref h_, .ref (b 4), .ref (b 1)])) :: (b 1, ints g 20 (sst z)) :: (b 2, refs g (sL z) (rfF (cOf b) (sL z))) :: (b 3, refs g (sn z) (rfF (hOf b (sL z)) (sn z))) :: (b 4, refs g (sn z) (rfF (wOf b (sL z)) (sn z))) :: spool g b z) ++ wC g (adH ad (sn z) v_.1 v_.2.1 v_.2.2) (mc + nI 1) (2 * sn z + 3) sig (zhl z a s_)) ++ [(r1, ints g 3 (hrw (zhl z a s_) (sn z)))]) ++ [(h_, refs g (sn z + 1) (rfF (upN (hOf b (sL z)) (sn z) r1) (sn z + 1)))]) H := hP
          have hD : va_D (va_A (wS g b z ++ wC g ad mc M sig z) s.heap.size) (((((b 0, .inr (5, [.ref (b 2), .ref h_, .ref (b 4), .ref (b 1)])) :: (b 1, ints g 20 (sst z)) :: (b 2, refs g (sL z) (rfF (cOf b) (sL z))) :: (b 3, refs g (sn z) (rfF (hOf b (sL z)) (sn z))) :: (b 4, refs g (sn z) (rfF (wOf b (sL z)) (sn z))) :: spool g b z) ++ wC g (adH ad (sn z) v_.1 v_.2.1 v_.2.2) (mc + nI 1) (2 * sn z + 3) sig (zhl z a s_)) ++ [(r1, ints g 3 (hrw (zhl z a s_) (sn z)))]) ++ [(h_, refs g (sn z + 1) (rfF (upN (hOf b (sL z)) (sn z) r1) (sn z + 1)))]) := hD
          have hE := hE0.kept hS.2.1
          refine lv_aload_n hx hb dL_act_233 rfl (lv_at hl 7 rfl) ?_
          refine lv_aload_n hx hb dL_act_234 rfl (lv_at hl 7 rfl) ?_
          refine va_get (v := .ref (b 4)) (C := RX4) (T := TX4) (N := 4) hx hb hts (q_sub wsX40 238 rfl) hown hE.K hP 0 rfl rfl 2 (by decide) (hts _ (List.mem_of_getElem? (i := 5) rfl)) (fun _ h9 => h9) rfl dL_act_235 ?_
          refine lv_iconst (v := nI 0) hx hb dL_act_238 (by decide) ?_
          refine q_newI (n := 0) hx hb (hts _ (List.mem_of_getElem? (i := 6) rfl)) hE hP hD hS hA (by omega) (Nat.le_of_ble_eq_true rfl) (Nat.le_of_ble_eq_true rfl) dL_act_239 (fun r2 H hP hD hS => ?_)
          have hP : va_P g.1 vwCl ((((((b 0, .inr (5, [.ref (b 2), .ref h_, .ref (b 4), .ref (b 1)])) :: (b 1, ints g 20 (sst z)) :: (b 2, refs g (sL z) (rfF (cOf b) (sL z))) :: (b 3, refs g (sn z) (rfF (hOf b (sL z)) (sn z))) :: (b 4, refs g (sn z) (rfF (wOf b (sL z)) (sn z))) :: spool g b z) ++ wC g (adH ad (sn z) v_.1 v_.2.1 v_.2.2) (mc + nI 1) (2 * sn z + 3) sig (zhl z a s_)) ++ [(r1, ints g 3 (hrw (zhl z a s_) (sn z)))]) ++ [(h_, refs g (sn z + 1) (rfF (upN (hOf b (sL z)) (sn z) r1) (sn z + 1)))]) ++ [(r2, ints g 0 (fun _ => 0))]) H := hP
          have hD : va_D (va_A (wS g b z ++ wC g ad mc M sig z) s.heap.size) ((((((b 0, .inr (5, [.ref (b 2), .ref h_, .ref (b 4), .ref (b 1)])) :: (b 1, ints g 20 (sst z)) :: (b 2, refs g (sL z) (rfF (cOf b) (sL z))) :: (b 3, refs g (sn z) (rfF (hOf b (sL z)) (sn z))) :: (b 4, refs g (sn z) (rfF (wOf b (sL z)) (sn z))) :: spool g b z) ++ wC g (adH ad (sn z) v_.1 v_.2.1 v_.2.2) (mc + nI 1) (2 * sn z + 3) sig (zhl z a s_)) ++ [(r1, ints g 3 (hrw (zhl z a s_) (sn z)))]) ++ [(h_, refs g (sn z + 1) (rfF (upN (hOf b (sL z)) (sn z) r1) (sn z + 1)))]) ++ [(r2, ints g 0 (fun _ => 0))]) := hD
          have hE := hE0.kept hS.2.1
          refine q_nwS (wr := (((((b 0, .inr (5, [.ref (b 2), .ref h_, .ref (b 4), .ref (b 1)])) :: (b 1, ints g 20 (sst z)) :: (b 2, refs g (sL z) (rfF (cOf b) (sL z))) :: (b 3, refs g (sn z) (rfF (hOf b (sL z)) (sn z))) :: (b 4, refs g (sn z) (rfF (wOf b (sL z)) (sn z))) :: spool g b z) ++ wC g (adH ad (sn z) v_.1 v_.2.1 v_.2.2) (mc + nI 1) (2 * sn z + 3) sig (zhl z a s_)) ++ [(r1, ints g 3 (hrw (zhl z a s_) (sn z)))]) ++ [(h_, refs g (sn z + 1) (rfF (upN (hOf b (sL z)) (sn z) r1) (sn z + 1)))]) ++ [(r2, ints g 0 (fun _ => 0))]) (As := [.ref (b 4), .ref r2]) (rest := [.ref (b 0)]) ⟨hx, hb, hml, hown, hts⟩ (c_X4_more (n := sn z) (a := b 4) (r := r2) (kr := 0) (ra := wOf b (sL z)) (ln := fun i => ssd z i) (fr := fun _ => 0) (fi := fun i => swd z i) (by omega)) (va_cwS 2 hts gL_act_X4_more rfl rfl rfl (by decide +kernel) ⟨Nat.le_of_ble_eq_true rfl, Nat.le_of_ble_eq_true rfl⟩) hE hP hD hS hA ⟨hP 4 _ rfl, hP _ _ q_apR, fun i hi => hP _ _ (q_apL (q_apL (q_apL (q_apL (wO_w hi)))))⟩ rfl hl.1 rfl (Nat.le_of_ble_eq_true rfl) dL_act_241 ⟨Nat.le_of_ble_eq_true rfl, Nat.le_of_ble_eq_true rfl⟩ (fun w_ H locs hP hD hS hE => ?_)
          have hP : va_P g.1 vwCl (((((((b 0, .inr (5, [.ref (b 2), .ref h_, .ref (b 4), .ref (b 1)])) :: (b 1, ints g 20 (sst z)) :: (b 2, refs g (sL z) (rfF (cOf b) (sL z))) :: (b 3, refs g (sn z) (rfF (hOf b (sL z)) (sn z))) :: (b 4, refs g (sn z) (rfF (wOf b (sL z)) (sn z))) :: spool g b z) ++ wC g (adH ad (sn z) v_.1 v_.2.1 v_.2.2) (mc + nI 1) (2 * sn z + 3) sig (zhl z a s_)) ++ [(r1, ints g 3 (hrw (zhl z a s_) (sn z)))]) ++ [(h_, refs g (sn z + 1) (rfF (upN (hOf b (sL z)) (sn z) r1) (sn z + 1)))]) ++ [(r2, ints g 0 (fun _ => 0))]) ++ [(w_, refs g (sn z + 1) (rfF (upN (wOf b (sL z)) (sn z) r2) (sn z + 1)))]) H := hP
          have hD : va_D (va_A (wS g b z ++ wC g ad mc M sig z) s.heap.size) (((((((b 0, .inr (5, [.ref (b 2), .ref h_, .ref (b 4), .ref (b 1)])) :: (b 1, ints g 20 (sst z)) :: (b 2, refs g (sL z) (rfF (cOf b) (sL z))) :: (b 3, refs g (sn z) (rfF (hOf b (sL z)) (sn z))) :: (b 4, refs g (sn z) (rfF (wOf b (sL z)) (sn z))) :: spool g b z) ++ wC g (adH ad (sn z) v_.1 v_.2.1 v_.2.2) (mc + nI 1) (2 * sn z + 3) sig (zhl z a s_)) ++ [(r1, ints g 3 (hrw (zhl z a s_) (sn z)))]) ++ [(h_, refs g (sn z + 1) (rfF (upN (hOf b (sL z)) (sn z) r1) (sn z + 1)))]) ++ [(r2, ints g 0 (fun _ => 0))]) ++ [(w_, refs g (sn z + 1) (rfF (upN (wOf b (sL z)) (sn z) r2) (sn z + 1)))]) := hD
          refine va_put (D := g.1) (ci := 5) (v := .ref w_) (ty := .array (.array .int)) (C := RX4) (T := TX4) (N := 4) hx hb hts (q_sub wsX40 238 rfl) tyX4 tyX4_ok nmX4 hown hE.K hP hD hS 0 rfl rfl 2 (by decide) (hts _ (List.mem_of_getElem? (i := 5) rfl)) (fun _ h9 => h9) rfl (by decide +kernel) rfl rfl (Nat.le_of_ble_eq_true rfl) dL_act_244 (fun H locs hP hD hS => ?_)
          have hP : va_P g.1 vwCl (((((((b 0, .inr (5, [.ref (b 2), .ref h_, .ref w_, .ref (b 1)])) :: (b 1, ints g 20 (sst z)) :: (b 2, refs g (sL z) (rfF (cOf b) (sL z))) :: (b 3, refs g (sn z) (rfF (hOf b (sL z)) (sn z))) :: (b 4, refs g (sn z) (rfF (wOf b (sL z)) (sn z))) :: spool g b z) ++ wC g (adH ad (sn z) v_.1 v_.2.1 v_.2.2) (mc + nI 1) (2 * sn z + 3) sig (zhl z a s_)) ++ [(r1, ints g 3 (hrw (zhl z a s_) (sn z)))]) ++ [(h_, refs g (sn z + 1) (rfF (upN (hOf b (sL z)) (sn z) r1) (sn z + 1)))]) ++ [(r2, ints g 0 (fun _ => 0))]) ++ [(w_, refs g (sn z + 1) (rfF (upN (wOf b (sL z)) (sn z) r2) (sn z + 1)))]) H := hP
          have hD : va_D (va_A (wS g b z ++ wC g ad mc M sig z) s.heap.size) (((((((b 0, .inr (5, [.ref (b 2), .ref h_, .ref w_, .ref (b 1)])) :: (b 1, ints g 20 (sst z)) :: (b 2, refs g (sL z) (rfF (cOf b) (sL z))) :: (b 3, refs g (sn z) (rfF (hOf b (sL z)) (sn z))) :: (b 4, refs g (sn z) (rfF (wOf b (sL z)) (sn z))) :: spool g b z) ++ wC g (adH ad (sn z) v_.1 v_.2.1 v_.2.2) (mc + nI 1) (2 * sn z + 3) sig (zhl z a s_)) ++ [(r1, ints g 3 (hrw (zhl z a s_) (sn z)))]) ++ [(h_, refs g (sn z + 1) (rfF (upN (hOf b (sL z)) (sn z) r1) (sn z + 1)))]) ++ [(r2, ints g 0 (fun _ => 0))]) ++ [(w_, refs g (sn z + 1) (rfF (upN (wOf b (sL z)) (sn z) r2) (sn z + 1)))]) := hD
          have hE := hE0.kept hS.2.1
          have hP : va_P g.1 vwCl (wS g (bH b (sL z + 2 * sn z + 5) h_ w_ r1 r2) (zhl z a s_) ++ wC g (adH ad (sn z) v_.1 v_.2.1 v_.2.2) (mc + nI 1) (2 * sn z + 3) sig (zhl z a s_)) H := by rw [wS_hl]; exact q_spP pm_hill hP
          have hD : va_D (va_A (wS g b z ++ wC g ad mc M sig z) s.heap.size) (wS g (bH b (sL z + 2 * sn z + 5) h_ w_ r1 r2) (zhl z a s_) ++ wC g (adH ad (sn z) v_.1 v_.2.1 v_.2.2) (mc + nI 1) (2 * sn z + 3) sig (zhl z a s_)) := by rw [wS_hl]; exact q_spD pm_hill hD
          refine lv_iload hx hb dL_act_247 (lv_at hl 0 rfl) ?_
          refine lv_iload_n hx hb dL_act_249 rfl (lv_at hl 5 rfl) ?_
          refine lv_bipush (v := nI 8) hx hb dL_act_250 (by decide) ?_
          refine q_icmp_ge (tgt := 259) hx hb (by omega) (by omega) dL_act_252 (by decide) (fun c_45 => ?_) (fun c_45 => ?_)
          · exact absurd hf_ (by omega)
          · refine lv_iload_n hx hb dL_act_255 rfl (lv_at hl 5 rfl) ?_
            refine lv_goto (tgt := 260) hx hb dL_act_256 (by decide) ?_
            refine q_icmp_ne (tgt := 267) hx hb (by omega) (by omega) dL_act_260 (by decide) (fun c_46 => ?_) (fun c_46 => ?_)
            · exact absurd rfl c_46
            · refine lv_iconst (v := nI 1) hx hb dL_act_263 (by decide) ?_
              refine lv_goto (tgt := 268) hx hb dL_act_264 (by decide) ?_
              refine W.widen (k := 40) (n := 400) (Nat.le_of_ble_eq_true rfl) (Nat.le_of_ble_eq_true rfl) ?_
              exact q_wzret (⟨((bH b (sL z + 2 * sn z + 5) h_ w_ r1 r2), adH ad (sn z) v_.1 v_.2.1 v_.2.2, mc + nI 1, 2 * sn z + 3, sig, zhl z a s_), (bH_0 (b := b) (p := sL z + 2 * sn z) (h := h_) (w := w_) (r1 := r1) (r2 := r2)), (adH_0 (ad := ad) (n := sn z) (e := v_.1) (h := v_.2.1) (w := v_.2.2)), hI.hl hf_ ha_ h1_ h9_⟩) hx hb hr hlocks rfl hP hD hS dL_act_268 rfl
      · refine lv_aload_n hx hb dL_act_181 rfl (lv_at hl 5 rfl) ?_
        refine lv_iload hx hb dL_act_182 (lv_at hl 1 rfl) ?_
        refine lv_iload hx hb dL_act_184 (lv_at hl 0 rfl) ?_
        refine q_thX (E := xS) (name := xS) (As := [.int (nI a), .int (nI s_)]) (rest := []) ⟨hx, hb, hml, hown, hts⟩ (ct_X3_hill_3 hl0 hM hV (a := a) (s_ := s_) ha_ h1_ h9_ (by omega)) (cwV 2 hts gL_act_X3_hill rfl rfl rfl (by decide +kernel) ⟨Nat.le_of_ble_eq_true rfl, Nat.le_of_ble_eq_true rfl⟩) hE (fun q h => hA q (Nat.le_trans hS.1 h)) (q_snd hP) (va_recv hE.K (q_snd hP) (ci := 4) (q0 := 0) rfl rfl) rfl hl.1 rfl (Nat.le_of_ble_eq_true rfl) dL_act_186 ⟨Nat.le_of_ble_eq_true rfl, Nat.le_of_ble_eq_true rfl⟩ hP hS ([] : List ExceptionTableEntry) ⟨181, 191, 194, 46⟩ ([⟨373, 383, 386, 46⟩] : List ExceptionTableEntry) htab (fun z9 hz => nomatch hz) (by decide) (by decide) (hts _ (List.mem_of_getElem? (i := 1) rfl)) (q_cast (List.mem_of_getElem? (i := 4) rfl) hE) (fun q9 H hP hS => ?_)
        have hE := hE0.kept hS.2.1
        refine lv_astore (lv' := [(9, .ref q9), (8, .int (nI s_)), (7, .int (nI a)), (5, .int (-1 : Int32)), (4, .int (nI (sL z))), (3, .int (nI (sn z))), (0, .ref (ad 0)), (1, .ref (b 0)), (2, .int x)]) hx hb dL_act_194 hl (by decide) rfl (fun ls hl => ?_)
        refine lv_iconst (v := (-1 : Int32)) hx hb dL_act_196 (by decide) ?_
        refine lv_istore (lv' := [(6, .int (-1 : Int32)), (9, .ref q9), (8, .int (nI s_)), (7, .int (nI a)), (5, .int (-1 : Int32)), (4, .int (nI (sL z))), (3, .int (nI (sn z))), (0, .ref (ad 0)), (1, .ref (b 0)), (2, .int x)]) hx hb dL_act_197 hl (by decide) rfl (fun ls hl => ?_)
        refine lv_iload_n hx hb dL_act_199 rfl (lv_at hl 6 rfl) ?_
        refine lv_bipush (v := nI 8) hx hb dL_act_200 (by decide) ?_
        refine q_icmp_ge (tgt := 247) hx hb (by omega) (by omega) dL_act_202 (by decide) (fun c_47 => ?_) (fun c_47 => ?_)
        · refine lv_iload hx hb dL_act_247 (lv_at hl 0 rfl) ?_
          refine lv_iload_n hx hb dL_act_249 rfl (lv_at hl 6 rfl) ?_
          refine lv_bipush (v := nI 8) hx hb dL_act_250 (by decide) ?_
          refine q_icmp_ge (tgt := 259) hx hb (by omega) (by omega) dL_act_252 (by decide) (fun c_48 => ?_) (fun c_48 => ?_)
          · refine lv_iconst (v := (-1 : Int32)) hx hb dL_act_259 (by decide) ?_
            refine lv_icmp_ne (tgt := 267) hx hb dL_act_260 (by decide) (fun c_49 => ?_) (fun c_49 => ?_)
            · exact absurd rfl c_49
            · refine lv_iconst (v := nI 1) hx hb dL_act_263 (by decide) ?_
              refine lv_goto (tgt := 268) hx hb dL_act_264 (by decide) ?_
              refine W.widen (k := 40) (n := 400) (Nat.le_of_ble_eq_true rfl) (Nat.le_of_ble_eq_true rfl) ?_
              exact q_wzret (⟨(b, ad, mc, M, sig, z), rfl, rfl, hI⟩) hx hb hr hlocks rfl hP hD hS dL_act_268 rfl
          · exact absurd hf_ (by omega)
        · exact absurd hf_ (by omega)
    · refine lv_tableIn (off := 234) (tgt := 269) hx hb dL_act_35 (by rcases e14 with e14 | e14 | e14 | e14 <;> rw [e14] <;> decide) (by rcases e14 with e14 | e14 | e14 | e14 <;> rw [e14] <;> decide) (by rcases e14 with e14 | e14 | e14 | e14 <;> rw [e14] <;> rfl) (by decide) ?_
      refine lv_iload_n hx hb dL_act_269 rfl (lv_at hl 2 rfl) ?_
      refine q_if_ne (tgt := 275) hx hb (by omega) dL_act_270 (by decide) (fun c_50 => ?_) (fun c_50 => ?_)
      · exact absurd c_50 (by omega)
      · refine lv_iconst (v := nI 1) hx hb dL_act_273 (by decide) ?_
        refine W.widen (k := 40) (n := 400) (Nat.le_of_ble_eq_true rfl) (Nat.le_of_ble_eq_true rfl) ?_
        exact q_wzret (⟨(b, ad, mc, M, sig, z), rfl, rfl, hI⟩) hx hb hr hlocks rfl hP hD hS dL_act_274 rfl
    · refine lv_tableIn (off := 382) (tgt := 417) hx hb dL_act_35 (by rw [e14] <;> decide) (by rw [e14] <;> decide) (by rw [e14] <;> rfl) (by decide) ?_
      refine lv_iload_n hx hb dL_act_417 rfl (lv_at hl 2 rfl) ?_
      refine q_if_eq (tgt := 432) hx hb (by omega) dL_act_418 (by decide) (fun c_51 => ?_) (fun c_51 => ?_)
      · refine lv_iconst (v := nI 1) hx hb dL_act_432 (by decide) ?_
        refine W.widen (k := 40) (n := 400) (Nat.le_of_ble_eq_true rfl) (Nat.le_of_ble_eq_true rfl) ?_
        exact q_wzret (⟨(b, ad, mc, M, sig, z), rfl, rfl, hI⟩) hx hb hr hlocks rfl hP hD hS dL_act_433 rfl
      · exact absurd c_51 (by omega)
    · refine lv_tableIn (off := 436) (tgt := 471) hx hb dL_act_35 (by rcases e14 with e14 | e14 <;> rw [e14] <;> decide) (by rcases e14 with e14 | e14 <;> rw [e14] <;> decide) (by rcases e14 with e14 | e14 <;> rw [e14] <;> rfl) (by decide) ?_
      refine lv_iload_n hx hb dL_act_471 rfl (lv_at hl 2 rfl) ?_
      refine q_if_ne (tgt := 477) hx hb (by omega) dL_act_472 (by decide) (fun c_52 => ?_) (fun c_52 => ?_)
      · exact absurd c_52 (by omega)
      · refine lv_iconst (v := nI 1) hx hb dL_act_475 (by decide) ?_
        refine W.widen (k := 40) (n := 400) (Nat.le_of_ble_eq_true rfl) (Nat.le_of_ble_eq_true rfl) ?_
        exact q_wzret (⟨(b, ad, mc, M, sig, z), rfl, rfl, hI⟩) hx hb hr hlocks rfl hP hD hS dL_act_476 rfl
    · refine lv_tableIn (off := 497) (tgt := 532) hx hb dL_act_35 (by rw [e14] <;> decide) (by rw [e14] <;> decide) (by rw [e14] <;> rfl) (by decide) ?_
      refine lv_iload_n hx hb dL_act_532 rfl (lv_at hl 2 rfl) ?_
      refine q_if_ne (tgt := 538) hx hb (by omega) dL_act_533 (by decide) (fun c_53 => ?_) (fun c_53 => ?_)
      · exact absurd c_53 (by omega)
      · refine lv_iconst (v := nI 1) hx hb dL_act_536 (by decide) ?_
        refine W.widen (k := 40) (n := 400) (Nat.le_of_ble_eq_true rfl) (Nat.le_of_ble_eq_true rfl) ?_
        exact q_wzret (⟨(b, ad, mc, M, sig, z), rfl, rfl, hI⟩) hx hb hr hlocks rfl hP hD hS dL_act_537 rfl
    · refine lv_tableOut (tgt := 595) hx hb dL_act_35 (Or.inr (by rw [nI_toInt (by omega)]; omega)) (by decide) ?_
      refine lv_iload_n hx hb dL_act_595 rfl (lv_at hl 5 rfl) ?_
      refine lv_iconst (v := nI 4) hx hb dL_act_596 (by decide) ?_
      refine q_ishr (v := sh x 4) hx hb dL_act_597 rfl ?_
      refine lv_bipush (v := nI 20) hx hb dL_act_598 (by decide) ?_
      refine q_roS (As := [.int (sh x 4), .int (nI 20)]) (rest := []) ⟨hx, hb, hml, hown, hts⟩ (c_L_below (x := sh x 4) (n := 20) (by omega) (by omega)) (va_cwS 2 hts gL_act_L_below rfl rfl rfl (by decide +kernel) ⟨Nat.le_of_ble_eq_true rfl, Nat.le_of_ble_eq_true rfl⟩) hE (fun q h => hA q (Nat.le_trans hS.1 h)) trivial rfl hl.1 rfl (Nat.le_of_ble_eq_true rfl) dL_act_600 ⟨Nat.le_of_ble_eq_true rfl, Nat.le_of_ble_eq_true rfl⟩ ?_
      obtain ⟨p_, hp_, ep⟩ : ∃ p_, p_ < 20 ∧ bel (sh x 4) 20 = p_ := ⟨_, bel_lt (by omega), rfl⟩
      rw [ep]
      refine lv_istore (lv' := [(7, .int (nI p_)), (5, .int (-1 : Int32)), (4, .int (nI (sL z))), (3, .int (nI (sn z))), (0, .ref (ad 0)), (1, .ref (b 0)), (2, .int x)]) hx hb dL_act_603 hl (by decide) rfl (fun ls hl => ?_)
      refine lv_aload_n hx hb dL_act_605 rfl (lv_at hl 5 rfl) ?_
      refine va_get (v := .ref (b 1)) (C := RX4) (T := TX4) (N := 4) hx hb hts (q_sub wsX40 238 rfl) hown hE.K hP 0 rfl rfl 3 (by decide) (hts _ (List.mem_of_getElem? (i := 7) rfl)) (fun _ h9 => h9) rfl dL_act_606 ?_
      refine lv_iload hx hb dL_act_609 (lv_at hl 0 rfl) ?_
      refine q_iald (v := (sst z) p_) hx hb hE (hP 1 _ rfl) (by omega) (by omega) dL_act_611 rfl ?_
      refine lv_istore (lv' := [(8, .int ((sst z) p_)), (7, .int (nI p_)), (5, .int (-1 : Int32)), (4, .int (nI (sL z))), (3, .int (nI (sn z))), (0, .ref (ad 0)), (1, .ref (b 0)), (2, .int x)]) hx hb dL_act_612 hl (by decide) rfl (fun ls hl => ?_)
      refine lv_aload_n hx hb dL_act_614 rfl (lv_at hl 6 rfl) ?_
      refine va_get (v := .ref (b 1)) (C := RX4) (T := TX4) (N := 4) hx hb hts (q_sub wsX40 238 rfl) hown hE.K hP 0 rfl rfl 3 (by decide) (hts _ (List.mem_of_getElem? (i := 7) rfl)) (fun _ h9 => h9) rfl dL_act_615 ?_
      refine lv_iload hx hb dL_act_618 (lv_at hl 1 rfl) ?_
      refine lv_iload_n hx hb dL_act_620 rfl (lv_at hl 7 rfl) ?_
      refine lv_bipush (v := nI 6) hx hb dL_act_621 (by decide) ?_
      refine q_ishr (v := sh x 6) hx hb dL_act_623 rfl ?_
      refine lv_iload_n hx hb dL_act_624 rfl (lv_at hl 7 rfl) ?_
      refine lv_bipush (v := nI 8) hx hb dL_act_625 (by decide) ?_
      refine q_ishr (v := sh x 8) hx hb dL_act_627 rfl ?_
      refine lv_iconst (v := nI 3) hx hb dL_act_628 (by decide) ?_
      refine q_roS (As := [.int (sh x 8), .int (nI 3)]) (rest := [.int (sh x 6), .int (nI p_), .ref (b 1)]) ⟨hx, hb, hml, hown, hts⟩ (c_L_below (x := sh x 8) (n := 3) (by omega) (by omega)) (va_cwS 2 hts gL_act_L_below rfl rfl rfl (by decide +kernel) ⟨Nat.le_of_ble_eq_true rfl, Nat.le_of_ble_eq_true rfl⟩) hE (fun q h => hA q (Nat.le_trans hS.1 h)) trivial rfl hl.1 rfl (Nat.le_of_ble_eq_true rfl) dL_act_629 ⟨Nat.le_of_ble_eq_true rfl, Nat.le_of_ble_eq_true rfl⟩ ?_
      refine q_if_ne (tgt := 641) hx hb (by have := bel_lt (x := sh x 8) (n := 3) (by omega); omega) dL_act_632 (by decide) (fun c_a => ?_) (fun c_a => ?_)
      · refine lv_bipush (v := nI 9) hx hb dL_act_641 (by decide) ?_
        refine q_roS (As := [.int (sh x 6), .int (nI 9)]) (rest := [.int (nI p_), .ref (b 1)]) ⟨hx, hb, hml, hown, hts⟩ (c_L_below (x := sh x 6) (n := 9) (by omega) (by omega)) (va_cwS 2 hts gL_act_L_below rfl rfl rfl (by decide +kernel) ⟨Nat.le_of_ble_eq_true rfl, Nat.le_of_ble_eq_true rfl⟩) hE (fun q h => hA q (Nat.le_trans hS.1 h)) trivial rfl hl.1 rfl (Nat.le_of_ble_eq_true rfl) dL_act_643 ⟨Nat.le_of_ble_eq_true rfl, Nat.le_of_ble_eq_true rfl⟩ ?_
        refine lv_iload_n hx hb dL_act_646 rfl (lv_at hl 7 rfl) ?_
        refine lv_bipush (v := nI 8) hx hb dL_act_647 (by decide) ?_
        refine q_ishr (v := sh x 8) hx hb dL_act_649 rfl ?_
        refine lv_iconst (v := nI 3) hx hb dL_act_650 (by decide) ?_
        refine q_roS (As := [.int (sh x 8), .int (nI 3)]) (rest := [.int (nI (bel (sh x 6) 9)), .int (nI p_), .ref (b 1)]) ⟨hx, hb, hml, hown, hts⟩ (c_L_below (x := sh x 8) (n := 3) (by omega) (by omega)) (va_cwS 2 hts gL_act_L_below rfl rfl rfl (by decide +kernel) ⟨Nat.le_of_ble_eq_true rfl, Nat.le_of_ble_eq_true rfl⟩) hE (fun q h => hA q (Nat.le_trans hS.1 h)) trivial rfl hl.1 rfl (Nat.le_of_ble_eq_true rfl) dL_act_651 ⟨Nat.le_of_ble_eq_true rfl, Nat.le_of_ble_eq_true rfl⟩ ?_
        refine q_if_ne (tgt := 662) hx hb (by have := bel_lt (x := sh x 8) (n := 3) (by omega); omega) dL_act_654 (by decide) (fun c_54 => ?_) (fun c_54 => ?_)
        · refine lv_iconst (v := nI 4) hx hb dL_act_662 (by decide) ?_
          refine q_isub (v := (nI (bel (sh x 6) 9)) - (nI 4)) hx hb dL_act_663 rfl ?_
          have hv_ : inB (nI (bel (sh x 6) 9) - nI 4) (-99) 99 := q_stm (c := 0) (by have := bel_lt (x := sh x 6) (n := 9) (by omega); omega) (by omega)
          refine q_iast hx hb hE hP hD hS (q0 := 1) rfl (by omega) (by omega) dL_act_664 (fun H locs hP hD hS => ?_)
          have hP : va_P g.1 vwCl (wS g b (zst z p_ (nI (bel (sh x 6) 9) - nI 4)) ++ wC g ad mc M sig z) H := hP
          have hD : va_D (va_A (wS g b z ++ wC g ad mc M sig z) s.heap.size) (wS g b (zst z p_ (nI (bel (sh x 6) 9) - nI 4)) ++ wC g ad mc M sig z) := hD
          have hE := hE0.kept hS.2.1
          refine lv_aload_n hx hb dL_act_665 rfl (lv_at hl 5 rfl) ?_
          refine lv_iload hx hb dL_act_666 (lv_at hl 1 rfl) ?_
          refine lv_aload_n hx hb dL_act_668 rfl (lv_at hl 6 rfl) ?_
          refine va_get (v := .ref (b 1)) (C := RX4) (T := TX4) (N := 4) hx hb hts (q_sub wsX40 238 rfl) hown hE.K hP 0 rfl rfl 3 (by decide) (hts _ (List.mem_of_getElem? (i := 7) rfl)) (fun _ h9 => h9) rfl dL_act_669 ?_
          refine lv_iload hx hb dL_act_672 (lv_at hl 1 rfl) ?_
          refine q_iald (v := nI (bel (sh x 6) 9) - nI 4) hx hb hE (hP 1 _ rfl) (by omega) (by omega) dL_act_674 pk_us ?_
          refine q_wrV (wr := wS g b (zst z p_ (nI (bel (sh x 6) 9) - nI 4))) (As := [.int (nI p_), .int (nI (bel (sh x 6) 9) - nI 4)]) (rest := []) ⟨hx, hb, hml, hown, hts⟩ (c_X3_setStorm hM hV hp_ hv_) (cwV 2 hts gL_act_X3_setStorm rfl rfl rfl (by decide +kernel) ⟨Nat.le_of_ble_eq_true rfl, Nat.le_of_ble_eq_true rfl⟩) hE hP hD hS hA (va_recv hE.K (q_snd hP) (ci := 4) (q0 := 0) rfl rfl) rfl hl.1 rfl (Nat.le_of_ble_eq_true rfl) dL_act_675 ⟨Nat.le_of_ble_eq_true rfl, Nat.le_of_ble_eq_true rfl⟩ (fun _u H locs hP hD hS hE => ?_)
          have hP : va_P g.1 vwCl (wS g b (zst z p_ (nI (bel (sh x 6) 9) - nI 4)) ++ wC g ad mc M sig (zst z p_ (nI (bel (sh x 6) 9) - nI 4))) H := hP
          have hD : va_D (va_A (wS g b z ++ wC g ad mc M sig z) s.heap.size) (wS g b (zst z p_ (nI (bel (sh x 6) 9) - nI 4)) ++ wC g ad mc M sig (zst z p_ (nI (bel (sh x 6) 9) - nI 4))) := hD
          refine lv_iload hx hb dL_act_678 (lv_at hl 0 rfl) ?_
          refine lv_icmp_ne (tgt := 687) hx hb dL_act_680 (by decide) (fun c_55 => ?_) (fun c_55 => ?_)
          · exact absurd rfl c_55
          · refine lv_iconst (v := nI 1) hx hb dL_act_683 (by decide) ?_
            refine lv_goto (tgt := 688) hx hb dL_act_684 (by decide) ?_
            refine W.widen (k := 40) (n := 400) (Nat.le_of_ble_eq_true rfl) (Nat.le_of_ble_eq_true rfl) ?_
            exact q_wzret (⟨(b, ad, mc, M, sig, (zst z p_ (nI (bel (sh x 6) 9) - nI 4))), rfl, rfl, hI.st hv_⟩) hx hb hr hlocks rfl hP hD hS dL_act_688 rfl
        · exact absurd c_a (by omega)
      · refine lv_sipush (v := nI 199) hx hb dL_act_635 (by decide) ?_
        refine lv_goto (tgt := 643) hx hb dL_act_638 (by decide) ?_
        refine q_roS (As := [.int (sh x 6), .int (nI 199)]) (rest := [.int (nI p_), .ref (b 1)]) ⟨hx, hb, hml, hown, hts⟩ (c_L_below (x := sh x 6) (n := 199) (by omega) (by omega)) (va_cwS 2 hts gL_act_L_below rfl rfl rfl (by decide +kernel) ⟨Nat.le_of_ble_eq_true rfl, Nat.le_of_ble_eq_true rfl⟩) hE (fun q h => hA q (Nat.le_trans hS.1 h)) trivial rfl hl.1 rfl (Nat.le_of_ble_eq_true rfl) dL_act_643 ⟨Nat.le_of_ble_eq_true rfl, Nat.le_of_ble_eq_true rfl⟩ ?_
        refine lv_iload_n hx hb dL_act_646 rfl (lv_at hl 7 rfl) ?_
        refine lv_bipush (v := nI 8) hx hb dL_act_647 (by decide) ?_
        refine q_ishr (v := sh x 8) hx hb dL_act_649 rfl ?_
        refine lv_iconst (v := nI 3) hx hb dL_act_650 (by decide) ?_
        refine q_roS (As := [.int (sh x 8), .int (nI 3)]) (rest := [.int (nI (bel (sh x 6) 199)), .int (nI p_), .ref (b 1)]) ⟨hx, hb, hml, hown, hts⟩ (c_L_below (x := sh x 8) (n := 3) (by omega) (by omega)) (va_cwS 2 hts gL_act_L_below rfl rfl rfl (by decide +kernel) ⟨Nat.le_of_ble_eq_true rfl, Nat.le_of_ble_eq_true rfl⟩) hE (fun q h => hA q (Nat.le_trans hS.1 h)) trivial rfl hl.1 rfl (Nat.le_of_ble_eq_true rfl) dL_act_651 ⟨Nat.le_of_ble_eq_true rfl, Nat.le_of_ble_eq_true rfl⟩ ?_
        refine q_if_ne (tgt := 662) hx hb (by have := bel_lt (x := sh x 8) (n := 3) (by omega); omega) dL_act_654 (by decide) (fun c_56 => ?_) (fun c_56 => ?_)
        · exact absurd c_a (by omega)
        · refine lv_bipush (v := nI 99) hx hb dL_act_657 (by decide) ?_
          refine lv_goto (tgt := 663) hx hb dL_act_659 (by decide) ?_
          refine q_isub (v := (nI (bel (sh x 6) 199)) - (nI 99)) hx hb dL_act_663 rfl ?_
          have hv_ : inB (nI (bel (sh x 6) 199) - nI 99) (-99) 99 := q_stm (c := 0) (by have := bel_lt (x := sh x 6) (n := 199) (by omega); omega) (by omega)
          refine q_iast hx hb hE hP hD hS (q0 := 1) rfl (by omega) (by omega) dL_act_664 (fun H locs hP hD hS => ?_)
          have hP : va_P g.1 vwCl (wS g b (zst z p_ (nI (bel (sh x 6) 199) - nI 99)) ++ wC g ad mc M sig z) H := hP
          have hD : va_D (va_A (wS g b z ++ wC g ad mc M sig z) s.heap.size) (wS g b (zst z p_ (nI (bel (sh x 6) 199) - nI 99)) ++ wC g ad mc M sig z) := hD
          have hE := hE0.kept hS.2.1
          refine lv_aload_n hx hb dL_act_665 rfl (lv_at hl 5 rfl) ?_
          refine lv_iload hx hb dL_act_666 (lv_at hl 1 rfl) ?_
          refine lv_aload_n hx hb dL_act_668 rfl (lv_at hl 6 rfl) ?_
          refine va_get (v := .ref (b 1)) (C := RX4) (T := TX4) (N := 4) hx hb hts (q_sub wsX40 238 rfl) hown hE.K hP 0 rfl rfl 3 (by decide) (hts _ (List.mem_of_getElem? (i := 7) rfl)) (fun _ h9 => h9) rfl dL_act_669 ?_
          refine lv_iload hx hb dL_act_672 (lv_at hl 1 rfl) ?_
          refine q_iald (v := nI (bel (sh x 6) 199) - nI 99) hx hb hE (hP 1 _ rfl) (by omega) (by omega) dL_act_674 pk_us ?_
          refine q_wrV (wr := wS g b (zst z p_ (nI (bel (sh x 6) 199) - nI 99))) (As := [.int (nI p_), .int (nI (bel (sh x 6) 199) - nI 99)]) (rest := []) ⟨hx, hb, hml, hown, hts⟩ (c_X3_setStorm hM hV hp_ hv_) (cwV 2 hts gL_act_X3_setStorm rfl rfl rfl (by decide +kernel) ⟨Nat.le_of_ble_eq_true rfl, Nat.le_of_ble_eq_true rfl⟩) hE hP hD hS hA (va_recv hE.K (q_snd hP) (ci := 4) (q0 := 0) rfl rfl) rfl hl.1 rfl (Nat.le_of_ble_eq_true rfl) dL_act_675 ⟨Nat.le_of_ble_eq_true rfl, Nat.le_of_ble_eq_true rfl⟩ (fun _u H locs hP hD hS hE => ?_)
          have hP : va_P g.1 vwCl (wS g b (zst z p_ (nI (bel (sh x 6) 199) - nI 99)) ++ wC g ad mc M sig (zst z p_ (nI (bel (sh x 6) 199) - nI 99))) H := hP
          have hD : va_D (va_A (wS g b z ++ wC g ad mc M sig z) s.heap.size) (wS g b (zst z p_ (nI (bel (sh x 6) 199) - nI 99)) ++ wC g ad mc M sig (zst z p_ (nI (bel (sh x 6) 199) - nI 99))) := hD
          refine lv_iload hx hb dL_act_678 (lv_at hl 0 rfl) ?_
          refine lv_icmp_ne (tgt := 687) hx hb dL_act_680 (by decide) (fun c_57 => ?_) (fun c_57 => ?_)
          · exact absurd rfl c_57
          · refine lv_iconst (v := nI 1) hx hb dL_act_683 (by decide) ?_
            refine lv_goto (tgt := 688) hx hb dL_act_684 (by decide) ?_
            refine W.widen (k := 40) (n := 400) (Nat.le_of_ble_eq_true rfl) (Nat.le_of_ble_eq_true rfl) ?_
            exact q_wzret (⟨(b, ad, mc, M, sig, (zst z p_ (nI (bel (sh x 6) 199) - nI 99))), rfl, rfl, hI.st hv_⟩) hx hb hr hlocks rfl hP hD hS dL_act_688 rfl
