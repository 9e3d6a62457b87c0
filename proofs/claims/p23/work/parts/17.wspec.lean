/-! ===== stores: what the cells hold behind them ===== -/
theorem q_eqP {D : va_G} {cl : List vw_C} {w w' : va_W} {H : Heap} (h : w = w') (hP : va_P D cl w H) : va_P D cl w' H := h ▸ hP
theorem q_eqD {A : Nat → Prop} {w w' : va_W} (h : w = w') (hD : va_D A w) : va_D A w' := h ▸ hD
/-- fewer cells, at the same places -/
theorem q_preP {D : va_G} {cl : List vw_C} {w w' : va_W} {H : Heap} (h : ∀ (k : Nat) (q : Nat × va_E), w'[k]? = some q → w[k]? = some q) (hP : va_P D cl w H) : va_P D cl w' H := fun k q hk => hP k q (h k q hk)
theorem q_preD {A : Nat → Prop} {w w' : va_W} (h : ∀ (k : Nat) (q : Nat × va_E), w'[k]? = some q → w[k]? = some q) (hD : va_D A w) : va_D A w' := ⟨fun i j x y hi hj e => hD.1 i j x y (h i x hi) (h j y hj) e, fun k q hk => hD.2 k q (h k q hk)⟩
theorem q_ss {w : va_W} {p : Nat} {x y : Nat × va_E} (h : w[p]? = some y) : (w.set p x)[p]? = some x := List.getElem?_set_self (List.getElem?_eq_some_iff.mp h).1
theorem q_sn {w : va_W} {p r : Nat} {x y : Nat × va_E} (h : w[r]? = some y) (hn : p ≠ r) : (w.set p x)[r]? = some y := by rw [List.getElem?_set_ne hn]; exact h
theorem q_sid {w : va_W} {p : Nat} {x : Nat × va_E} (h : w[p]? = some x) : w.set p x = w := by
  apply List.ext_getElem?
  intro i
  rw [List.getElem?_set]
  by_cases e : p = i
  · subst e; rw [if_pos rfl, if_pos (List.getElem?_eq_some_iff.mp h).1, h]
  · rw [if_neg e]
section QS
variable {p : Program} {l : Launch} {e : Env} {R : Room} {s : State} {m : MethodId} {args : Array Value} {below : List Frame} {meth : Method} {c : Code} {H : Heap} {locs : List Loc} {cells slots : Nat} {Q : State → Prop}
variable {cc : ByteArray} {pc : Nat} {ls : Array Slot} {rest : List Value} {g : gT} {A : Nat → Prop} {ws : va_W} {H0 : Heap}
theorem q_iast {a n j q0 : Nat} {f : Nat → Int32} {x : Int32} (hx : p.tables.exec = Jvm.exec) (hb : c.code = cc) (hE : Ev g A s H) (hP : va_P g.1 vwCl ws H) (hD : va_D A ws) (hS : va_S A H0 H locs) (ha : ws[q0]? = some (a, .inl (gI g, n, .inl f))) (hj : j < n) (hn : n < 2147483648) (d : decode cc pc = .ok (.iastore, 1))
    (kk : ∀ (H1 : Heap) (locs1 : List Loc), va_P g.1 vwCl (ws.set q0 (a, .inl (gI g, n, .inl (upd f j x)))) H1 → va_D A (ws.set q0 (a, .inl (gI g, n, .inl (upd f j x)))) → va_S A H0 H1 locs1 → W p l e R s m args below meth c H1 locs1 cells slots Q (F0 m (pc + 1) ls rest)) : W p l e R s m args below meth c H locs cells slots Q (F0 m pc ls (.int x :: .int (nI j) :: .ref a :: rest)) := by
  refine va_iast hx hb hE.K hP hD hS q0 0 ha rfl (vp_in_nI hj hn) d ?_
  rw [nI_clamp (Nat.lt_trans hj hn)]
  exact kk
theorem q_aastN {a n j q0 : Nat} {f : Nat → Option Nat} (hx : p.tables.exec = Jvm.exec) (hb : c.code = cc) (hE : Ev g A s H) (hP : va_P g.1 vwCl ws H) (hD : va_D A ws) (hS : va_S A H0 H locs) (ha : ws[q0]? = some (a, .inl (gO g, n, .inr (.inr (.inr (.inr f)))))) (hj : j < n) (hn : n < 2147483648) (d : decode cc pc = .ok (.aastore, 1))
    (kk : ∀ (H1 : Heap) (locs1 : List Loc), va_P g.1 vwCl (ws.set q0 (a, .inl (gO g, n, .inr (.inr (.inr (.inr (va_up f j none))))))) H1 → va_D A (ws.set q0 (a, .inl (gO g, n, .inr (.inr (.inr (.inr (va_up f j none))))))) → va_S A H0 H1 locs1 → W p l e R s m args below meth c H1 locs1 cells slots Q (F0 m (pc + 1) ls rest)) : W p l e R s m args below meth c H locs cells slots Q (F0 m pc ls (.null :: .int (nI j) :: .ref a :: rest)) := by
  refine va_astqN hx hb hE.K hP hD hS q0 1 ha rfl (vp_in_nI hj hn) d ?_
  rw [nI_clamp (Nat.lt_trans hj hn)]
  exact kk
theorem q_aastH {a n j q0 qk v : Nat} {f : Nat → Option Nat} {vs : List Value} (hx : p.tables.exec = Jvm.exec) (hb : c.code = cc) (hE : Ev g A s H) (hP : va_P g.1 vwCl ws H) (hD : va_D A ws) (hS : va_S A H0 H locs) (ha : ws[q0]? = some (a, .inl (gO g, n, .inr (.inr (.inr (.inr f)))))) (hv : ws[qk]? = some (v, .inr (2, vs))) (hj : j < n) (hn : n < 2147483648) (d : decode cc pc = .ok (.aastore, 1))
    (kk : ∀ (H1 : Heap) (locs1 : List Loc), va_P g.1 vwCl (ws.set q0 (a, .inl (gO g, n, .inr (.inr (.inr (.inr (va_up f j (some v)))))))) H1 → va_D A (ws.set q0 (a, .inl (gO g, n, .inr (.inr (.inr (.inr (va_up f j (some v)))))))) → va_S A H0 H1 locs1 → W p l e R s m args below meth c H1 locs1 cells slots Q (F0 m (pc + 1) ls rest)) : W p l e R s m args below meth c H locs cells slots Q (F0 m pc ls (.ref v :: .int (nI j) :: .ref a :: rest)) := by
  refine va_astqO (r := (RX1, TX1, 5)) hx hb hE.K hP hD hS q0 1 qk 2 ha rfl (hE.1.2.2.2.1 _ (List.mem_of_getElem? (i := 1) rfl)) hv rfl (vp_in_nI hj hn) d ?_
  rw [nI_clamp (Nat.lt_trans hj hn)]
  exact kk
/-- a new int[], its class's number is the known one -/
theorem q_newI {n : Nat} (hx : p.tables.exec = Jvm.exec) (hb : c.code = cc) (harr : (Cond.arrayClass .int).before args s = true) (hE : Ev g A s H) (hP : va_P g.1 vwCl ws H) (hD : va_D A ws) (hS : va_S A H0 H locs) (hA : ∀ q, H0.size ≤ q → A q) (hn : n ≤ 2000) (hcells : cells + 1 ≤ R.cells) (hslots : slots + n ≤ R.slots) (d : decode cc pc = .ok (.newarray .int, 2))
    (kk : ∀ (q : Nat) (H1 : Heap), va_P g.1 vwCl (ws ++ [(q, .inl (gI g, n, .inl (fun _ => 0)))]) H1 → va_D A (ws ++ [(q, .inl (gI g, n, .inl (fun _ => 0)))]) → va_S A H0 H1 locs → W p l e R s m args below meth c H1 locs (cells + 1) (slots + n) Q (F0 m (pc + 2) ls (.ref q :: rest))) : W p l e R s m args below meth c H locs cells slots Q (F0 m pc ls (.int (nI n) :: rest)) := by
  refine va_newa (atype := .int) (ty := .int) (N' := n) (a0 := (n, .inl (fun _ => 0))) hx hb harr rfl hE.K hP hD hS hA (fun cA => rfl) (nI_pos (by omega)) (nI_clamp (by omega)) (by show n * 4 ≤ _; omega) hcells hslots d (fun q cA H1 hK1 hP1 hD1 hS1 => ?_)
  have h1 := (hE.K.2 0 _ rfl).2
  have h2 := (hK1.2 3 (cA, .int) rfl).2
  have h3 : some (gI g) = some cA := Eq.trans (Eq.symm h1) h2
  cases Option.some.inj h3
  exact kk q H1 hP1 hD1 hS1
/-- a new Object[] -/
theorem q_newO {n index : Nat} {own : String} (hx : p.tables.exec = Jvm.exec) (hb : c.code = cc) (hown : s.vm.findClass own = some m.cls) (hlink : (Cond.classLink own index "java/lang/Object").before args s = true) (hE : Ev g A s H) (hP : va_P g.1 vwCl ws H) (hD : va_D A ws) (hS : va_S A H0 H locs) (hA : ∀ q, H0.size ≤ q → A q) (hn : n ≤ 1000) (hcells : cells + 1 ≤ R.cells) (hslots : slots + n ≤ R.slots) (d : decode cc pc = .ok (.anewarray index, 3))
    (kk : ∀ (q : Nat) (H1 : Heap), va_P g.1 vwCl (ws ++ [(q, .inl (gO g, n, .inr (.inr (.inr (.inr (fun _ => none))))))]) H1 → va_D A (ws ++ [(q, .inl (gO g, n, .inr (.inr (.inr (.inr (fun _ => none))))))]) → va_S A H0 H1 locs → W p l e R s m args below meth c H1 locs (cells + 1) (slots + n) Q (F0 m (pc + 3) ls (.ref q :: rest))) : W p l e R s m args below meth c H locs cells slots Q (F0 m pc ls (.int (nI n) :: rest)) := by
  refine va_newq (C := "java/lang/Object") (N' := n) hx hb hown hlink hE.1.2.1 hE.K hP hD hS hA (nI_pos (by omega)) (nI_clamp (by omega)) (by omega) hcells hslots d (fun q cA H1 hK1 hP1 hD1 hS1 => ?_)
  obtain ⟨k1, c1, -, -, -, h1⟩ := (hE.K.2 1 _ rfl).2
  obtain ⟨k2, c2, -, -, -, h2⟩ := (hK1.2 3 (cA, .object "java/lang/Object") rfl).2
  have h3 : some (gO g) = some cA := Eq.trans (Eq.symm h1) h2
  cases Option.some.inj h3
  exact kk q H1 hP1 hD1 hS1
end QS
/-! the hills' fields -/
def upN (f : Nat → Nat) (k v : Nat) : Nat → Nat := fun j => if j = k then v else f j
theorem upN_s {f : Nat → Nat} {k v : Nat} : upN f k v k = v := by simp [upN]
theorem upN_n {f : Nat → Nat} {k v j : Nat} (h : j ≠ k) : upN f k v j = f j := by simp [upN, h]
abbrev zL (z : sT) (L : Nat) : sT := (L, sn z, scd z, ssr z, sdl z, ssd z, swd z, sst z)
abbrev zsr (z : sT) (k v : Nat) : sT := (sL z, sn z, scd z, upN (ssr z) k v, sdl z, ssd z, swd z, sst z)
abbrev zdl (z : sT) (k v : Nat) : sT := (sL z, sn z, scd z, ssr z, upN (sdl z) k v, ssd z, swd z, sst z)
abbrev zsd (z : sT) (k v : Nat) : sT := (sL z, sn z, scd z, ssr z, sdl z, upN (ssd z) k v, swd z, sst z)
abbrev zwd (z : sT) (k : Nat) (f : Nat → Int32) : sT := (sL z, sn z, scd z, ssr z, sdl z, ssd z, (fun j => if j = k then f else swd z j), sst z)
abbrev zst (z : sT) (p : Nat) (v : Int32) : sT := (sL z, sn z, scd z, ssr z, sdl z, ssd z, swd z, upd (sst z) p v)
theorem wT_set {g : gT} {ad : Nat → Nat} {z z' : sT} {M j : Nat} {x : Nat × va_E} (hj : hcell g ad z' j = x) (ho : ∀ i, i ≠ j → hcell g ad z' i = hcell g ad z i) : (wT g ad z M).set j x = wT g ad z' M := by
  apply List.ext_getElem?
  intro i
  rw [List.getElem?_set]
  have hlen : (wT g ad z M).length = M := by simp [wT]
  by_cases e : j = i
  · subst e
    rw [if_pos rfl, hlen]
    by_cases hi : j < M
    · rw [if_pos hi, wT_get hi, hj]
    · rw [if_neg hi]; symm; rw [List.getElem?_eq_none_iff]; simp [wT]; omega
  · rw [if_neg e]
    by_cases hi : i < M
    · rw [wT_get hi, wT_get hi, ho i (Ne.symm e)]
    · rw [List.getElem?_eq_none_iff.mpr (by simp [wT]; omega), List.getElem?_eq_none_iff.mpr (by simp [wT]; omega)]
theorem wC_sr {g : gT} {ad : Nat → Nat} {mc : Int32} {M : Nat} {sig : Nat → Int32} {z : sT} {k v : Nat} : (wC g ad mc M sig z).set (2 * k + 7) (ad (2 * k + 7), .inr (2, [.int (nI (scd z k)), .int (nI v), .int (nI (sdl z k)), .int (nI (ssd z k)), .ref (ad (2 * k + 8))])) = wC g ad mc M sig (zsr z k v) := by
  have h := wT_set (g := g) (ad := ad) (z := z) (z' := zsr z k v) (M := M) (j := 2 * k + 1) (x := (ad (2 * k + 7), .inr (2, [.int (nI (scd z k)), .int (nI v), .int (nI (sdl z k)), .int (nI (ssd z k)), .ref (ad (2 * k + 8))]))) (by rw [hcell_h]; show (_, Sum.inr (2, [_, Value.int (nI (upN (ssr z) k v k)), _, _, _])) = _; rw [upN_s]) (fun i hi => by
    unfold hcell
    by_cases h0 : i = 0
    · rw [if_pos h0, if_pos h0]
    · rw [if_neg h0, if_neg h0]
      by_cases h1 : i % 2 = 1
      · rw [if_pos h1, if_pos h1]; show (_, Sum.inr (2, [_, Value.int (nI (upN (ssr z) k v (i / 2))), _, _, _])) = _; rw [upN_n (by omega)]
      · rw [if_neg h1, if_neg h1])
  exact congrArg (fun t => (ad 0, _) :: (ad 1, _) :: (ad 2, _) :: (ad 3, _) :: (ad 4, _) :: (ad 5, _) :: t) h
theorem wC_dl {g : gT} {ad : Nat → Nat} {mc : Int32} {M : Nat} {sig : Nat → Int32} {z : sT} {k v : Nat} : (wC g ad mc M sig z).set (2 * k + 7) (ad (2 * k + 7), .inr (2, [.int (nI (scd z k)), .int (nI (ssr z k)), .int (nI v), .int (nI (ssd z k)), .ref (ad (2 * k + 8))])) = wC g ad mc M sig (zdl z k v) := by
  have h := wT_set (g := g) (ad := ad) (z := z) (z' := zdl z k v) (M := M) (j := 2 * k + 1) (x := (ad (2 * k + 7), .inr (2, [.int (nI (scd z k)), .int (nI (ssr z k)), .int (nI v), .int (nI (ssd z k)), .ref (ad (2 * k + 8))]))) (by rw [hcell_h]; show (_, Sum.inr (2, [_, _, Value.int (nI (upN (sdl z) k v k)), _, _])) = _; rw [upN_s]) (fun i hi => by
    unfold hcell
    by_cases h0 : i = 0
    · rw [if_pos h0, if_pos h0]
    · rw [if_neg h0, if_neg h0]
      by_cases h1 : i % 2 = 1
      · rw [if_pos h1, if_pos h1]; show (_, Sum.inr (2, [_, _, Value.int (nI (upN (sdl z) k v (i / 2))), _, _])) = _; rw [upN_n (by omega)]
      · rw [if_neg h1, if_neg h1])
  exact congrArg (fun t => (ad 0, _) :: (ad 1, _) :: (ad 2, _) :: (ad 3, _) :: (ad 4, _) :: (ad 5, _) :: t) h
theorem wC_sd {g : gT} {ad : Nat → Nat} {mc : Int32} {M : Nat} {sig : Nat → Int32} {z : sT} {k v : Nat} : (wC g ad mc M sig z).set (2 * k + 7) (ad (2 * k + 7), .inr (2, [.int (nI (scd z k)), .int (nI (ssr z k)), .int (nI (sdl z k)), .int (nI v), .ref (ad (2 * k + 8))])) = wC g ad mc M sig (zsd z k v) := by
  have h := wT_set (g := g) (ad := ad) (z := z) (z' := zsd z k v) (M := M) (j := 2 * k + 1) (x := (ad (2 * k + 7), .inr (2, [.int (nI (scd z k)), .int (nI (ssr z k)), .int (nI (sdl z k)), .int (nI v), .ref (ad (2 * k + 8))]))) (by rw [hcell_h]; show (_, Sum.inr (2, [_, _, _, Value.int (nI (upN (ssd z) k v k)), _])) = _; rw [upN_s]) (fun i hi => by
    unfold hcell
    by_cases h0 : i = 0
    · rw [if_pos h0, if_pos h0]
    · rw [if_neg h0, if_neg h0]
      by_cases h1 : i % 2 = 1
      · rw [if_pos h1, if_pos h1]; show (_, Sum.inr (2, [_, _, _, Value.int (nI (upN (ssd z) k v (i / 2))), _])) = _; rw [upN_n (by omega)]
      · rw [if_neg h1, if_neg h1])
  exact congrArg (fun t => (ad 0, _) :: (ad 1, _) :: (ad 2, _) :: (ad 3, _) :: (ad 4, _) :: (ad 5, _) :: t) h
theorem wC_wd {g : gT} {ad : Nat → Nat} {mc : Int32} {M : Nat} {sig : Nat → Int32} {z : sT} {k : Nat} {f : Nat → Int32} : (wC g ad mc M sig z).set (2 * k + 8) (ad (2 * k + 8), .inl (gI g, 12, .inl f)) = wC g ad mc M sig (zwd z k f) := by
  have h := wT_set (g := g) (ad := ad) (z := z) (z' := zwd z k f) (M := M) (j := 2 * k + 2) (x := (ad (2 * k + 8), .inl (gI g, 12, .inl f))) (by rw [hcell_w]; show (_, Sum.inl (gI g, 12, Sum.inl (if k = k then f else swd z k))) = _; rw [if_pos rfl]) (fun i hi => by
    unfold hcell
    by_cases h0 : i = 0
    · rw [if_pos h0, if_pos h0]
    · rw [if_neg h0, if_neg h0]
      by_cases h1 : i % 2 = 1
      · rw [if_pos h1, if_pos h1]
      · rw [if_neg h1, if_neg h1]; show (_, Sum.inl (gI g, 12, Sum.inl (if i / 2 - 1 = k then f else swd z (i / 2 - 1)))) = _; rw [if_neg (by omega)])
  exact congrArg (fun t => (ad 0, _) :: (ad 1, _) :: (ad 2, _) :: (ad 3, _) :: (ad 4, _) :: (ad 5, _) :: t) h
/-! the signals -/
def adW (sig : Nat → Int32) (d : Int32) (z : sT) (k w n : Nat) : Nat → Int32 := fun t => if w * sL z + sdl z k ≤ t ∧ t < w * sL z + sdl z k + n then sig t + d * swd z k w * chip (scd z k) (t - (w * sL z + sdl z k)) else sig t
theorem adW_0 {sig : Nat → Int32} {d : Int32} {z : sT} {k w : Nat} : sig = adW sig d z k w 0 := by
  funext t
  unfold adW; rw [if_neg (by omega)]
theorem adW_s {sig : Nat → Int32} {d : Int32} {z : sT} {k w n : Nat} : upd (adW sig d z k w n) (w * sL z + sdl z k + n) (adW sig d z k w n (w * sL z + sdl z k + n) + d * swd z k w * chip (scd z k) n) = adW sig d z k w (n + 1) := by
  funext t
  show (if t = _ then _ else _) = _
  by_cases e : t = w * sL z + sdl z k + n
  · rw [if_pos e]
    unfold adW
    rw [if_neg (by omega), if_pos (by omega), e, show w * sL z + sdl z k + n - (w * sL z + sdl z k) = n by omega]
  · rw [if_neg e]
    unfold adW
    by_cases h : w * sL z + sdl z k ≤ t ∧ t < w * sL z + sdl z k + n
    · rw [if_pos h, if_pos (by omega)]
    · rw [if_neg h, if_neg (by omega)]
def adWs (sig : Nat → Int32) (d : Int32) (z : sT) (k : Nat) : Nat → Nat → Int32
  | 0 => sig
  | n + 1 => adW (adWs sig d z k n) d z k n (sL z)
def fillF (f : Nat → Int32) (v : Int32) (n : Nat) : Nat → Int32 := fun t => if t < n then v else f t
theorem fillF_0 {f : Nat → Int32} {v : Int32} : f = fillF f v 0 := by
  funext t; unfold fillF; rw [if_neg (by omega)]
theorem fillF_s {f : Nat → Int32} {v : Int32} {n : Nat} : upd (fillF f v n) n v = fillF f v (n + 1) := by
  funext t
  show (if t = n then v else fillF f v n t) = _
  unfold fillF
  by_cases e : t = n
  · rw [if_pos e, if_pos (by omega)]
  · rw [if_neg e]
    by_cases h : t < n
    · rw [if_pos h, if_pos (by omega)]
    · rw [if_neg h, if_neg (by omega)]
def nulF (f : Nat → Option Nat) (n : Nat) : Nat → Option Nat := fun t => if t < n then none else f t
theorem nulF_0 {f : Nat → Option Nat} : f = nulF f 0 := by
  funext t; unfold nulF; rw [if_neg (by omega)]
theorem nulF_s {f : Nat → Option Nat} {n : Nat} : va_up (nulF f n) n none = nulF f (n + 1) := by
  funext t
  show (if t = n then none else nulF f n t) = _
  unfold nulF
  by_cases e : t = n
  · rw [if_pos e, if_pos (by omega)]
  · rw [if_neg e]
    by_cases h : t < n
    · rw [if_pos h, if_pos (by omega)]
    · rw [if_neg h, if_neg (by omega)]
