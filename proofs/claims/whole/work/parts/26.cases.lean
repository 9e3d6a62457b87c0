/-! ===== the law's cases ===== -/
section QZ
variable {p : Program} {l : Launch} {e : Env} {R : Room} {s : State} {m : MethodId} {args : Array Value} {below : List Frame} {meth : Method} {c : Code} {H : Heap} {locs : List Loc} {cells slots : Nat} {Q : State → Prop}
variable {cc : ByteArray} {pc : Nat} {ls : Array Slot} {rest : List Value} {g : gT} {A : Nat → Prop} {H0 : Heap}
theorem q_sld {b L j : Nat} {xs : Nat → Int32} {v : Int32} (hx : p.tables.exec = Jvm.exec) (hb : c.code = cc) (hX : va_X b L xs s H0) (hbl : b < H0.size) (hbA : ¬ A b) (hS : va_S A H0 H locs) (hj : j < L) (hL : L ≤ 2048) (d : decode cc pc = .ok (.iaload, 1)) (hv : xs j = v)
    (kk : W p l e R s m args below meth c H locs cells slots Q (F0 m (pc + 1) ls (.int v :: rest))) : W p l e R s m args below meth c H locs cells slots Q (F0 m pc ls (.int (nI j) :: .ref b :: rest)) := by
  refine va_sld hx hb hX hbl hbA hS (vp_in_nI hj (by omega)) d ?_
  rw [nI_clamp (by omega), hv]
  exact kk
theorem q_lald {a q0 : Nat} {wc : va_W} {f : Nat → Int64} {v : Int64} (hx : p.tables.exec = Jvm.exec) (hb : c.code = cc) (hE : Ev g A s H) (hP : va_P g.1 vwCl wc H) (ha : wc[q0]? = some (a, .inl (gJ g, 1, .inr (.inl f)))) (d : decode cc pc = .ok (.laload, 1)) (hv : f 0 = v)
    (kk : W p l e R s m args below meth c H locs cells slots Q (F0 m (pc + 1) ls (.long v :: rest))) : W p l e R s m args below meth c H locs cells slots Q (F0 m pc ls (.int (nI 0) :: .ref a :: rest)) := by
  refine va_lald hx hb hE.K hP q0 2 ha rfl (vp_in_nI (by omega) (by omega)) d ?_
  show W p l e R s m args below meth c H locs cells slots Q (F0 m (pc + 1) ls (.long (f 0) :: rest))
  rw [hv]
  exact kk
theorem q_lcmp {x y : Int64} (hx : p.tables.exec = Jvm.exec) (hb : c.code = cc) (d : decode cc pc = .ok (.lcmp, 1)) (h : x = y)
    (kk : W p l e R s m args below meth c H locs cells slots Q (F0 m (pc + 1) ls (.int (nI 0) :: rest))) : W p l e R s m args below meth c H locs cells slots Q (F0 m pc ls (.long y :: .long x :: rest)) := by
  refine W.lcmp hx hb d ?_
  subst h
  have e : lg_cmp x x = nI 0 := by
    unfold lg_cmp
    rw [if_neg (by simp), if_pos rfl]; rfl
  rw [e]
  exact kk
end QZ
theorem q_swG {a b : va_W} {k : Nat} {q : Nat × va_E} (h : (b ++ a)[k]? = some q) : (a ++ b)[if k < b.length then a.length + k else k - b.length]? = some q := by
  by_cases c : k < b.length
  · rw [if_pos c, List.getElem?_append_right (Nat.le_add_right _ _), Nat.add_sub_cancel_left]
    rwa [List.getElem?_append_left c] at h
  · rw [if_neg c]
    rw [List.getElem?_append_right (Nat.le_of_not_lt c)] at h
    rw [List.getElem?_append_left (List.getElem?_eq_some_iff.mp h).1]
    exact h
theorem q_swP {D : va_G} {cl : List vw_C} {a b : va_W} {H : Heap} (hP : va_P D cl (a ++ b) H) : va_P D cl (b ++ a) H := fun _ q hk => hP _ q (q_swG hk)
theorem q_swD {A : Nat → Prop} {a b : va_W} (hD : va_D A (a ++ b)) : va_D A (b ++ a) := by
  refine ⟨fun i j x y hi hj exy => ?_, fun k q hk => hD.2 _ q (q_swG hk)⟩
  have h := hD.1 _ _ x y (q_swG hi) (q_swG hj) exy
  have l1 := (List.getElem?_eq_some_iff.mp hi).1
  have l2 := (List.getElem?_eq_some_iff.mp hj).1
  rw [List.length_append] at l1 l2
  split at h <;> split at h <;> omega
/-- what holds all along the law -/
def LC (p : Program) (l : Launch) (s : State) (m : MethodId) (c : Code) (b L : Nat) (xs : Nat → Int32) : Prop := p.tables.exec = Jvm.exec ∧ c.code = cL_law ∧ c.maxLocals = 9 ∧ s.vm.findClass RL = some m.cls ∧ (∀ w ∈ wsL_law, w.before #[Value.ref b] s = true) ∧ l.stackTraces = false ∧ va_X b L xs s s.heap ∧ b < s.heap.size ∧ L ≤ 2048
abbrev wL (g : gT) (am ad : Nat → Nat) (oa : Nat) (th mc : Int32) (M : Nat) (sig sa : Nat → Int32) (z : sT) (f : Nat → Int64) : va_W := wMo g am th sa z ++ oW g oa f :: wC g ad mc M sig z
/-- what holds between two steps of it -/
def LD (g : gT) (s : State) (am ad : Nat → Nat) (oa : Nat) (th mc : Int32) (M : Nat) (sig sa : Nat → Int32) (z : sT) (f : Nat → Int64) (H : Heap) (locs : List Loc) : Prop := IV z M sig sa ∧ va_P g.1 vwCl (wL g am ad oa th mc M sig sa z f) H ∧ va_D (q_n s.heap) (wL g am ad oa th mc M sig sa z f) ∧ va_S (q_n s.heap) s.heap H locs ∧ Ev g (q_n s.heap) s H
abbrev lL (n b x0 a0 oa : Nat) : List (Nat × Value) := [(4, .int (nI n)), (0, .ref b), (1, .ref x0), (2, .ref a0), (3, .ref oa)]
def LK (p : Program) (l : Launch) (e : Env) (s : State) (m : MethodId) (below : List Frame) (meth : Method) (c : Code) (g : gT) (b : Nat) (am : Nat → Nat) (oa x0 n cells slots : Nat) (Q : State → Prop) : Prop := ∀ (ad : Nat → Nat) (th mc : Int32) (M : Nat) (sig sa : Nat → Int32) (z : sT) (f : Nat → Int64) (H : Heap) (locs : List Loc) (ls : Array Slot), ad 0 = x0 → LD g s am ad oa th mc M sig sa z f H locs → lv_has ls 9 (lL n b x0 (am 0) oa) → W p l e room_1 s m #[Value.ref b] below meth c H locs (cells + 3) (slots + 27) Q (F0 m 1379 ls [])
set_option maxHeartbeats 4000000 in
set_option maxRecDepth 100000 in
theorem lw_c0 {p : Program} {l : Launch} {e : Env} {s : State} {m : MethodId} {below : List Frame} {meth : Method} {c : Code} {H : Heap} {locs : List Loc} {Q : State → Prop} {ls : Array Slot} {g : gT} {am ad : Nat → Nat} {oa : Nat} {th mc : Int32} {M : Nat} {sig sa : Nat → Int32} {z : sT} {f : Nat → Int64} {b L i cells slots : Nat} {xs : Nat → Int32} (C : LC p l s m c b L xs) (D : LD g s am ad oa th mc M sig sa z f H locs) (hi : 4 * i + 4 ≤ L) (hc : cells + 3 ≤ 601024) (hs : slots + 27 ≤ 7293034) (hl : lv_has ls 9 (lL (4 * i) b (ad 0) (am 0) oa)) (kk : LK p l e s m below meth c g b am oa (ad 0) (4 * i) cells slots Q) {q_ : Nat} (hq_ : q_ ≤ 4) (e1 : xs (4 * i + 1) = nI q_) : W p l e room_1 s m #[Value.ref b] below meth c H locs cells slots Q (F0 m 132 ls []) := by
  obtain ⟨hx, hb, hml, hown, hts, hl0, hX, hbl, hL⟩ := C
  obtain ⟨hIV, hP, hD, hS, hE⟩ := D
  have hV := hIV.1
  have hM := hIV.2.1
  have hR := hIV.2.2.1
  have hK := hIV.K
  have hn := hV.n
  have hbA : ¬ q_n s.heap b := Nat.not_le.mpr hbl
  have hA : ∀ q, s.heap.size ≤ q → q_n s.heap q := fun _ h => h
  refine lv_aload_n hx hb dL_law_132 rfl (lv_at hl 2 rfl) ?_
  refine lv_aload_n hx hb dL_law_133 rfl (lv_at hl 1 rfl) ?_
  refine lv_iload hx hb dL_law_134 (lv_at hl 0 rfl) ?_
  refine lv_iconst (v := nI 1) hx hb dL_law_136 (by decide) ?_
  refine q_iadd (v := nI (4 * i + 1)) hx hb dL_law_137 (nI_add _ _) ?_
  refine q_sld (v := nI q_) hx hb hX hbl hbA hS (by omega) hL dL_law_138 e1 ?_
  refine lv_aload_n hx hb dL_law_139 rfl (lv_at hl 4 rfl) ?_
  refine q_wrSW (wr := wMo g am th sa z) (As := [.ref (ad 0), .int (nI q_), .ref oa]) (rest := []) ⟨hx, hb, hml, hown, hts⟩ (w_L_setCodes hM hV hq_) (vx_cwSW 3 hts gL_law_L_setCodes rfl rfl rfl (by decide +kernel) ⟨Nat.le_of_ble_eq_true rfl, Nat.le_of_ble_eq_true rfl⟩) hE hP hD hS hA rfl hl.1 rfl (Nat.le_of_ble_eq_true rfl) dL_law_140 ⟨by show _ ≤ 601024; omega, by show _ ≤ 7293034; omega⟩ (fun _u H locs hP hD hS hE => ?_)
  have hP : va_P g.1 vwCl (wMo g am th sa z ++ (oW g oa (vp_updL f 0 (nI (sL z)).toInt64) :: wC g ad (mc + nI 1) (min M 1) (fillF sig (nI 0) 207) (zcl z (2 ^ q_)))) H := hP
  have hD : va_D (q_n s.heap) (wMo g am th sa z ++ (oW g oa (vp_updL f 0 (nI (sL z)).toInt64) :: wC g ad (mc + nI 1) (min M 1) (fillF sig (nI 0) 207) (zcl z (2 ^ q_)))) := hD
  refine lv_istore (lv' := [(5, .int (nI 0)), (4, .int (nI (4 * i))), (0, .ref b), (1, .ref (ad 0)), (2, .ref (am 0)), (3, .ref oa)]) hx hb dL_law_143 hl (by decide) rfl (fun ls hl => ?_)
  refine lv_aload_n hx hb dL_law_145 rfl (lv_at hl 4 rfl) ?_
  refine lv_aload_n hx hb dL_law_146 rfl (lv_at hl 2 rfl) ?_
  refine lv_iload hx hb dL_law_147 (lv_at hl 1 rfl) ?_
  refine lv_iconst (v := nI 1) hx hb dL_law_149 (by decide) ?_
  refine q_iadd (v := nI (4 * i + 1)) hx hb dL_law_150 (nI_add _ _) ?_
  refine q_sld (v := nI q_) hx hb hX hbl hbA hS (by omega) hL dL_law_151 e1 ?_
  have hr0 := va_recv hE.K hP (ci := 5) (q0 := 0) rfl rfl
  have hP := q_swP hP
  have hD := q_swD hD
  refine q_wrV (wr := (oW g oa (vp_updL f 0 (nI (sL z)).toInt64) :: wC g ad (mc + nI 1) (min M 1) (fillF sig (nI 0) 207) (zcl z (2 ^ q_)))) (As := [.int (nI q_)]) (rest := []) ⟨hx, hb, hml, hown, hts⟩ (c_X4_setCodes hV hR hq_) (cwV 1 hts gL_law_X4_setCodes rfl rfl rfl (by decide +kernel) ⟨Nat.le_of_ble_eq_true rfl, Nat.le_of_ble_eq_true rfl⟩) hE hP hD hS hA hr0 rfl hl.1 rfl (Nat.le_of_ble_eq_true rfl) dL_law_152 ⟨by show _ ≤ 601024; omega, by show _ ≤ 7293034; omega⟩ (fun _u H locs hP hD hS hE => ?_)
  have hP : va_P g.1 vwCl (wMo g am (nI 0) sa (zcl z (2 ^ q_)) ++ (oW g oa (vp_updL f 0 (nI (sL z)).toInt64) :: wC g ad (mc + nI 1) (min M 1) (fillF sig (nI 0) 207) (zcl z (2 ^ q_)))) H := q_swP hP
  have hD : va_D (q_n s.heap) (wMo g am (nI 0) sa (zcl z (2 ^ q_)) ++ (oW g oa (vp_updL f 0 (nI (sL z)).toInt64) :: wC g ad (mc + nI 1) (min M 1) (fillF sig (nI 0) 207) (zcl z (2 ^ q_)))) := q_swD hD
  refine lv_istore (lv' := [(6, .int (nI (sL z))), (5, .int (nI 0)), (4, .int (nI (4 * i))), (0, .ref b), (1, .ref (ad 0)), (2, .ref (am 0)), (3, .ref oa)]) hx hb dL_law_155 hl (by decide) rfl (fun ls hl => ?_)
  refine lv_aload_n hx hb dL_law_157 rfl (lv_at hl 5 rfl) ?_
  refine q_roV (As := []) (rest := []) ⟨hx, hb, hml, hown, hts⟩ (c_X4_thrown (am := am) (th := nI 0) (sa := sa) (z := zcl z (2 ^ q_))) (cwV 0 hts gL_law_X4_thrown rfl rfl rfl (by decide +kernel) ⟨Nat.le_of_ble_eq_true rfl, Nat.le_of_ble_eq_true rfl⟩) hE (fun q h => hA q (Nat.le_trans hS.1 h)) (fun k q h => hP k q (q_apL h)) (va_recv hE.K hP (ci := 5) (q0 := 0) rfl rfl) rfl hl.1 rfl (Nat.le_of_ble_eq_true rfl) dL_law_158 ⟨by show _ ≤ 601024; omega, by show _ ≤ 7293034; omega⟩ ?_
  refine lv_iload hx hb dL_law_161 (lv_at hl 1 rfl) ?_
  refine q_icmp_eq (tgt := 168) hx hb (by omega) (by omega) dL_law_163 (by decide) (fun c_1 => ?_) (fun c_1 => ?_)
  · refine lv_iload hx hb dL_law_168 (lv_at hl 1 rfl) ?_
    refine q_if_ne (tgt := 185) hx hb (by omega) dL_law_170 (by decide) (fun c_2 => ?_) (fun c_2 => ?_)
    · exact absurd c_2 (by decide)
    · refine lv_aload_n hx hb dL_law_173 rfl (lv_at hl 6 rfl) ?_
      refine lv_iconst (v := nI 0) hx hb dL_law_174 (by decide) ?_
      refine q_lald (v := (nI (sL z)).toInt64) (q0 := 7) hx hb hE hP rfl dL_law_175 (rfl) ?_
      refine lv_iload hx hb dL_law_176 (lv_at hl 0 rfl) ?_
      refine lv_i2l (v := (nI (sL z)).toInt64) hx hb dL_law_178 rfl ?_
      refine q_lcmp hx hb dL_law_179 rfl ?_
      refine q_if_eq (tgt := 185) hx hb (by omega) dL_law_180 (by decide) (fun c_3 => ?_) (fun c_3 => ?_)
      · refine lv_goto (tgt := 1379) hx hb dL_law_185 (by decide) ?_
        exact W.widen (k := cells + 3) (n := slots + 27) (by omega) (by omega) (kk (ad) (nI 0) (mc + nI 1) (min M 1) (fillF sig (nI 0) 207) (sa) (zcl z (2 ^ q_)) (vp_updL f 0 (nI (sL z)).toInt64) H locs _ (rfl) ⟨hIV.cl hq_, hP, hD, hS, hE⟩ (lv_sub hl [2, 3, 4, 5, 6] rfl))
      · exact absurd c_3 (by omega)
  · exact absurd rfl c_1
set_option maxHeartbeats 4000000 in
set_option maxRecDepth 100000 in
theorem lw_c0_1 {p : Program} {l : Launch} {e : Env} {s : State} {m : MethodId} {below : List Frame} {meth : Method} {c : Code} {H : Heap} {locs : List Loc} {Q : State → Prop} {ls : Array Slot} {g : gT} {am ad : Nat → Nat} {oa : Nat} {th mc : Int32} {M : Nat} {sig sa : Nat → Int32} {z : sT} {f : Nat → Int64} {b L i cells slots : Nat} {xs : Nat → Int32} (C : LC p l s m c b L xs) (D : LD g s am ad oa th mc M sig sa z f H locs) (hi : 4 * i + 4 ≤ L) (hc : cells + 3 ≤ 601024) (hs : slots + 27 ≤ 7293034) (hl : lv_has ls 9 (lL (4 * i) b (ad 0) (am 0) oa)) (kk : LK p l e s m below meth c g b am oa (ad 0) (4 * i) cells slots Q) (hx_ : ¬ inB (xs (4 * i + 1)) 0 4) : W p l e room_1 s m #[Value.ref b] below meth c H locs cells slots Q (F0 m 132 ls []) := by
  obtain ⟨hx, hb, hml, hown, hts, hl0, hX, hbl, hL⟩ := C
  obtain ⟨hIV, hP, hD, hS, hE⟩ := D
  have hV := hIV.1
  have hM := hIV.2.1
  have hR := hIV.2.2.1
  have hK := hIV.K
  have hn := hV.n
  have hbA : ¬ q_n s.heap b := Nat.not_le.mpr hbl
  have hA : ∀ q, s.heap.size ≤ q → q_n s.heap q := fun _ h => h
  refine lv_aload_n hx hb dL_law_132 rfl (lv_at hl 2 rfl) ?_
  refine lv_aload_n hx hb dL_law_133 rfl (lv_at hl 1 rfl) ?_
  refine lv_iload hx hb dL_law_134 (lv_at hl 0 rfl) ?_
  refine lv_iconst (v := nI 1) hx hb dL_law_136 (by decide) ?_
  refine q_iadd (v := nI (4 * i + 1)) hx hb dL_law_137 (nI_add _ _) ?_
  refine q_sld (v := xs (4 * i + 1)) hx hb hX hbl hbA hS (by omega) hL dL_law_138 rfl ?_
  refine lv_aload_n hx hb dL_law_139 rfl (lv_at hl 4 rfl) ?_
  refine q_wrSW (wr := wMo g am th sa z) (As := [.ref (ad 0), .int (xs (4 * i + 1)), .ref oa]) (rest := []) ⟨hx, hb, hml, hown, hts⟩ (w_L_setCodes_1 hl0 hM hV hx_) (vx_cwSW 3 hts gL_law_L_setCodes rfl rfl rfl (by decide +kernel) ⟨Nat.le_of_ble_eq_true rfl, Nat.le_of_ble_eq_true rfl⟩) hE hP hD hS hA rfl hl.1 rfl (Nat.le_of_ble_eq_true rfl) dL_law_140 ⟨by show _ ≤ 601024; omega, by show _ ≤ 7293034; omega⟩ (fun _u H locs hP hD hS hE => ?_)
  have hP : va_P g.1 vwCl (wMo g am th sa z ++ (oW g oa (f) :: wC g ad mc M sig z)) H := hP
  have hD : va_D (q_n s.heap) (wMo g am th sa z ++ (oW g oa (f) :: wC g ad mc M sig z)) := hD
  refine lv_istore (lv' := [(5, .int (nI 1)), (4, .int (nI (4 * i))), (0, .ref b), (1, .ref (ad 0)), (2, .ref (am 0)), (3, .ref oa)]) hx hb dL_law_143 hl (by decide) rfl (fun ls hl => ?_)
  refine lv_aload_n hx hb dL_law_145 rfl (lv_at hl 4 rfl) ?_
  refine lv_aload_n hx hb dL_law_146 rfl (lv_at hl 2 rfl) ?_
  refine lv_iload hx hb dL_law_147 (lv_at hl 1 rfl) ?_
  refine lv_iconst (v := nI 1) hx hb dL_law_149 (by decide) ?_
  refine q_iadd (v := nI (4 * i + 1)) hx hb dL_law_150 (nI_add _ _) ?_
  refine q_sld (v := xs (4 * i + 1)) hx hb hX hbl hbA hS (by omega) hL dL_law_151 rfl ?_
  have hr0 := va_recv hE.K hP (ci := 5) (q0 := 0) rfl rfl
  have hP := q_swP hP
  have hD := q_swD hD
  refine q_wrV (wr := (oW g oa (f) :: wC g ad mc M sig z)) (As := [.int (xs (4 * i + 1))]) (rest := []) ⟨hx, hb, hml, hown, hts⟩ (cn_X4_setCodes_1 hV hR hx_) (cwV 1 hts gL_law_X4_setCodes rfl rfl rfl (by decide +kernel) ⟨Nat.le_of_ble_eq_true rfl, Nat.le_of_ble_eq_true rfl⟩) hE hP hD hS hA hr0 rfl hl.1 rfl (Nat.le_of_ble_eq_true rfl) dL_law_152 ⟨by show _ ≤ 601024; omega, by show _ ≤ 7293034; omega⟩ (fun _u H locs hP hD hS hE => ?_)
  have hP : va_P g.1 vwCl (wMo g am (nI 1) sa z ++ (oW g oa (f) :: wC g ad mc M sig z)) H := q_swP hP
  have hD : va_D (q_n s.heap) (wMo g am (nI 1) sa z ++ (oW g oa (f) :: wC g ad mc M sig z)) := q_swD hD
  refine lv_istore (lv' := [(6, .int (nI 0)), (5, .int (nI 1)), (4, .int (nI (4 * i))), (0, .ref b), (1, .ref (ad 0)), (2, .ref (am 0)), (3, .ref oa)]) hx hb dL_law_155 hl (by decide) rfl (fun ls hl => ?_)
  refine lv_aload_n hx hb dL_law_157 rfl (lv_at hl 5 rfl) ?_
  refine q_roV (As := []) (rest := []) ⟨hx, hb, hml, hown, hts⟩ (c_X4_thrown (am := am) (th := nI 1) (sa := sa) (z := z)) (cwV 0 hts gL_law_X4_thrown rfl rfl rfl (by decide +kernel) ⟨Nat.le_of_ble_eq_true rfl, Nat.le_of_ble_eq_true rfl⟩) hE (fun q h => hA q (Nat.le_trans hS.1 h)) (fun k q h => hP k q (q_apL h)) (va_recv hE.K hP (ci := 5) (q0 := 0) rfl rfl) rfl hl.1 rfl (Nat.le_of_ble_eq_true rfl) dL_law_158 ⟨by show _ ≤ 601024; omega, by show _ ≤ 7293034; omega⟩ ?_
  refine lv_iload hx hb dL_law_161 (lv_at hl 1 rfl) ?_
  refine q_icmp_eq (tgt := 168) hx hb (by omega) (by omega) dL_law_163 (by decide) (fun c_1 => ?_) (fun c_1 => ?_)
  · refine lv_iload hx hb dL_law_168 (lv_at hl 1 rfl) ?_
    refine q_if_ne (tgt := 185) hx hb (by omega) dL_law_170 (by decide) (fun c_2 => ?_) (fun c_2 => ?_)
    · refine lv_goto (tgt := 1379) hx hb dL_law_185 (by decide) ?_
      exact W.widen (k := cells + 3) (n := slots + 27) (by omega) (by omega) (kk (ad) (nI 1) (mc) (M) (sig) (sa) (z) (f) H locs _ (rfl) ⟨hIV, hP, hD, hS, hE⟩ (lv_sub hl [2, 3, 4, 5, 6] rfl))
    · exact absurd c_2 (by decide)
  · exact absurd rfl c_1
set_option maxHeartbeats 4000000 in
set_option maxRecDepth 100000 in
theorem lw_c1 {p : Program} {l : Launch} {e : Env} {s : State} {m : MethodId} {below : List Frame} {meth : Method} {c : Code} {H : Heap} {locs : List Loc} {Q : State → Prop} {ls : Array Slot} {g : gT} {am ad : Nat → Nat} {oa : Nat} {th mc : Int32} {M : Nat} {sig sa : Nat → Int32} {z : sT} {f : Nat → Int64} {b L i cells slots : Nat} {xs : Nat → Int32} (C : LC p l s m c b L xs) (D : LD g s am ad oa th mc M sig sa z f H locs) (hi : 4 * i + 4 ≤ L) (hc : cells + 3 ≤ 601024) (hs : slots + 27 ≤ 7293034) (hl : lv_has ls 9 (lL (4 * i) b (ad 0) (am 0) oa)) (kk : LK p l e s m below meth c g b am oa (ad 0) (4 * i) cells slots Q) {a s_ : Nat} (ha_ : a < sL z) (h1_ : 1 ≤ s_) (h9_ : s_ ≤ 9) (hn_ : sn z < 8) (e1 : xs (4 * i + 1) = nI a) (e2 : xs (4 * i + 2) = nI s_) : W p l e room_1 s m #[Value.ref b] below meth c H locs cells slots Q (F0 m 188 ls []) := by
  obtain ⟨hx, hb, hml, hown, hts, hl0, hX, hbl, hL⟩ := C
  obtain ⟨hIV, hP, hD, hS, hE⟩ := D
  have hV := hIV.1
  have hM := hIV.2.1
  have hR := hIV.2.2.1
  have hK := hIV.K
  have hn := hV.n
  have hbA : ¬ q_n s.heap b := Nat.not_le.mpr hbl
  have hA : ∀ q, s.heap.size ≤ q → q_n s.heap q := fun _ h => h
  refine lv_aload_n hx hb dL_law_188 rfl (lv_at hl 2 rfl) ?_
  refine lv_aload_n hx hb dL_law_189 rfl (lv_at hl 1 rfl) ?_
  refine lv_iload hx hb dL_law_190 (lv_at hl 0 rfl) ?_
  refine lv_iconst (v := nI 1) hx hb dL_law_192 (by decide) ?_
  refine q_iadd (v := nI (4 * i + 1)) hx hb dL_law_193 (nI_add _ _) ?_
  refine q_sld (v := nI a) hx hb hX hbl hbA hS (by omega) hL dL_law_194 e1 ?_
  refine lv_aload_n hx hb dL_law_195 rfl (lv_at hl 1 rfl) ?_
  refine lv_iload hx hb dL_law_196 (lv_at hl 0 rfl) ?_
  refine lv_iconst (v := nI 2) hx hb dL_law_198 (by decide) ?_
  refine q_iadd (v := nI (4 * i + 2)) hx hb dL_law_199 (nI_add _ _) ?_
  refine q_sld (v := nI s_) hx hb hX hbl hbA hS (by omega) hL dL_law_200 e2 ?_
  refine lv_aload_n hx hb dL_law_201 rfl (lv_at hl 4 rfl) ?_
  refine q_wrSW (wr := wMo g am th sa z) (As := [.ref (ad 0), .int (nI a), .int (nI s_), .ref oa]) (rest := []) ⟨hx, hb, hml, hown, hts⟩ (w_L_hill hM hV ha_ h1_ h9_ hn_) (vx_cwSW 4 hts gL_law_L_hill rfl rfl rfl (by decide +kernel) ⟨Nat.le_of_ble_eq_true rfl, Nat.le_of_ble_eq_true rfl⟩) hE hP hD hS hA rfl hl.1 rfl (Nat.le_of_ble_eq_true rfl) dL_law_202 ⟨by show _ ≤ 601024; omega, by show _ ≤ 7293034; omega⟩ (fun u_ H locs hP hD hS hE => ?_)
  have hP : va_P g.1 vwCl (wMo g am th sa z ++ (oW g oa (vp_updL f 0 (nI (sn z)).toInt64) :: wC g (adH ad (sn z) u_.1 u_.2.1 u_.2.2) (mc + nI 1) (2 * sn z + 3) sig (zhl z a s_))) H := hP
  have hD : va_D (q_n s.heap) (wMo g am th sa z ++ (oW g oa (vp_updL f 0 (nI (sn z)).toInt64) :: wC g (adH ad (sn z) u_.1 u_.2.1 u_.2.2) (mc + nI 1) (2 * sn z + 3) sig (zhl z a s_))) := hD
  refine lv_istore (lv' := [(5, .int (nI 0)), (4, .int (nI (4 * i))), (0, .ref b), (1, .ref (ad 0)), (2, .ref (am 0)), (3, .ref oa)]) hx hb dL_law_205 hl (by decide) rfl (fun ls hl => ?_)
  refine lv_aload_n hx hb dL_law_207 rfl (lv_at hl 4 rfl) ?_
  refine lv_aload_n hx hb dL_law_208 rfl (lv_at hl 2 rfl) ?_
  refine lv_iload hx hb dL_law_209 (lv_at hl 1 rfl) ?_
  refine lv_iconst (v := nI 1) hx hb dL_law_211 (by decide) ?_
  refine q_iadd (v := nI (4 * i + 1)) hx hb dL_law_212 (nI_add _ _) ?_
  refine q_sld (v := nI a) hx hb hX hbl hbA hS (by omega) hL dL_law_213 e1 ?_
  refine lv_aload_n hx hb dL_law_214 rfl (lv_at hl 2 rfl) ?_
  refine lv_iload hx hb dL_law_215 (lv_at hl 1 rfl) ?_
  refine lv_iconst (v := nI 2) hx hb dL_law_217 (by decide) ?_
  refine q_iadd (v := nI (4 * i + 2)) hx hb dL_law_218 (nI_add _ _) ?_
  refine q_sld (v := nI s_) hx hb hX hbl hbA hS (by omega) hL dL_law_219 e2 ?_
  have hr0 := va_recv hE.K hP (ci := 5) (q0 := 0) rfl rfl
  have hP := q_swP hP
  have hD := q_swD hD
  refine q_wrV (wr := (oW g oa (vp_updL f 0 (nI (sn z)).toInt64) :: wC g (adH ad (sn z) u_.1 u_.2.1 u_.2.2) (mc + nI 1) (2 * sn z + 3) sig (zhl z a s_))) (As := [.int (nI a), .int (nI s_)]) (rest := []) ⟨hx, hb, hml, hown, hts⟩ (c_X4_hill hV hR ha_ h1_ h9_ hn_) (cwV 2 hts gL_law_X4_hill rfl rfl rfl (by decide +kernel) ⟨Nat.le_of_ble_eq_true rfl, Nat.le_of_ble_eq_true rfl⟩) hE hP hD hS hA hr0 rfl hl.1 rfl (Nat.le_of_ble_eq_true rfl) dL_law_220 ⟨by show _ ≤ 601024; omega, by show _ ≤ 7293034; omega⟩ (fun _u H locs hP hD hS hE => ?_)
  have hP : va_P g.1 vwCl (wMo g am (nI 0) sa (zhl z a s_) ++ (oW g oa (vp_updL f 0 (nI (sn z)).toInt64) :: wC g (adH ad (sn z) u_.1 u_.2.1 u_.2.2) (mc + nI 1) (2 * sn z + 3) sig (zhl z a s_))) H := q_swP hP
  have hD : va_D (q_n s.heap) (wMo g am (nI 0) sa (zhl z a s_) ++ (oW g oa (vp_updL f 0 (nI (sn z)).toInt64) :: wC g (adH ad (sn z) u_.1 u_.2.1 u_.2.2) (mc + nI 1) (2 * sn z + 3) sig (zhl z a s_))) := q_swD hD
  refine lv_istore (lv' := [(6, .int (nI (sn z))), (5, .int (nI 0)), (4, .int (nI (4 * i))), (0, .ref b), (1, .ref (ad 0)), (2, .ref (am 0)), (3, .ref oa)]) hx hb dL_law_223 hl (by decide) rfl (fun ls hl => ?_)
  refine lv_aload_n hx hb dL_law_225 rfl (lv_at hl 5 rfl) ?_
  refine q_roV (As := []) (rest := []) ⟨hx, hb, hml, hown, hts⟩ (c_X4_thrown (am := am) (th := nI 0) (sa := sa) (z := zhl z a s_)) (cwV 0 hts gL_law_X4_thrown rfl rfl rfl (by decide +kernel) ⟨Nat.le_of_ble_eq_true rfl, Nat.le_of_ble_eq_true rfl⟩) hE (fun q h => hA q (Nat.le_trans hS.1 h)) (fun k q h => hP k q (q_apL h)) (va_recv hE.K hP (ci := 5) (q0 := 0) rfl rfl) rfl hl.1 rfl (Nat.le_of_ble_eq_true rfl) dL_law_226 ⟨by show _ ≤ 601024; omega, by show _ ≤ 7293034; omega⟩ ?_
  refine lv_iload hx hb dL_law_229 (lv_at hl 1 rfl) ?_
  refine q_icmp_eq (tgt := 236) hx hb (by omega) (by omega) dL_law_231 (by decide) (fun c_1 => ?_) (fun c_1 => ?_)
  · refine lv_iload hx hb dL_law_236 (lv_at hl 1 rfl) ?_
    refine q_if_ne (tgt := 253) hx hb (by omega) dL_law_238 (by decide) (fun c_2 => ?_) (fun c_2 => ?_)
    · exact absurd c_2 (by decide)
    · refine lv_aload_n hx hb dL_law_241 rfl (lv_at hl 6 rfl) ?_
      refine lv_iconst (v := nI 0) hx hb dL_law_242 (by decide) ?_
      refine q_lald (v := (nI (sn z)).toInt64) (q0 := 7) hx hb hE hP rfl dL_law_243 (rfl) ?_
      refine lv_iload hx hb dL_law_244 (lv_at hl 0 rfl) ?_
      refine lv_i2l (v := (nI (sn z)).toInt64) hx hb dL_law_246 rfl ?_
      refine q_lcmp hx hb dL_law_247 rfl ?_
      refine q_if_eq (tgt := 253) hx hb (by omega) dL_law_248 (by decide) (fun c_3 => ?_) (fun c_3 => ?_)
      · refine lv_goto (tgt := 1379) hx hb dL_law_253 (by decide) ?_
        exact W.widen (k := cells + 3) (n := slots + 27) (by omega) (by omega) (kk (adH ad (sn z) u_.1 u_.2.1 u_.2.2) (nI 0) (mc + nI 1) (2 * sn z + 3) (sig) (sa) (zhl z a s_) (vp_updL f 0 (nI (sn z)).toInt64) H locs _ (adH_lo (by omega) (by omega)) ⟨hIV.hl hn_ ha_ h1_ h9_, hP, hD, hS, hE⟩ (lv_sub hl [2, 3, 4, 5, 6] rfl))
      · exact absurd c_3 (by omega)
  · exact absurd rfl c_1
set_option maxHeartbeats 4000000 in
set_option maxRecDepth 100000 in
theorem lw_c1_1 {p : Program} {l : Launch} {e : Env} {s : State} {m : MethodId} {below : List Frame} {meth : Method} {c : Code} {H : Heap} {locs : List Loc} {Q : State → Prop} {ls : Array Slot} {g : gT} {am ad : Nat → Nat} {oa : Nat} {th mc : Int32} {M : Nat} {sig sa : Nat → Int32} {z : sT} {f : Nat → Int64} {b L i cells slots : Nat} {xs : Nat → Int32} (C : LC p l s m c b L xs) (D : LD g s am ad oa th mc M sig sa z f H locs) (hi : 4 * i + 4 ≤ L) (hc : cells + 3 ≤ 601024) (hs : slots + 27 ≤ 7293034) (hl : lv_has ls 9 (lL (4 * i) b (ad 0) (am 0) oa)) (kk : LK p l e s m below meth c g b am oa (ad 0) (4 * i) cells slots Q) (hx_ : ¬ inR (xs (4 * i + 1)) (sL z)) : W p l e room_1 s m #[Value.ref b] below meth c H locs cells slots Q (F0 m 188 ls []) := by
  obtain ⟨hx, hb, hml, hown, hts, hl0, hX, hbl, hL⟩ := C
  obtain ⟨hIV, hP, hD, hS, hE⟩ := D
  have hV := hIV.1
  have hM := hIV.2.1
  have hR := hIV.2.2.1
  have hK := hIV.K
  have hn := hV.n
  have hbA : ¬ q_n s.heap b := Nat.not_le.mpr hbl
  have hA : ∀ q, s.heap.size ≤ q → q_n s.heap q := fun _ h => h
  refine lv_aload_n hx hb dL_law_188 rfl (lv_at hl 2 rfl) ?_
  refine lv_aload_n hx hb dL_law_189 rfl (lv_at hl 1 rfl) ?_
  refine lv_iload hx hb dL_law_190 (lv_at hl 0 rfl) ?_
  refine lv_iconst (v := nI 1) hx hb dL_law_192 (by decide) ?_
  refine q_iadd (v := nI (4 * i + 1)) hx hb dL_law_193 (nI_add _ _) ?_
  refine q_sld (v := xs (4 * i + 1)) hx hb hX hbl hbA hS (by omega) hL dL_law_194 rfl ?_
  refine lv_aload_n hx hb dL_law_195 rfl (lv_at hl 1 rfl) ?_
  refine lv_iload hx hb dL_law_196 (lv_at hl 0 rfl) ?_
  refine lv_iconst (v := nI 2) hx hb dL_law_198 (by decide) ?_
  refine q_iadd (v := nI (4 * i + 2)) hx hb dL_law_199 (nI_add _ _) ?_
  refine q_sld (v := xs (4 * i + 2)) hx hb hX hbl hbA hS (by omega) hL dL_law_200 rfl ?_
  refine lv_aload_n hx hb dL_law_201 rfl (lv_at hl 4 rfl) ?_
  refine q_wrSW (wr := wMo g am th sa z) (As := [.ref (ad 0), .int (xs (4 * i + 1)), .int (xs (4 * i + 2)), .ref oa]) (rest := []) ⟨hx, hb, hml, hown, hts⟩ (w_L_hill_1 hl0 hM hV hx_) (vx_cwSW 4 hts gL_law_L_hill rfl rfl rfl (by decide +kernel) ⟨Nat.le_of_ble_eq_true rfl, Nat.le_of_ble_eq_true rfl⟩) hE hP hD hS hA rfl hl.1 rfl (Nat.le_of_ble_eq_true rfl) dL_law_202 ⟨by show _ ≤ 601024; omega, by show _ ≤ 7293034; omega⟩ (fun _u H locs hP hD hS hE => ?_)
  have hP : va_P g.1 vwCl (wMo g am th sa z ++ (oW g oa (f) :: wC g ad mc M sig z)) H := hP
  have hD : va_D (q_n s.heap) (wMo g am th sa z ++ (oW g oa (f) :: wC g ad mc M sig z)) := hD
  refine lv_istore (lv' := [(5, .int (nI 1)), (4, .int (nI (4 * i))), (0, .ref b), (1, .ref (ad 0)), (2, .ref (am 0)), (3, .ref oa)]) hx hb dL_law_205 hl (by decide) rfl (fun ls hl => ?_)
  refine lv_aload_n hx hb dL_law_207 rfl (lv_at hl 4 rfl) ?_
  refine lv_aload_n hx hb dL_law_208 rfl (lv_at hl 2 rfl) ?_
  refine lv_iload hx hb dL_law_209 (lv_at hl 1 rfl) ?_
  refine lv_iconst (v := nI 1) hx hb dL_law_211 (by decide) ?_
  refine q_iadd (v := nI (4 * i + 1)) hx hb dL_law_212 (nI_add _ _) ?_
  refine q_sld (v := xs (4 * i + 1)) hx hb hX hbl hbA hS (by omega) hL dL_law_213 rfl ?_
  refine lv_aload_n hx hb dL_law_214 rfl (lv_at hl 2 rfl) ?_
  refine lv_iload hx hb dL_law_215 (lv_at hl 1 rfl) ?_
  refine lv_iconst (v := nI 2) hx hb dL_law_217 (by decide) ?_
  refine q_iadd (v := nI (4 * i + 2)) hx hb dL_law_218 (nI_add _ _) ?_
  refine q_sld (v := xs (4 * i + 2)) hx hb hX hbl hbA hS (by omega) hL dL_law_219 rfl ?_
  have hr0 := va_recv hE.K hP (ci := 5) (q0 := 0) rfl rfl
  have hP := q_swP hP
  have hD := q_swD hD
  refine q_wrV (wr := (oW g oa (f) :: wC g ad mc M sig z)) (As := [.int (xs (4 * i + 1)), .int (xs (4 * i + 2))]) (rest := []) ⟨hx, hb, hml, hown, hts⟩ (cn_X4_hill_1 hV hR hx_) (cwV 2 hts gL_law_X4_hill rfl rfl rfl (by decide +kernel) ⟨Nat.le_of_ble_eq_true rfl, Nat.le_of_ble_eq_true rfl⟩) hE hP hD hS hA hr0 rfl hl.1 rfl (Nat.le_of_ble_eq_true rfl) dL_law_220 ⟨by show _ ≤ 601024; omega, by show _ ≤ 7293034; omega⟩ (fun _u H locs hP hD hS hE => ?_)
  have hP : va_P g.1 vwCl (wMo g am (nI 1) sa z ++ (oW g oa (f) :: wC g ad mc M sig z)) H := q_swP hP
  have hD : va_D (q_n s.heap) (wMo g am (nI 1) sa z ++ (oW g oa (f) :: wC g ad mc M sig z)) := q_swD hD
  refine lv_istore (lv' := [(6, .int (nI 0)), (5, .int (nI 1)), (4, .int (nI (4 * i))), (0, .ref b), (1, .ref (ad 0)), (2, .ref (am 0)), (3, .ref oa)]) hx hb dL_law_223 hl (by decide) rfl (fun ls hl => ?_)
  refine lv_aload_n hx hb dL_law_225 rfl (lv_at hl 5 rfl) ?_
  refine q_roV (As := []) (rest := []) ⟨hx, hb, hml, hown, hts⟩ (c_X4_thrown (am := am) (th := nI 1) (sa := sa) (z := z)) (cwV 0 hts gL_law_X4_thrown rfl rfl rfl (by decide +kernel) ⟨Nat.le_of_ble_eq_true rfl, Nat.le_of_ble_eq_true rfl⟩) hE (fun q h => hA q (Nat.le_trans hS.1 h)) (fun k q h => hP k q (q_apL h)) (va_recv hE.K hP (ci := 5) (q0 := 0) rfl rfl) rfl hl.1 rfl (Nat.le_of_ble_eq_true rfl) dL_law_226 ⟨by show _ ≤ 601024; omega, by show _ ≤ 7293034; omega⟩ ?_
  refine lv_iload hx hb dL_law_229 (lv_at hl 1 rfl) ?_
  refine q_icmp_eq (tgt := 236) hx hb (by omega) (by omega) dL_law_231 (by decide) (fun c_1 => ?_) (fun c_1 => ?_)
  · refine lv_iload hx hb dL_law_236 (lv_at hl 1 rfl) ?_
    refine q_if_ne (tgt := 253) hx hb (by omega) dL_law_238 (by decide) (fun c_2 => ?_) (fun c_2 => ?_)
    · refine lv_goto (tgt := 1379) hx hb dL_law_253 (by decide) ?_
      exact W.widen (k := cells + 3) (n := slots + 27) (by omega) (by omega) (kk (ad) (nI 1) (mc) (M) (sig) (sa) (z) (f) H locs _ (rfl) ⟨hIV, hP, hD, hS, hE⟩ (lv_sub hl [2, 3, 4, 5, 6] rfl))
    · exact absurd c_2 (by decide)
  · exact absurd rfl c_1
set_option maxHeartbeats 4000000 in
set_option maxRecDepth 100000 in
theorem lw_c1_2 {p : Program} {l : Launch} {e : Env} {s : State} {m : MethodId} {below : List Frame} {meth : Method} {c : Code} {H : Heap} {locs : List Loc} {Q : State → Prop} {ls : Array Slot} {g : gT} {am ad : Nat → Nat} {oa : Nat} {th mc : Int32} {M : Nat} {sig sa : Nat → Int32} {z : sT} {f : Nat → Int64} {b L i cells slots : Nat} {xs : Nat → Int32} (C : LC p l s m c b L xs) (D : LD g s am ad oa th mc M sig sa z f H locs) (hi : 4 * i + 4 ≤ L) (hc : cells + 3 ≤ 601024) (hs : slots + 27 ≤ 7293034) (hl : lv_has ls 9 (lL (4 * i) b (ad 0) (am 0) oa)) (kk : LK p l e s m below meth c g b am oa (ad 0) (4 * i) cells slots Q) {a : Nat} (ha_ : a < sL z) (hx_ : ¬ inB (xs (4 * i + 2)) 1 9) (e1 : xs (4 * i + 1) = nI a) : W p l e room_1 s m #[Value.ref b] below meth c H locs cells slots Q (F0 m 188 ls []) := by
  obtain ⟨hx, hb, hml, hown, hts, hl0, hX, hbl, hL⟩ := C
  obtain ⟨hIV, hP, hD, hS, hE⟩ := D
  have hV := hIV.1
  have hM := hIV.2.1
  have hR := hIV.2.2.1
  have hK := hIV.K
  have hn := hV.n
  have hbA : ¬ q_n s.heap b := Nat.not_le.mpr hbl
  have hA : ∀ q, s.heap.size ≤ q → q_n s.heap q := fun _ h => h
  refine lv_aload_n hx hb dL_law_188 rfl (lv_at hl 2 rfl) ?_
  refine lv_aload_n hx hb dL_law_189 rfl (lv_at hl 1 rfl) ?_
  refine lv_iload hx hb dL_law_190 (lv_at hl 0 rfl) ?_
  refine lv_iconst (v := nI 1) hx hb dL_law_192 (by decide) ?_
  refine q_iadd (v := nI (4 * i + 1)) hx hb dL_law_193 (nI_add _ _) ?_
  refine q_sld (v := nI a) hx hb hX hbl hbA hS (by omega) hL dL_law_194 e1 ?_
  refine lv_aload_n hx hb dL_law_195 rfl (lv_at hl 1 rfl) ?_
  refine lv_iload hx hb dL_law_196 (lv_at hl 0 rfl) ?_
  refine lv_iconst (v := nI 2) hx hb dL_law_198 (by decide) ?_
  refine q_iadd (v := nI (4 * i + 2)) hx hb dL_law_199 (nI_add _ _) ?_
  refine q_sld (v := xs (4 * i + 2)) hx hb hX hbl hbA hS (by omega) hL dL_law_200 rfl ?_
  refine lv_aload_n hx hb dL_law_201 rfl (lv_at hl 4 rfl) ?_
  refine q_wrSW (wr := wMo g am th sa z) (As := [.ref (ad 0), .int (nI a), .int (xs (4 * i + 2)), .ref oa]) (rest := []) ⟨hx, hb, hml, hown, hts⟩ (w_L_hill_2 hl0 hM hV ha_ hx_) (vx_cwSW 4 hts gL_law_L_hill rfl rfl rfl (by decide +kernel) ⟨Nat.le_of_ble_eq_true rfl, Nat.le_of_ble_eq_true rfl⟩) hE hP hD hS hA rfl hl.1 rfl (Nat.le_of_ble_eq_true rfl) dL_law_202 ⟨by show _ ≤ 601024; omega, by show _ ≤ 7293034; omega⟩ (fun _u H locs hP hD hS hE => ?_)
  have hP : va_P g.1 vwCl (wMo g am th sa z ++ (oW g oa (f) :: wC g ad mc M sig z)) H := hP
  have hD : va_D (q_n s.heap) (wMo g am th sa z ++ (oW g oa (f) :: wC g ad mc M sig z)) := hD
  refine lv_istore (lv' := [(5, .int (nI 2)), (4, .int (nI (4 * i))), (0, .ref b), (1, .ref (ad 0)), (2, .ref (am 0)), (3, .ref oa)]) hx hb dL_law_205 hl (by decide) rfl (fun ls hl => ?_)
  refine lv_aload_n hx hb dL_law_207 rfl (lv_at hl 4 rfl) ?_
  refine lv_aload_n hx hb dL_law_208 rfl (lv_at hl 2 rfl) ?_
  refine lv_iload hx hb dL_law_209 (lv_at hl 1 rfl) ?_
  refine lv_iconst (v := nI 1) hx hb dL_law_211 (by decide) ?_
  refine q_iadd (v := nI (4 * i + 1)) hx hb dL_law_212 (nI_add _ _) ?_
  refine q_sld (v := nI a) hx hb hX hbl hbA hS (by omega) hL dL_law_213 e1 ?_
  refine lv_aload_n hx hb dL_law_214 rfl (lv_at hl 2 rfl) ?_
  refine lv_iload hx hb dL_law_215 (lv_at hl 1 rfl) ?_
  refine lv_iconst (v := nI 2) hx hb dL_law_217 (by decide) ?_
  refine q_iadd (v := nI (4 * i + 2)) hx hb dL_law_218 (nI_add _ _) ?_
  refine q_sld (v := xs (4 * i + 2)) hx hb hX hbl hbA hS (by omega) hL dL_law_219 rfl ?_
  have hr0 := va_recv hE.K hP (ci := 5) (q0 := 0) rfl rfl
  have hP := q_swP hP
  have hD := q_swD hD
  refine q_wrV (wr := (oW g oa (f) :: wC g ad mc M sig z)) (As := [.int (nI a), .int (xs (4 * i + 2))]) (rest := []) ⟨hx, hb, hml, hown, hts⟩ (cn_X4_hill_2 hV hR ha_ hx_) (cwV 2 hts gL_law_X4_hill rfl rfl rfl (by decide +kernel) ⟨Nat.le_of_ble_eq_true rfl, Nat.le_of_ble_eq_true rfl⟩) hE hP hD hS hA hr0 rfl hl.1 rfl (Nat.le_of_ble_eq_true rfl) dL_law_220 ⟨by show _ ≤ 601024; omega, by show _ ≤ 7293034; omega⟩ (fun _u H locs hP hD hS hE => ?_)
  have hP : va_P g.1 vwCl (wMo g am (nI 2) sa z ++ (oW g oa (f) :: wC g ad mc M sig z)) H := q_swP hP
  have hD : va_D (q_n s.heap) (wMo g am (nI 2) sa z ++ (oW g oa (f) :: wC g ad mc M sig z)) := q_swD hD
  refine lv_istore (lv' := [(6, .int (nI 0)), (5, .int (nI 2)), (4, .int (nI (4 * i))), (0, .ref b), (1, .ref (ad 0)), (2, .ref (am 0)), (3, .ref oa)]) hx hb dL_law_223 hl (by decide) rfl (fun ls hl => ?_)
  refine lv_aload_n hx hb dL_law_225 rfl (lv_at hl 5 rfl) ?_
  refine q_roV (As := []) (rest := []) ⟨hx, hb, hml, hown, hts⟩ (c_X4_thrown (am := am) (th := nI 2) (sa := sa) (z := z)) (cwV 0 hts gL_law_X4_thrown rfl rfl rfl (by decide +kernel) ⟨Nat.le_of_ble_eq_true rfl, Nat.le_of_ble_eq_true rfl⟩) hE (fun q h => hA q (Nat.le_trans hS.1 h)) (fun k q h => hP k q (q_apL h)) (va_recv hE.K hP (ci := 5) (q0 := 0) rfl rfl) rfl hl.1 rfl (Nat.le_of_ble_eq_true rfl) dL_law_226 ⟨by show _ ≤ 601024; omega, by show _ ≤ 7293034; omega⟩ ?_
  refine lv_iload hx hb dL_law_229 (lv_at hl 1 rfl) ?_
  refine q_icmp_eq (tgt := 236) hx hb (by omega) (by omega) dL_law_231 (by decide) (fun c_1 => ?_) (fun c_1 => ?_)
  · refine lv_iload hx hb dL_law_236 (lv_at hl 1 rfl) ?_
    refine q_if_ne (tgt := 253) hx hb (by omega) dL_law_238 (by decide) (fun c_2 => ?_) (fun c_2 => ?_)
    · refine lv_goto (tgt := 1379) hx hb dL_law_253 (by decide) ?_
      exact W.widen (k := cells + 3) (n := slots + 27) (by omega) (by omega) (kk (ad) (nI 2) (mc) (M) (sig) (sa) (z) (f) H locs _ (rfl) ⟨hIV, hP, hD, hS, hE⟩ (lv_sub hl [2, 3, 4, 5, 6] rfl))
    · exact absurd c_2 (by decide)
  · exact absurd rfl c_1
set_option maxHeartbeats 4000000 in
set_option maxRecDepth 100000 in
theorem lw_c1_3 {p : Program} {l : Launch} {e : Env} {s : State} {m : MethodId} {below : List Frame} {meth : Method} {c : Code} {H : Heap} {locs : List Loc} {Q : State → Prop} {ls : Array Slot} {g : gT} {am ad : Nat → Nat} {oa : Nat} {th mc : Int32} {M : Nat} {sig sa : Nat → Int32} {z : sT} {f : Nat → Int64} {b L i cells slots : Nat} {xs : Nat → Int32} (C : LC p l s m c b L xs) (D : LD g s am ad oa th mc M sig sa z f H locs) (hi : 4 * i + 4 ≤ L) (hc : cells + 3 ≤ 601024) (hs : slots + 27 ≤ 7293034) (hl : lv_has ls 9 (lL (4 * i) b (ad 0) (am 0) oa)) (kk : LK p l e s m below meth c g b am oa (ad 0) (4 * i) cells slots Q) {a s_ : Nat} (ha_ : a < sL z) (h1_ : 1 ≤ s_) (h9_ : s_ ≤ 9) (hn_ : sn z = 8) (e1 : xs (4 * i + 1) = nI a) (e2 : xs (4 * i + 2) = nI s_) : W p l e room_1 s m #[Value.ref b] below meth c H locs cells slots Q (F0 m 188 ls []) := by
  obtain ⟨hx, hb, hml, hown, hts, hl0, hX, hbl, hL⟩ := C
  obtain ⟨hIV, hP, hD, hS, hE⟩ := D
  have hV := hIV.1
  have hM := hIV.2.1
  have hR := hIV.2.2.1
  have hK := hIV.K
  have hn := hV.n
  have hbA : ¬ q_n s.heap b := Nat.not_le.mpr hbl
  have hA : ∀ q, s.heap.size ≤ q → q_n s.heap q := fun _ h => h
  refine lv_aload_n hx hb dL_law_188 rfl (lv_at hl 2 rfl) ?_
  refine lv_aload_n hx hb dL_law_189 rfl (lv_at hl 1 rfl) ?_
  refine lv_iload hx hb dL_law_190 (lv_at hl 0 rfl) ?_
  refine lv_iconst (v := nI 1) hx hb dL_law_192 (by decide) ?_
  refine q_iadd (v := nI (4 * i + 1)) hx hb dL_law_193 (nI_add _ _) ?_
  refine q_sld (v := nI a) hx hb hX hbl hbA hS (by omega) hL dL_law_194 e1 ?_
  refine lv_aload_n hx hb dL_law_195 rfl (lv_at hl 1 rfl) ?_
  refine lv_iload hx hb dL_law_196 (lv_at hl 0 rfl) ?_
  refine lv_iconst (v := nI 2) hx hb dL_law_198 (by decide) ?_
  refine q_iadd (v := nI (4 * i + 2)) hx hb dL_law_199 (nI_add _ _) ?_
  refine q_sld (v := nI s_) hx hb hX hbl hbA hS (by omega) hL dL_law_200 e2 ?_
  refine lv_aload_n hx hb dL_law_201 rfl (lv_at hl 4 rfl) ?_
  refine q_wrSW (wr := wMo g am th sa z) (As := [.ref (ad 0), .int (nI a), .int (nI s_), .ref oa]) (rest := []) ⟨hx, hb, hml, hown, hts⟩ (w_L_hill_3 hl0 hM hV ha_ h1_ h9_ (by omega)) (vx_cwSW 4 hts gL_law_L_hill rfl rfl rfl (by decide +kernel) ⟨Nat.le_of_ble_eq_true rfl, Nat.le_of_ble_eq_true rfl⟩) hE hP hD hS hA rfl hl.1 rfl (Nat.le_of_ble_eq_true rfl) dL_law_202 ⟨by show _ ≤ 601024; omega, by show _ ≤ 7293034; omega⟩ (fun _u H locs hP hD hS hE => ?_)
  have hP : va_P g.1 vwCl (wMo g am th sa z ++ (oW g oa (f) :: wC g ad mc M sig z)) H := hP
  have hD : va_D (q_n s.heap) (wMo g am th sa z ++ (oW g oa (f) :: wC g ad mc M sig z)) := hD
  refine lv_istore (lv' := [(5, .int (nI 3)), (4, .int (nI (4 * i))), (0, .ref b), (1, .ref (ad 0)), (2, .ref (am 0)), (3, .ref oa)]) hx hb dL_law_205 hl (by decide) rfl (fun ls hl => ?_)
  refine lv_aload_n hx hb dL_law_207 rfl (lv_at hl 4 rfl) ?_
  refine lv_aload_n hx hb dL_law_208 rfl (lv_at hl 2 rfl) ?_
  refine lv_iload hx hb dL_law_209 (lv_at hl 1 rfl) ?_
  refine lv_iconst (v := nI 1) hx hb dL_law_211 (by decide) ?_
  refine q_iadd (v := nI (4 * i + 1)) hx hb dL_law_212 (nI_add _ _) ?_
  refine q_sld (v := nI a) hx hb hX hbl hbA hS (by omega) hL dL_law_213 e1 ?_
  refine lv_aload_n hx hb dL_law_214 rfl (lv_at hl 2 rfl) ?_
  refine lv_iload hx hb dL_law_215 (lv_at hl 1 rfl) ?_
  refine lv_iconst (v := nI 2) hx hb dL_law_217 (by decide) ?_
  refine q_iadd (v := nI (4 * i + 2)) hx hb dL_law_218 (nI_add _ _) ?_
  refine q_sld (v := nI s_) hx hb hX hbl hbA hS (by omega) hL dL_law_219 e2 ?_
  have hr0 := va_recv hE.K hP (ci := 5) (q0 := 0) rfl rfl
  have hP := q_swP hP
  have hD := q_swD hD
  refine q_wrV (wr := (oW g oa (f) :: wC g ad mc M sig z)) (As := [.int (nI a), .int (nI s_)]) (rest := []) ⟨hx, hb, hml, hown, hts⟩ (cn_X4_hill_3 hV hR ha_ h1_ h9_ hn_) (cwV 2 hts gL_law_X4_hill rfl rfl rfl (by decide +kernel) ⟨Nat.le_of_ble_eq_true rfl, Nat.le_of_ble_eq_true rfl⟩) hE hP hD hS hA hr0 rfl hl.1 rfl (Nat.le_of_ble_eq_true rfl) dL_law_220 ⟨by show _ ≤ 601024; omega, by show _ ≤ 7293034; omega⟩ (fun _u H locs hP hD hS hE => ?_)
  have hP : va_P g.1 vwCl (wMo g am (nI 3) sa z ++ (oW g oa (f) :: wC g ad mc M sig z)) H := q_swP hP
  have hD : va_D (q_n s.heap) (wMo g am (nI 3) sa z ++ (oW g oa (f) :: wC g ad mc M sig z)) := q_swD hD
  refine lv_istore (lv' := [(6, .int (nI 0)), (5, .int (nI 3)), (4, .int (nI (4 * i))), (0, .ref b), (1, .ref (ad 0)), (2, .ref (am 0)), (3, .ref oa)]) hx hb dL_law_223 hl (by decide) rfl (fun ls hl => ?_)
  refine lv_aload_n hx hb dL_law_225 rfl (lv_at hl 5 rfl) ?_
  refine q_roV (As := []) (rest := []) ⟨hx, hb, hml, hown, hts⟩ (c_X4_thrown (am := am) (th := nI 3) (sa := sa) (z := z)) (cwV 0 hts gL_law_X4_thrown rfl rfl rfl (by decide +kernel) ⟨Nat.le_of_ble_eq_true rfl, Nat.le_of_ble_eq_true rfl⟩) hE (fun q h => hA q (Nat.le_trans hS.1 h)) (fun k q h => hP k q (q_apL h)) (va_recv hE.K hP (ci := 5) (q0 := 0) rfl rfl) rfl hl.1 rfl (Nat.le_of_ble_eq_true rfl) dL_law_226 ⟨by show _ ≤ 601024; omega, by show _ ≤ 7293034; omega⟩ ?_
  refine lv_iload hx hb dL_law_229 (lv_at hl 1 rfl) ?_
  refine q_icmp_eq (tgt := 236) hx hb (by omega) (by omega) dL_law_231 (by decide) (fun c_1 => ?_) (fun c_1 => ?_)
  · refine lv_iload hx hb dL_law_236 (lv_at hl 1 rfl) ?_
    refine q_if_ne (tgt := 253) hx hb (by omega) dL_law_238 (by decide) (fun c_2 => ?_) (fun c_2 => ?_)
    · refine lv_goto (tgt := 1379) hx hb dL_law_253 (by decide) ?_
      exact W.widen (k := cells + 3) (n := slots + 27) (by omega) (by omega) (kk (ad) (nI 3) (mc) (M) (sig) (sa) (z) (f) H locs _ (rfl) ⟨hIV, hP, hD, hS, hE⟩ (lv_sub hl [2, 3, 4, 5, 6] rfl))
    · exact absurd c_2 (by decide)
  · exact absurd rfl c_1
set_option maxHeartbeats 4000000 in
set_option maxRecDepth 100000 in
theorem lw_c2 {p : Program} {l : Launch} {e : Env} {s : State} {m : MethodId} {below : List Frame} {meth : Method} {c : Code} {H : Heap} {locs : List Loc} {Q : State → Prop} {ls : Array Slot} {g : gT} {am ad : Nat → Nat} {oa : Nat} {th mc : Int32} {M : Nat} {sig sa : Nat → Int32} {z : sT} {f : Nat → Int64} {b L i cells slots : Nat} {xs : Nat → Int32} (C : LC p l s m c b L xs) (D : LD g s am ad oa th mc M sig sa z f H locs) (hi : 4 * i + 4 ≤ L) (hc : cells + 3 ≤ 601024) (hs : slots + 27 ≤ 7293034) (hl : lv_has ls 9 (lL (4 * i) b (ad 0) (am 0) oa)) (kk : LK p l e s m below meth c g b am oa (ad 0) (4 * i) cells slots Q) {k : Nat} (hk_ : k < sn z) (hsd_ : ssd z k < 12) (e1 : xs (4 * i + 1) = nI k) : W p l e room_1 s m #[Value.ref b] below meth c H locs cells slots Q (F0 m 256 ls []) := by
  obtain ⟨hx, hb, hml, hown, hts, hl0, hX, hbl, hL⟩ := C
  obtain ⟨hIV, hP, hD, hS, hE⟩ := D
  have hV := hIV.1
  have hM := hIV.2.1
  have hR := hIV.2.2.1
  have hK := hIV.K
  have hn := hV.n
  have hbA : ¬ q_n s.heap b := Nat.not_le.mpr hbl
  have hA : ∀ q, s.heap.size ≤ q → q_n s.heap q := fun _ h => h
  refine lv_aload_n hx hb dL_law_256 rfl (lv_at hl 2 rfl) ?_
  refine lv_aload_n hx hb dL_law_257 rfl (lv_at hl 1 rfl) ?_
  refine lv_iload hx hb dL_law_258 (lv_at hl 0 rfl) ?_
  refine lv_iconst (v := nI 1) hx hb dL_law_260 (by decide) ?_
  refine q_iadd (v := nI (4 * i + 1)) hx hb dL_law_261 (nI_add _ _) ?_
  refine q_sld (v := nI k) hx hb hX hbl hbA hS (by omega) hL dL_law_262 e1 ?_
  refine lv_aload_n hx hb dL_law_263 rfl (lv_at hl 1 rfl) ?_
  refine lv_iload hx hb dL_law_264 (lv_at hl 0 rfl) ?_
  refine lv_iconst (v := nI 2) hx hb dL_law_266 (by decide) ?_
  refine q_iadd (v := nI (4 * i + 2)) hx hb dL_law_267 (nI_add _ _) ?_
  refine q_sld (v := xs (4 * i + 2)) hx hb hX hbl hbA hS (by omega) hL dL_law_268 rfl ?_
  refine lv_if_eq (tgt := 276) hx hb dL_law_269 (by decide) (fun c_y => ?_) (fun c_y => ?_)
  · refine lv_iconst (v := nI 0) hx hb dL_law_276 (by decide) ?_
    refine lv_aload_n hx hb dL_law_277 rfl (lv_at hl 4 rfl) ?_
    refine q_wrSW (wr := wMo g am th sa z) (As := [.ref (ad 0), .int (nI k), .int (nI 0), .ref oa]) (rest := []) ⟨hx, hb, hml, hown, hts⟩ (w_L_say hM hV hk_ hsd_ (y := 0) (by omega)) (vx_cwSW 4 hts gL_law_L_say rfl rfl rfl (by decide +kernel) ⟨Nat.le_of_ble_eq_true rfl, Nat.le_of_ble_eq_true rfl⟩) hE hP hD hS hA rfl hl.1 rfl (Nat.le_of_ble_eq_true rfl) dL_law_278 ⟨by show _ ≤ 601024; omega, by show _ ≤ 7293034; omega⟩ (fun _u H locs hP hD hS hE => ?_)
    have hP : va_P g.1 vwCl (wMo g am th sa z ++ (oW g oa (vp_updL f 0 (nI (ssd z k + 1)).toInt64) :: wC g ad mc M (adW sig (nI (ssr z k)) (zsay z k (sayX 0)) k (ssd z k) (sL z)) (zsay z k (sayX 0)))) H := hP
    have hD : va_D (q_n s.heap) (wMo g am th sa z ++ (oW g oa (vp_updL f 0 (nI (ssd z k + 1)).toInt64) :: wC g ad mc M (adW sig (nI (ssr z k)) (zsay z k (sayX 0)) k (ssd z k) (sL z)) (zsay z k (sayX 0)))) := hD
    refine lv_istore (lv' := [(5, .int (nI 0)), (4, .int (nI (4 * i))), (0, .ref b), (1, .ref (ad 0)), (2, .ref (am 0)), (3, .ref oa)]) hx hb dL_law_281 hl (by decide) rfl (fun ls hl => ?_)
    refine lv_aload_n hx hb dL_law_283 rfl (lv_at hl 4 rfl) ?_
    refine lv_aload_n hx hb dL_law_284 rfl (lv_at hl 2 rfl) ?_
    refine lv_iload hx hb dL_law_285 (lv_at hl 1 rfl) ?_
    refine lv_iconst (v := nI 1) hx hb dL_law_287 (by decide) ?_
    refine q_iadd (v := nI (4 * i + 1)) hx hb dL_law_288 (nI_add _ _) ?_
    refine q_sld (v := nI k) hx hb hX hbl hbA hS (by omega) hL dL_law_289 e1 ?_
    refine lv_aload_n hx hb dL_law_290 rfl (lv_at hl 2 rfl) ?_
    refine lv_iload hx hb dL_law_291 (lv_at hl 1 rfl) ?_
    refine lv_iconst (v := nI 2) hx hb dL_law_293 (by decide) ?_
    refine q_iadd (v := nI (4 * i + 2)) hx hb dL_law_294 (nI_add _ _) ?_
    refine q_sld (v := xs (4 * i + 2)) hx hb hX hbl hbA hS (by omega) hL dL_law_295 rfl ?_
    refine lv_if_eq (tgt := 303) hx hb dL_law_296 (by decide) (fun c_1 => ?_) (fun c_1 => ?_)
    · refine lv_iconst (v := nI 0) hx hb dL_law_303 (by decide) ?_
      have hr0 := va_recv hE.K hP (ci := 5) (q0 := 0) rfl rfl
      have hP := q_swP hP
      have hD := q_swD hD
      refine q_wrV (wr := (oW g oa (vp_updL f 0 (nI (ssd z k + 1)).toInt64) :: wC g ad mc M (adW sig (nI (ssr z k)) (zsay z k (sayX 0)) k (ssd z k) (sL z)) (zsay z k (sayX 0)))) (As := [.int (nI k), .int (nI 0)]) (rest := []) ⟨hx, hb, hml, hown, hts⟩ (c_X4_say hV hR hk_ hsd_ (y := 0) (by omega)) (cwV 2 hts gL_law_X4_say rfl rfl rfl (by decide +kernel) ⟨Nat.le_of_ble_eq_true rfl, Nat.le_of_ble_eq_true rfl⟩) hE hP hD hS hA hr0 rfl hl.1 rfl (Nat.le_of_ble_eq_true rfl) dL_law_304 ⟨by show _ ≤ 601024; omega, by show _ ≤ 7293034; omega⟩ (fun _u H locs hP hD hS hE => ?_)
      have hP : va_P g.1 vwCl (wMo g am (nI 0) (upd sa (12 * k + ssd z k) (sayX 0)) (zsay z k (sayX 0)) ++ (oW g oa (vp_updL f 0 (nI (ssd z k + 1)).toInt64) :: wC g ad mc M (adW sig (nI (ssr z k)) (zsay z k (sayX 0)) k (ssd z k) (sL z)) (zsay z k (sayX 0)))) H := q_swP hP
      have hD : va_D (q_n s.heap) (wMo g am (nI 0) (upd sa (12 * k + ssd z k) (sayX 0)) (zsay z k (sayX 0)) ++ (oW g oa (vp_updL f 0 (nI (ssd z k + 1)).toInt64) :: wC g ad mc M (adW sig (nI (ssr z k)) (zsay z k (sayX 0)) k (ssd z k) (sL z)) (zsay z k (sayX 0)))) := q_swD hD
      refine lv_istore (lv' := [(6, .int (nI (ssd z k + 1))), (5, .int (nI 0)), (4, .int (nI (4 * i))), (0, .ref b), (1, .ref (ad 0)), (2, .ref (am 0)), (3, .ref oa)]) hx hb dL_law_307 hl (by decide) rfl (fun ls hl => ?_)
      refine lv_aload_n hx hb dL_law_309 rfl (lv_at hl 5 rfl) ?_
      refine q_roV (As := []) (rest := []) ⟨hx, hb, hml, hown, hts⟩ (c_X4_thrown (am := am) (th := nI 0) (sa := upd sa (12 * k + ssd z k) (sayX 0)) (z := zsay z k (sayX 0))) (cwV 0 hts gL_law_X4_thrown rfl rfl rfl (by decide +kernel) ⟨Nat.le_of_ble_eq_true rfl, Nat.le_of_ble_eq_true rfl⟩) hE (fun q h => hA q (Nat.le_trans hS.1 h)) (fun k q h => hP k q (q_apL h)) (va_recv hE.K hP (ci := 5) (q0 := 0) rfl rfl) rfl hl.1 rfl (Nat.le_of_ble_eq_true rfl) dL_law_310 ⟨by show _ ≤ 601024; omega, by show _ ≤ 7293034; omega⟩ ?_
      refine lv_iload hx hb dL_law_313 (lv_at hl 1 rfl) ?_
      refine q_icmp_eq (tgt := 320) hx hb (by omega) (by omega) dL_law_315 (by decide) (fun c_2 => ?_) (fun c_2 => ?_)
      · refine lv_iload hx hb dL_law_320 (lv_at hl 1 rfl) ?_
        refine q_if_ne (tgt := 337) hx hb (by omega) dL_law_322 (by decide) (fun c_3 => ?_) (fun c_3 => ?_)
        · exact absurd c_3 (by decide)
        · refine lv_aload_n hx hb dL_law_325 rfl (lv_at hl 6 rfl) ?_
          refine lv_iconst (v := nI 0) hx hb dL_law_326 (by decide) ?_
          refine q_lald (v := (nI (ssd z k + 1)).toInt64) (q0 := 7) hx hb hE hP rfl dL_law_327 rfl ?_
          refine lv_iload hx hb dL_law_328 (lv_at hl 0 rfl) ?_
          refine lv_i2l (v := (nI (ssd z k + 1)).toInt64) hx hb dL_law_330 rfl ?_
          refine q_lcmp hx hb dL_law_331 rfl ?_
          refine q_if_eq (tgt := 337) hx hb (by omega) dL_law_332 (by decide) (fun c_4 => ?_) (fun c_4 => ?_)
          · refine lv_goto (tgt := 1379) hx hb dL_law_337 (by decide) ?_
            exact W.widen (k := cells + 3) (n := slots + 27) (by omega) (by omega) (kk ad (nI 0) mc M (adW sig (nI (ssr z k)) (zsay z k (sayX 0)) k (ssd z k) (sL z)) (upd sa (12 * k + ssd z k) (sayX 0)) (zsay z k (sayX 0)) (vp_updL f 0 (nI (ssd z k + 1)).toInt64) H locs _ rfl ⟨hIV.say hk_ hsd_, hP, hD, hS, hE⟩ (lv_sub hl [2, 3, 4, 5, 6] rfl))
          · exact absurd c_4 (by omega)
      · exact absurd rfl c_2
    · exact absurd c_y c_1
  · refine lv_iconst (v := nI 1) hx hb dL_law_272 (by decide) ?_
    refine lv_goto (tgt := 277) hx hb dL_law_273 (by decide) ?_
    refine lv_aload_n hx hb dL_law_277 rfl (lv_at hl 4 rfl) ?_
    refine q_wrSW (wr := wMo g am th sa z) (As := [.ref (ad 0), .int (nI k), .int (nI 1), .ref oa]) (rest := []) ⟨hx, hb, hml, hown, hts⟩ (w_L_say hM hV hk_ hsd_ (y := 1) (by omega)) (vx_cwSW 4 hts gL_law_L_say rfl rfl rfl (by decide +kernel) ⟨Nat.le_of_ble_eq_true rfl, Nat.le_of_ble_eq_true rfl⟩) hE hP hD hS hA rfl hl.1 rfl (Nat.le_of_ble_eq_true rfl) dL_law_278 ⟨by show _ ≤ 601024; omega, by show _ ≤ 7293034; omega⟩ (fun _u H locs hP hD hS hE => ?_)
    have hP : va_P g.1 vwCl (wMo g am th sa z ++ (oW g oa (vp_updL f 0 (nI (ssd z k + 1)).toInt64) :: wC g ad mc M (adW sig (nI (ssr z k)) (zsay z k (sayX 1)) k (ssd z k) (sL z)) (zsay z k (sayX 1)))) H := hP
    have hD : va_D (q_n s.heap) (wMo g am th sa z ++ (oW g oa (vp_updL f 0 (nI (ssd z k + 1)).toInt64) :: wC g ad mc M (adW sig (nI (ssr z k)) (zsay z k (sayX 1)) k (ssd z k) (sL z)) (zsay z k (sayX 1)))) := hD
    refine lv_istore (lv' := [(5, .int (nI 0)), (4, .int (nI (4 * i))), (0, .ref b), (1, .ref (ad 0)), (2, .ref (am 0)), (3, .ref oa)]) hx hb dL_law_281 hl (by decide) rfl (fun ls hl => ?_)
    refine lv_aload_n hx hb dL_law_283 rfl (lv_at hl 4 rfl) ?_
    refine lv_aload_n hx hb dL_law_284 rfl (lv_at hl 2 rfl) ?_
    refine lv_iload hx hb dL_law_285 (lv_at hl 1 rfl) ?_
    refine lv_iconst (v := nI 1) hx hb dL_law_287 (by decide) ?_
    refine q_iadd (v := nI (4 * i + 1)) hx hb dL_law_288 (nI_add _ _) ?_
    refine q_sld (v := nI k) hx hb hX hbl hbA hS (by omega) hL dL_law_289 e1 ?_
    refine lv_aload_n hx hb dL_law_290 rfl (lv_at hl 2 rfl) ?_
    refine lv_iload hx hb dL_law_291 (lv_at hl 1 rfl) ?_
    refine lv_iconst (v := nI 2) hx hb dL_law_293 (by decide) ?_
    refine q_iadd (v := nI (4 * i + 2)) hx hb dL_law_294 (nI_add _ _) ?_
    refine q_sld (v := xs (4 * i + 2)) hx hb hX hbl hbA hS (by omega) hL dL_law_295 rfl ?_
    refine lv_if_eq (tgt := 303) hx hb dL_law_296 (by decide) (fun c_5 => ?_) (fun c_5 => ?_)
    · exact absurd c_5 c_y
    · refine lv_iconst (v := nI 1) hx hb dL_law_299 (by decide) ?_
      refine lv_goto (tgt := 304) hx hb dL_law_300 (by decide) ?_
      have hr0 := va_recv hE.K hP (ci := 5) (q0 := 0) rfl rfl
      have hP := q_swP hP
      have hD := q_swD hD
      refine q_wrV (wr := (oW g oa (vp_updL f 0 (nI (ssd z k + 1)).toInt64) :: wC g ad mc M (adW sig (nI (ssr z k)) (zsay z k (sayX 1)) k (ssd z k) (sL z)) (zsay z k (sayX 1)))) (As := [.int (nI k), .int (nI 1)]) (rest := []) ⟨hx, hb, hml, hown, hts⟩ (c_X4_say hV hR hk_ hsd_ (y := 1) (by omega)) (cwV 2 hts gL_law_X4_say rfl rfl rfl (by decide +kernel) ⟨Nat.le_of_ble_eq_true rfl, Nat.le_of_ble_eq_true rfl⟩) hE hP hD hS hA hr0 rfl hl.1 rfl (Nat.le_of_ble_eq_true rfl) dL_law_304 ⟨by show _ ≤ 601024; omega, by show _ ≤ 7293034; omega⟩ (fun _u H locs hP hD hS hE => ?_)
      have hP : va_P g.1 vwCl (wMo g am (nI 0) (upd sa (12 * k + ssd z k) (sayX 1)) (zsay z k (sayX 1)) ++ (oW g oa (vp_updL f 0 (nI (ssd z k + 1)).toInt64) :: wC g ad mc M (adW sig (nI (ssr z k)) (zsay z k (sayX 1)) k (ssd z k) (sL z)) (zsay z k (sayX 1)))) H := q_swP hP
      have hD : va_D (q_n s.heap) (wMo g am (nI 0) (upd sa (12 * k + ssd z k) (sayX 1)) (zsay z k (sayX 1)) ++ (oW g oa (vp_updL f 0 (nI (ssd z k + 1)).toInt64) :: wC g ad mc M (adW sig (nI (ssr z k)) (zsay z k (sayX 1)) k (ssd z k) (sL z)) (zsay z k (sayX 1)))) := q_swD hD
      refine lv_istore (lv' := [(6, .int (nI (ssd z k + 1))), (5, .int (nI 0)), (4, .int (nI (4 * i))), (0, .ref b), (1, .ref (ad 0)), (2, .ref (am 0)), (3, .ref oa)]) hx hb dL_law_307 hl (by decide) rfl (fun ls hl => ?_)
      refine lv_aload_n hx hb dL_law_309 rfl (lv_at hl 5 rfl) ?_
      refine q_roV (As := []) (rest := []) ⟨hx, hb, hml, hown, hts⟩ (c_X4_thrown (am := am) (th := nI 0) (sa := upd sa (12 * k + ssd z k) (sayX 1)) (z := zsay z k (sayX 1))) (cwV 0 hts gL_law_X4_thrown rfl rfl rfl (by decide +kernel) ⟨Nat.le_of_ble_eq_true rfl, Nat.le_of_ble_eq_true rfl⟩) hE (fun q h => hA q (Nat.le_trans hS.1 h)) (fun k q h => hP k q (q_apL h)) (va_recv hE.K hP (ci := 5) (q0 := 0) rfl rfl) rfl hl.1 rfl (Nat.le_of_ble_eq_true rfl) dL_law_310 ⟨by show _ ≤ 601024; omega, by show _ ≤ 7293034; omega⟩ ?_
      refine lv_iload hx hb dL_law_313 (lv_at hl 1 rfl) ?_
      refine q_icmp_eq (tgt := 320) hx hb (by omega) (by omega) dL_law_315 (by decide) (fun c_6 => ?_) (fun c_6 => ?_)
      · refine lv_iload hx hb dL_law_320 (lv_at hl 1 rfl) ?_
        refine q_if_ne (tgt := 337) hx hb (by omega) dL_law_322 (by decide) (fun c_7 => ?_) (fun c_7 => ?_)
        · exact absurd c_7 (by decide)
        · refine lv_aload_n hx hb dL_law_325 rfl (lv_at hl 6 rfl) ?_
          refine lv_iconst (v := nI 0) hx hb dL_law_326 (by decide) ?_
          refine q_lald (v := (nI (ssd z k + 1)).toInt64) (q0 := 7) hx hb hE hP rfl dL_law_327 rfl ?_
          refine lv_iload hx hb dL_law_328 (lv_at hl 0 rfl) ?_
          refine lv_i2l (v := (nI (ssd z k + 1)).toInt64) hx hb dL_law_330 rfl ?_
          refine q_lcmp hx hb dL_law_331 rfl ?_
          refine q_if_eq (tgt := 337) hx hb (by omega) dL_law_332 (by decide) (fun c_8 => ?_) (fun c_8 => ?_)
          · refine lv_goto (tgt := 1379) hx hb dL_law_337 (by decide) ?_
            exact W.widen (k := cells + 3) (n := slots + 27) (by omega) (by omega) (kk ad (nI 0) mc M (adW sig (nI (ssr z k)) (zsay z k (sayX 1)) k (ssd z k) (sL z)) (upd sa (12 * k + ssd z k) (sayX 1)) (zsay z k (sayX 1)) (vp_updL f 0 (nI (ssd z k + 1)).toInt64) H locs _ rfl ⟨hIV.say hk_ hsd_, hP, hD, hS, hE⟩ (lv_sub hl [2, 3, 4, 5, 6] rfl))
          · exact absurd c_8 (by omega)
      · exact absurd rfl c_6
set_option maxHeartbeats 4000000 in
set_option maxRecDepth 100000 in
theorem lw_c2_1 {p : Program} {l : Launch} {e : Env} {s : State} {m : MethodId} {below : List Frame} {meth : Method} {c : Code} {H : Heap} {locs : List Loc} {Q : State → Prop} {ls : Array Slot} {g : gT} {am ad : Nat → Nat} {oa : Nat} {th mc : Int32} {M : Nat} {sig sa : Nat → Int32} {z : sT} {f : Nat → Int64} {b L i cells slots : Nat} {xs : Nat → Int32} (C : LC p l s m c b L xs) (D : LD g s am ad oa th mc M sig sa z f H locs) (hi : 4 * i + 4 ≤ L) (hc : cells + 3 ≤ 601024) (hs : slots + 27 ≤ 7293034) (hl : lv_has ls 9 (lL (4 * i) b (ad 0) (am 0) oa)) (kk : LK p l e s m below meth c g b am oa (ad 0) (4 * i) cells slots Q) (hx_ : ¬ inR (xs (4 * i + 1)) (sn z)) : W p l e room_1 s m #[Value.ref b] below meth c H locs cells slots Q (F0 m 256 ls []) := by
  obtain ⟨hx, hb, hml, hown, hts, hl0, hX, hbl, hL⟩ := C
  obtain ⟨hIV, hP, hD, hS, hE⟩ := D
  have hV := hIV.1
  have hM := hIV.2.1
  have hR := hIV.2.2.1
  have hK := hIV.K
  have hn := hV.n
  have hbA : ¬ q_n s.heap b := Nat.not_le.mpr hbl
  have hA : ∀ q, s.heap.size ≤ q → q_n s.heap q := fun _ h => h
  refine lv_aload_n hx hb dL_law_256 rfl (lv_at hl 2 rfl) ?_
  refine lv_aload_n hx hb dL_law_257 rfl (lv_at hl 1 rfl) ?_
  refine lv_iload hx hb dL_law_258 (lv_at hl 0 rfl) ?_
  refine lv_iconst (v := nI 1) hx hb dL_law_260 (by decide) ?_
  refine q_iadd (v := nI (4 * i + 1)) hx hb dL_law_261 (nI_add _ _) ?_
  refine q_sld (v := xs (4 * i + 1)) hx hb hX hbl hbA hS (by omega) hL dL_law_262 rfl ?_
  refine lv_aload_n hx hb dL_law_263 rfl (lv_at hl 1 rfl) ?_
  refine lv_iload hx hb dL_law_264 (lv_at hl 0 rfl) ?_
  refine lv_iconst (v := nI 2) hx hb dL_law_266 (by decide) ?_
  refine q_iadd (v := nI (4 * i + 2)) hx hb dL_law_267 (nI_add _ _) ?_
  refine q_sld (v := xs (4 * i + 2)) hx hb hX hbl hbA hS (by omega) hL dL_law_268 rfl ?_
  refine lv_if_eq (tgt := 276) hx hb dL_law_269 (by decide) (fun c_y => ?_) (fun c_y => ?_)
  · refine lv_iconst (v := nI 0) hx hb dL_law_276 (by decide) ?_
    refine lv_aload_n hx hb dL_law_277 rfl (lv_at hl 4 rfl) ?_
    refine q_wrSW (wr := wMo g am th sa z) (As := [.ref (ad 0), .int (xs (4 * i + 1)), .int (nI 0), .ref oa]) (rest := []) ⟨hx, hb, hml, hown, hts⟩ (w_L_say_1 hl0 hM hV hx_) (vx_cwSW 4 hts gL_law_L_say rfl rfl rfl (by decide +kernel) ⟨Nat.le_of_ble_eq_true rfl, Nat.le_of_ble_eq_true rfl⟩) hE hP hD hS hA rfl hl.1 rfl (Nat.le_of_ble_eq_true rfl) dL_law_278 ⟨by show _ ≤ 601024; omega, by show _ ≤ 7293034; omega⟩ (fun _u H locs hP hD hS hE => ?_)
    have hP : va_P g.1 vwCl (wMo g am th sa z ++ (oW g oa (f) :: wC g ad mc M sig z)) H := hP
    have hD : va_D (q_n s.heap) (wMo g am th sa z ++ (oW g oa (f) :: wC g ad mc M sig z)) := hD
    refine lv_istore (lv' := [(5, .int (nI 1)), (4, .int (nI (4 * i))), (0, .ref b), (1, .ref (ad 0)), (2, .ref (am 0)), (3, .ref oa)]) hx hb dL_law_281 hl (by decide) rfl (fun ls hl => ?_)
    refine lv_aload_n hx hb dL_law_283 rfl (lv_at hl 4 rfl) ?_
    refine lv_aload_n hx hb dL_law_284 rfl (lv_at hl 2 rfl) ?_
    refine lv_iload hx hb dL_law_285 (lv_at hl 1 rfl) ?_
    refine lv_iconst (v := nI 1) hx hb dL_law_287 (by decide) ?_
    refine q_iadd (v := nI (4 * i + 1)) hx hb dL_law_288 (nI_add _ _) ?_
    refine q_sld (v := xs (4 * i + 1)) hx hb hX hbl hbA hS (by omega) hL dL_law_289 rfl ?_
    refine lv_aload_n hx hb dL_law_290 rfl (lv_at hl 2 rfl) ?_
    refine lv_iload hx hb dL_law_291 (lv_at hl 1 rfl) ?_
    refine lv_iconst (v := nI 2) hx hb dL_law_293 (by decide) ?_
    refine q_iadd (v := nI (4 * i + 2)) hx hb dL_law_294 (nI_add _ _) ?_
    refine q_sld (v := xs (4 * i + 2)) hx hb hX hbl hbA hS (by omega) hL dL_law_295 rfl ?_
    refine lv_if_eq (tgt := 303) hx hb dL_law_296 (by decide) (fun c_1 => ?_) (fun c_1 => ?_)
    · refine lv_iconst (v := nI 0) hx hb dL_law_303 (by decide) ?_
      have hr0 := va_recv hE.K hP (ci := 5) (q0 := 0) rfl rfl
      have hP := q_swP hP
      have hD := q_swD hD
      refine q_wrV (wr := (oW g oa (f) :: wC g ad mc M sig z)) (As := [.int (xs (4 * i + 1)), .int (nI 0)]) (rest := []) ⟨hx, hb, hml, hown, hts⟩ (cn_X4_say_1 hV hR hx_) (cwV 2 hts gL_law_X4_say rfl rfl rfl (by decide +kernel) ⟨Nat.le_of_ble_eq_true rfl, Nat.le_of_ble_eq_true rfl⟩) hE hP hD hS hA hr0 rfl hl.1 rfl (Nat.le_of_ble_eq_true rfl) dL_law_304 ⟨by show _ ≤ 601024; omega, by show _ ≤ 7293034; omega⟩ (fun _u H locs hP hD hS hE => ?_)
      have hP : va_P g.1 vwCl (wMo g am (nI 1) sa z ++ (oW g oa (f) :: wC g ad mc M sig z)) H := q_swP hP
      have hD : va_D (q_n s.heap) (wMo g am (nI 1) sa z ++ (oW g oa (f) :: wC g ad mc M sig z)) := q_swD hD
      refine lv_istore (lv' := [(6, .int (nI 0)), (5, .int (nI 1)), (4, .int (nI (4 * i))), (0, .ref b), (1, .ref (ad 0)), (2, .ref (am 0)), (3, .ref oa)]) hx hb dL_law_307 hl (by decide) rfl (fun ls hl => ?_)
      refine lv_aload_n hx hb dL_law_309 rfl (lv_at hl 5 rfl) ?_
      refine q_roV (As := []) (rest := []) ⟨hx, hb, hml, hown, hts⟩ (c_X4_thrown (am := am) (th := nI 1) (sa := sa) (z := z)) (cwV 0 hts gL_law_X4_thrown rfl rfl rfl (by decide +kernel) ⟨Nat.le_of_ble_eq_true rfl, Nat.le_of_ble_eq_true rfl⟩) hE (fun q h => hA q (Nat.le_trans hS.1 h)) (fun k q h => hP k q (q_apL h)) (va_recv hE.K hP (ci := 5) (q0 := 0) rfl rfl) rfl hl.1 rfl (Nat.le_of_ble_eq_true rfl) dL_law_310 ⟨by show _ ≤ 601024; omega, by show _ ≤ 7293034; omega⟩ ?_
      refine lv_iload hx hb dL_law_313 (lv_at hl 1 rfl) ?_
      refine q_icmp_eq (tgt := 320) hx hb (by omega) (by omega) dL_law_315 (by decide) (fun c_2 => ?_) (fun c_2 => ?_)
      · refine lv_iload hx hb dL_law_320 (lv_at hl 1 rfl) ?_
        refine q_if_ne (tgt := 337) hx hb (by omega) dL_law_322 (by decide) (fun c_3 => ?_) (fun c_3 => ?_)
        · refine lv_goto (tgt := 1379) hx hb dL_law_337 (by decide) ?_
          exact W.widen (k := cells + 3) (n := slots + 27) (by omega) (by omega) (kk ad (nI 1) mc M (sig) (sa) (z) (f) H locs _ rfl ⟨hIV, hP, hD, hS, hE⟩ (lv_sub hl [2, 3, 4, 5, 6] rfl))
        · exact absurd c_3 (by decide)
      · exact absurd rfl c_2
    · exact absurd c_y c_1
  · refine lv_iconst (v := nI 1) hx hb dL_law_272 (by decide) ?_
    refine lv_goto (tgt := 277) hx hb dL_law_273 (by decide) ?_
    refine lv_aload_n hx hb dL_law_277 rfl (lv_at hl 4 rfl) ?_
    refine q_wrSW (wr := wMo g am th sa z) (As := [.ref (ad 0), .int (xs (4 * i + 1)), .int (nI 1), .ref oa]) (rest := []) ⟨hx, hb, hml, hown, hts⟩ (w_L_say_1 hl0 hM hV hx_) (vx_cwSW 4 hts gL_law_L_say rfl rfl rfl (by decide +kernel) ⟨Nat.le_of_ble_eq_true rfl, Nat.le_of_ble_eq_true rfl⟩) hE hP hD hS hA rfl hl.1 rfl (Nat.le_of_ble_eq_true rfl) dL_law_278 ⟨by show _ ≤ 601024; omega, by show _ ≤ 7293034; omega⟩ (fun _u H locs hP hD hS hE => ?_)
    have hP : va_P g.1 vwCl (wMo g am th sa z ++ (oW g oa (f) :: wC g ad mc M sig z)) H := hP
    have hD : va_D (q_n s.heap) (wMo g am th sa z ++ (oW g oa (f) :: wC g ad mc M sig z)) := hD
    refine lv_istore (lv' := [(5, .int (nI 1)), (4, .int (nI (4 * i))), (0, .ref b), (1, .ref (ad 0)), (2, .ref (am 0)), (3, .ref oa)]) hx hb dL_law_281 hl (by decide) rfl (fun ls hl => ?_)
    refine lv_aload_n hx hb dL_law_283 rfl (lv_at hl 4 rfl) ?_
    refine lv_aload_n hx hb dL_law_284 rfl (lv_at hl 2 rfl) ?_
    refine lv_iload hx hb dL_law_285 (lv_at hl 1 rfl) ?_
    refine lv_iconst (v := nI 1) hx hb dL_law_287 (by decide) ?_
    refine q_iadd (v := nI (4 * i + 1)) hx hb dL_law_288 (nI_add _ _) ?_
    refine q_sld (v := xs (4 * i + 1)) hx hb hX hbl hbA hS (by omega) hL dL_law_289 rfl ?_
    refine lv_aload_n hx hb dL_law_290 rfl (lv_at hl 2 rfl) ?_
    refine lv_iload hx hb dL_law_291 (lv_at hl 1 rfl) ?_
    refine lv_iconst (v := nI 2) hx hb dL_law_293 (by decide) ?_
    refine q_iadd (v := nI (4 * i + 2)) hx hb dL_law_294 (nI_add _ _) ?_
    refine q_sld (v := xs (4 * i + 2)) hx hb hX hbl hbA hS (by omega) hL dL_law_295 rfl ?_
    refine lv_if_eq (tgt := 303) hx hb dL_law_296 (by decide) (fun c_4 => ?_) (fun c_4 => ?_)
    · exact absurd c_4 c_y
    · refine lv_iconst (v := nI 1) hx hb dL_law_299 (by decide) ?_
      refine lv_goto (tgt := 304) hx hb dL_law_300 (by decide) ?_
      have hr0 := va_recv hE.K hP (ci := 5) (q0 := 0) rfl rfl
      have hP := q_swP hP
      have hD := q_swD hD
      refine q_wrV (wr := (oW g oa (f) :: wC g ad mc M sig z)) (As := [.int (xs (4 * i + 1)), .int (nI 1)]) (rest := []) ⟨hx, hb, hml, hown, hts⟩ (cn_X4_say_1 hV hR hx_) (cwV 2 hts gL_law_X4_say rfl rfl rfl (by decide +kernel) ⟨Nat.le_of_ble_eq_true rfl, Nat.le_of_ble_eq_true rfl⟩) hE hP hD hS hA hr0 rfl hl.1 rfl (Nat.le_of_ble_eq_true rfl) dL_law_304 ⟨by show _ ≤ 601024; omega, by show _ ≤ 7293034; omega⟩ (fun _u H locs hP hD hS hE => ?_)
      have hP : va_P g.1 vwCl (wMo g am (nI 1) sa z ++ (oW g oa (f) :: wC g ad mc M sig z)) H := q_swP hP
      have hD : va_D (q_n s.heap) (wMo g am (nI 1) sa z ++ (oW g oa (f) :: wC g ad mc M sig z)) := q_swD hD
      refine lv_istore (lv' := [(6, .int (nI 0)), (5, .int (nI 1)), (4, .int (nI (4 * i))), (0, .ref b), (1, .ref (ad 0)), (2, .ref (am 0)), (3, .ref oa)]) hx hb dL_law_307 hl (by decide) rfl (fun ls hl => ?_)
      refine lv_aload_n hx hb dL_law_309 rfl (lv_at hl 5 rfl) ?_
      refine q_roV (As := []) (rest := []) ⟨hx, hb, hml, hown, hts⟩ (c_X4_thrown (am := am) (th := nI 1) (sa := sa) (z := z)) (cwV 0 hts gL_law_X4_thrown rfl rfl rfl (by decide +kernel) ⟨Nat.le_of_ble_eq_true rfl, Nat.le_of_ble_eq_true rfl⟩) hE (fun q h => hA q (Nat.le_trans hS.1 h)) (fun k q h => hP k q (q_apL h)) (va_recv hE.K hP (ci := 5) (q0 := 0) rfl rfl) rfl hl.1 rfl (Nat.le_of_ble_eq_true rfl) dL_law_310 ⟨by show _ ≤ 601024; omega, by show _ ≤ 7293034; omega⟩ ?_
      refine lv_iload hx hb dL_law_313 (lv_at hl 1 rfl) ?_
      refine q_icmp_eq (tgt := 320) hx hb (by omega) (by omega) dL_law_315 (by decide) (fun c_5 => ?_) (fun c_5 => ?_)
      · refine lv_iload hx hb dL_law_320 (lv_at hl 1 rfl) ?_
        refine q_if_ne (tgt := 337) hx hb (by omega) dL_law_322 (by decide) (fun c_6 => ?_) (fun c_6 => ?_)
        · refine lv_goto (tgt := 1379) hx hb dL_law_337 (by decide) ?_
          exact W.widen (k := cells + 3) (n := slots + 27) (by omega) (by omega) (kk ad (nI 1) mc M (sig) (sa) (z) (f) H locs _ rfl ⟨hIV, hP, hD, hS, hE⟩ (lv_sub hl [2, 3, 4, 5, 6] rfl))
        · exact absurd c_6 (by decide)
      · exact absurd rfl c_5
set_option maxHeartbeats 4000000 in
set_option maxRecDepth 100000 in
theorem lw_c2_2 {p : Program} {l : Launch} {e : Env} {s : State} {m : MethodId} {below : List Frame} {meth : Method} {c : Code} {H : Heap} {locs : List Loc} {Q : State → Prop} {ls : Array Slot} {g : gT} {am ad : Nat → Nat} {oa : Nat} {th mc : Int32} {M : Nat} {sig sa : Nat → Int32} {z : sT} {f : Nat → Int64} {b L i cells slots : Nat} {xs : Nat → Int32} (C : LC p l s m c b L xs) (D : LD g s am ad oa th mc M sig sa z f H locs) (hi : 4 * i + 4 ≤ L) (hc : cells + 3 ≤ 601024) (hs : slots + 27 ≤ 7293034) (hl : lv_has ls 9 (lL (4 * i) b (ad 0) (am 0) oa)) (kk : LK p l e s m below meth c g b am oa (ad 0) (4 * i) cells slots Q) {k : Nat} (hk_ : k < sn z) (hsd_ : ssd z k = 12) (e1 : xs (4 * i + 1) = nI k) : W p l e room_1 s m #[Value.ref b] below meth c H locs cells slots Q (F0 m 256 ls []) := by
  obtain ⟨hx, hb, hml, hown, hts, hl0, hX, hbl, hL⟩ := C
  obtain ⟨hIV, hP, hD, hS, hE⟩ := D
  have hV := hIV.1
  have hM := hIV.2.1
  have hR := hIV.2.2.1
  have hK := hIV.K
  have hn := hV.n
  have hbA : ¬ q_n s.heap b := Nat.not_le.mpr hbl
  have hA : ∀ q, s.heap.size ≤ q → q_n s.heap q := fun _ h => h
  refine lv_aload_n hx hb dL_law_256 rfl (lv_at hl 2 rfl) ?_
  refine lv_aload_n hx hb dL_law_257 rfl (lv_at hl 1 rfl) ?_
  refine lv_iload hx hb dL_law_258 (lv_at hl 0 rfl) ?_
  refine lv_iconst (v := nI 1) hx hb dL_law_260 (by decide) ?_
  refine q_iadd (v := nI (4 * i + 1)) hx hb dL_law_261 (nI_add _ _) ?_
  refine q_sld (v := nI k) hx hb hX hbl hbA hS (by omega) hL dL_law_262 e1 ?_
  refine lv_aload_n hx hb dL_law_263 rfl (lv_at hl 1 rfl) ?_
  refine lv_iload hx hb dL_law_264 (lv_at hl 0 rfl) ?_
  refine lv_iconst (v := nI 2) hx hb dL_law_266 (by decide) ?_
  refine q_iadd (v := nI (4 * i + 2)) hx hb dL_law_267 (nI_add _ _) ?_
  refine q_sld (v := xs (4 * i + 2)) hx hb hX hbl hbA hS (by omega) hL dL_law_268 rfl ?_
  refine lv_if_eq (tgt := 276) hx hb dL_law_269 (by decide) (fun c_y => ?_) (fun c_y => ?_)
  · refine lv_iconst (v := nI 0) hx hb dL_law_276 (by decide) ?_
    refine lv_aload_n hx hb dL_law_277 rfl (lv_at hl 4 rfl) ?_
    refine q_wrSW (wr := wMo g am th sa z) (As := [.ref (ad 0), .int (nI k), .int (nI 0), .ref oa]) (rest := []) ⟨hx, hb, hml, hown, hts⟩ (w_L_say_2 hl0 hM hV hk_ (by omega)) (vx_cwSW 4 hts gL_law_L_say rfl rfl rfl (by decide +kernel) ⟨Nat.le_of_ble_eq_true rfl, Nat.le_of_ble_eq_true rfl⟩) hE hP hD hS hA rfl hl.1 rfl (Nat.le_of_ble_eq_true rfl) dL_law_278 ⟨by show _ ≤ 601024; omega, by show _ ≤ 7293034; omega⟩ (fun _u H locs hP hD hS hE => ?_)
    have hP : va_P g.1 vwCl (wMo g am th sa z ++ (oW g oa (f) :: wC g ad mc M sig z)) H := hP
    have hD : va_D (q_n s.heap) (wMo g am th sa z ++ (oW g oa (f) :: wC g ad mc M sig z)) := hD
    refine lv_istore (lv' := [(5, .int (nI 2)), (4, .int (nI (4 * i))), (0, .ref b), (1, .ref (ad 0)), (2, .ref (am 0)), (3, .ref oa)]) hx hb dL_law_281 hl (by decide) rfl (fun ls hl => ?_)
    refine lv_aload_n hx hb dL_law_283 rfl (lv_at hl 4 rfl) ?_
    refine lv_aload_n hx hb dL_law_284 rfl (lv_at hl 2 rfl) ?_
    refine lv_iload hx hb dL_law_285 (lv_at hl 1 rfl) ?_
    refine lv_iconst (v := nI 1) hx hb dL_law_287 (by decide) ?_
    refine q_iadd (v := nI (4 * i + 1)) hx hb dL_law_288 (nI_add _ _) ?_
    refine q_sld (v := nI k) hx hb hX hbl hbA hS (by omega) hL dL_law_289 e1 ?_
    refine lv_aload_n hx hb dL_law_290 rfl (lv_at hl 2 rfl) ?_
    refine lv_iload hx hb dL_law_291 (lv_at hl 1 rfl) ?_
    refine lv_iconst (v := nI 2) hx hb dL_law_293 (by decide) ?_
    refine q_iadd (v := nI (4 * i + 2)) hx hb dL_law_294 (nI_add _ _) ?_
    refine q_sld (v := xs (4 * i + 2)) hx hb hX hbl hbA hS (by omega) hL dL_law_295 rfl ?_
    refine lv_if_eq (tgt := 303) hx hb dL_law_296 (by decide) (fun c_1 => ?_) (fun c_1 => ?_)
    · refine lv_iconst (v := nI 0) hx hb dL_law_303 (by decide) ?_
      have hr0 := va_recv hE.K hP (ci := 5) (q0 := 0) rfl rfl
      have hP := q_swP hP
      have hD := q_swD hD
      refine q_wrV (wr := (oW g oa (f) :: wC g ad mc M sig z)) (As := [.int (nI k), .int (nI 0)]) (rest := []) ⟨hx, hb, hml, hown, hts⟩ (cn_X4_say_2 hV hR hk_ hsd_) (cwV 2 hts gL_law_X4_say rfl rfl rfl (by decide +kernel) ⟨Nat.le_of_ble_eq_true rfl, Nat.le_of_ble_eq_true rfl⟩) hE hP hD hS hA hr0 rfl hl.1 rfl (Nat.le_of_ble_eq_true rfl) dL_law_304 ⟨by show _ ≤ 601024; omega, by show _ ≤ 7293034; omega⟩ (fun _u H locs hP hD hS hE => ?_)
      have hP : va_P g.1 vwCl (wMo g am (nI 2) sa z ++ (oW g oa (f) :: wC g ad mc M sig z)) H := q_swP hP
      have hD : va_D (q_n s.heap) (wMo g am (nI 2) sa z ++ (oW g oa (f) :: wC g ad mc M sig z)) := q_swD hD
      refine lv_istore (lv' := [(6, .int (nI 0)), (5, .int (nI 2)), (4, .int (nI (4 * i))), (0, .ref b), (1, .ref (ad 0)), (2, .ref (am 0)), (3, .ref oa)]) hx hb dL_law_307 hl (by decide) rfl (fun ls hl => ?_)
      refine lv_aload_n hx hb dL_law_309 rfl (lv_at hl 5 rfl) ?_
      refine q_roV (As := []) (rest := []) ⟨hx, hb, hml, hown, hts⟩ (c_X4_thrown (am := am) (th := nI 2) (sa := sa) (z := z)) (cwV 0 hts gL_law_X4_thrown rfl rfl rfl (by decide +kernel) ⟨Nat.le_of_ble_eq_true rfl, Nat.le_of_ble_eq_true rfl⟩) hE (fun q h => hA q (Nat.le_trans hS.1 h)) (fun k q h => hP k q (q_apL h)) (va_recv hE.K hP (ci := 5) (q0 := 0) rfl rfl) rfl hl.1 rfl (Nat.le_of_ble_eq_true rfl) dL_law_310 ⟨by show _ ≤ 601024; omega, by show _ ≤ 7293034; omega⟩ ?_
      refine lv_iload hx hb dL_law_313 (lv_at hl 1 rfl) ?_
      refine q_icmp_eq (tgt := 320) hx hb (by omega) (by omega) dL_law_315 (by decide) (fun c_2 => ?_) (fun c_2 => ?_)
      · refine lv_iload hx hb dL_law_320 (lv_at hl 1 rfl) ?_
        refine q_if_ne (tgt := 337) hx hb (by omega) dL_law_322 (by decide) (fun c_3 => ?_) (fun c_3 => ?_)
        · refine lv_goto (tgt := 1379) hx hb dL_law_337 (by decide) ?_
          exact W.widen (k := cells + 3) (n := slots + 27) (by omega) (by omega) (kk ad (nI 2) mc M (sig) (sa) (z) (f) H locs _ rfl ⟨hIV, hP, hD, hS, hE⟩ (lv_sub hl [2, 3, 4, 5, 6] rfl))
        · exact absurd c_3 (by decide)
      · exact absurd rfl c_2
    · exact absurd c_y c_1
  · refine lv_iconst (v := nI 1) hx hb dL_law_272 (by decide) ?_
    refine lv_goto (tgt := 277) hx hb dL_law_273 (by decide) ?_
    refine lv_aload_n hx hb dL_law_277 rfl (lv_at hl 4 rfl) ?_
    refine q_wrSW (wr := wMo g am th sa z) (As := [.ref (ad 0), .int (nI k), .int (nI 1), .ref oa]) (rest := []) ⟨hx, hb, hml, hown, hts⟩ (w_L_say_2 hl0 hM hV hk_ (by omega)) (vx_cwSW 4 hts gL_law_L_say rfl rfl rfl (by decide +kernel) ⟨Nat.le_of_ble_eq_true rfl, Nat.le_of_ble_eq_true rfl⟩) hE hP hD hS hA rfl hl.1 rfl (Nat.le_of_ble_eq_true rfl) dL_law_278 ⟨by show _ ≤ 601024; omega, by show _ ≤ 7293034; omega⟩ (fun _u H locs hP hD hS hE => ?_)
    have hP : va_P g.1 vwCl (wMo g am th sa z ++ (oW g oa (f) :: wC g ad mc M sig z)) H := hP
    have hD : va_D (q_n s.heap) (wMo g am th sa z ++ (oW g oa (f) :: wC g ad mc M sig z)) := hD
    refine lv_istore (lv' := [(5, .int (nI 2)), (4, .int (nI (4 * i))), (0, .ref b), (1, .ref (ad 0)), (2, .ref (am 0)), (3, .ref oa)]) hx hb dL_law_281 hl (by decide) rfl (fun ls hl => ?_)
    refine lv_aload_n hx hb dL_law_283 rfl (lv_at hl 4 rfl) ?_
    refine lv_aload_n hx hb dL_law_284 rfl (lv_at hl 2 rfl) ?_
    refine lv_iload hx hb dL_law_285 (lv_at hl 1 rfl) ?_
    refine lv_iconst (v := nI 1) hx hb dL_law_287 (by decide) ?_
    refine q_iadd (v := nI (4 * i + 1)) hx hb dL_law_288 (nI_add _ _) ?_
    refine q_sld (v := nI k) hx hb hX hbl hbA hS (by omega) hL dL_law_289 e1 ?_
    refine lv_aload_n hx hb dL_law_290 rfl (lv_at hl 2 rfl) ?_
    refine lv_iload hx hb dL_law_291 (lv_at hl 1 rfl) ?_
    refine lv_iconst (v := nI 2) hx hb dL_law_293 (by decide) ?_
    refine q_iadd (v := nI (4 * i + 2)) hx hb dL_law_294 (nI_add _ _) ?_
    refine q_sld (v := xs (4 * i + 2)) hx hb hX hbl hbA hS (by omega) hL dL_law_295 rfl ?_
    refine lv_if_eq (tgt := 303) hx hb dL_law_296 (by decide) (fun c_4 => ?_) (fun c_4 => ?_)
    · exact absurd c_4 c_y
    · refine lv_iconst (v := nI 1) hx hb dL_law_299 (by decide) ?_
      refine lv_goto (tgt := 304) hx hb dL_law_300 (by decide) ?_
      have hr0 := va_recv hE.K hP (ci := 5) (q0 := 0) rfl rfl
      have hP := q_swP hP
      have hD := q_swD hD
      refine q_wrV (wr := (oW g oa (f) :: wC g ad mc M sig z)) (As := [.int (nI k), .int (nI 1)]) (rest := []) ⟨hx, hb, hml, hown, hts⟩ (cn_X4_say_2 hV hR hk_ hsd_) (cwV 2 hts gL_law_X4_say rfl rfl rfl (by decide +kernel) ⟨Nat.le_of_ble_eq_true rfl, Nat.le_of_ble_eq_true rfl⟩) hE hP hD hS hA hr0 rfl hl.1 rfl (Nat.le_of_ble_eq_true rfl) dL_law_304 ⟨by show _ ≤ 601024; omega, by show _ ≤ 7293034; omega⟩ (fun _u H locs hP hD hS hE => ?_)
      have hP : va_P g.1 vwCl (wMo g am (nI 2) sa z ++ (oW g oa (f) :: wC g ad mc M sig z)) H := q_swP hP
      have hD : va_D (q_n s.heap) (wMo g am (nI 2) sa z ++ (oW g oa (f) :: wC g ad mc M sig z)) := q_swD hD
      refine lv_istore (lv' := [(6, .int (nI 0)), (5, .int (nI 2)), (4, .int (nI (4 * i))), (0, .ref b), (1, .ref (ad 0)), (2, .ref (am 0)), (3, .ref oa)]) hx hb dL_law_307 hl (by decide) rfl (fun ls hl => ?_)
      refine lv_aload_n hx hb dL_law_309 rfl (lv_at hl 5 rfl) ?_
      refine q_roV (As := []) (rest := []) ⟨hx, hb, hml, hown, hts⟩ (c_X4_thrown (am := am) (th := nI 2) (sa := sa) (z := z)) (cwV 0 hts gL_law_X4_thrown rfl rfl rfl (by decide +kernel) ⟨Nat.le_of_ble_eq_true rfl, Nat.le_of_ble_eq_true rfl⟩) hE (fun q h => hA q (Nat.le_trans hS.1 h)) (fun k q h => hP k q (q_apL h)) (va_recv hE.K hP (ci := 5) (q0 := 0) rfl rfl) rfl hl.1 rfl (Nat.le_of_ble_eq_true rfl) dL_law_310 ⟨by show _ ≤ 601024; omega, by show _ ≤ 7293034; omega⟩ ?_
      refine lv_iload hx hb dL_law_313 (lv_at hl 1 rfl) ?_
      refine q_icmp_eq (tgt := 320) hx hb (by omega) (by omega) dL_law_315 (by decide) (fun c_5 => ?_) (fun c_5 => ?_)
      · refine lv_iload hx hb dL_law_320 (lv_at hl 1 rfl) ?_
        refine q_if_ne (tgt := 337) hx hb (by omega) dL_law_322 (by decide) (fun c_6 => ?_) (fun c_6 => ?_)
        · refine lv_goto (tgt := 1379) hx hb dL_law_337 (by decide) ?_
          exact W.widen (k := cells + 3) (n := slots + 27) (by omega) (by omega) (kk ad (nI 2) mc M (sig) (sa) (z) (f) H locs _ rfl ⟨hIV, hP, hD, hS, hE⟩ (lv_sub hl [2, 3, 4, 5, 6] rfl))
        · exact absurd c_6 (by decide)
      · exact absurd rfl c_5
set_option maxHeartbeats 4000000 in
set_option maxRecDepth 100000 in
theorem lw_c3 {p : Program} {l : Launch} {e : Env} {s : State} {m : MethodId} {below : List Frame} {meth : Method} {c : Code} {H : Heap} {locs : List Loc} {Q : State → Prop} {ls : Array Slot} {g : gT} {am ad : Nat → Nat} {oa : Nat} {th mc : Int32} {M : Nat} {sig sa : Nat → Int32} {z : sT} {f : Nat → Int64} {b L i cells slots : Nat} {xs : Nat → Int32} (C : LC p l s m c b L xs) (D : LD g s am ad oa th mc M sig sa z f H locs) (hi : 4 * i + 4 ≤ L) (hc : cells + 3 ≤ 601024) (hs : slots + 27 ≤ 7293034) (hl : lv_has ls 9 (lL (4 * i) b (ad 0) (am 0) oa)) (kk : LK p l e s m below meth c g b am oa (ad 0) (4 * i) cells slots Q) {k : Nat} (hk_ : k < sn z) (e1 : xs (4 * i + 1) = nI k) : W p l e room_1 s m #[Value.ref b] below meth c H locs cells slots Q (F0 m 340 ls []) := by
  obtain ⟨hx, hb, hml, hown, hts, hl0, hX, hbl, hL⟩ := C
  obtain ⟨hIV, hP, hD, hS, hE⟩ := D
  have hV := hIV.1
  have hM := hIV.2.1
  have hR := hIV.2.2.1
  have hK := hIV.K
  have hn := hV.n
  have hbA : ¬ q_n s.heap b := Nat.not_le.mpr hbl
  have hA : ∀ q, s.heap.size ≤ q → q_n s.heap q := fun _ h => h
  refine lv_aload_n hx hb dL_law_340 rfl (lv_at hl 2 rfl) ?_
  refine lv_aload_n hx hb dL_law_341 rfl (lv_at hl 1 rfl) ?_
  refine lv_iload hx hb dL_law_342 (lv_at hl 0 rfl) ?_
  refine lv_iconst (v := nI 1) hx hb dL_law_344 (by decide) ?_
  refine q_iadd (v := nI (4 * i + 1)) hx hb dL_law_345 (nI_add _ _) ?_
  refine q_sld (v := nI k) hx hb hX hbl hbA hS (by omega) hL dL_law_346 e1 ?_
  refine lv_aload_n hx hb dL_law_347 rfl (lv_at hl 4 rfl) ?_
  refine q_wrSW (wr := wMo g am th sa z) (As := [.ref (ad 0), .int (nI k), .ref oa]) (rest := []) ⟨hx, hb, hml, hown, hts⟩ (w_L_hush hM hV hk_) (vx_cwSW 3 hts gL_law_L_hush rfl rfl rfl (by decide +kernel) ⟨Nat.le_of_ble_eq_true rfl, Nat.le_of_ble_eq_true rfl⟩) hE hP hD hS hA rfl hl.1 rfl (Nat.le_of_ble_eq_true rfl) dL_law_348 ⟨by show _ ≤ 601024; omega, by show _ ≤ 7293034; omega⟩ (fun _u H locs hP hD hS hE => ?_)
  have hP : va_P g.1 vwCl (wMo g am th sa z ++ (oW g oa (vp_updL f 0 (nI (ssd z k)).toInt64) :: wC g ad mc M (adWs sig (-nI (ssr z k)) z k (ssd z k)) (zsd z k 0))) H := hP
  have hD : va_D (q_n s.heap) (wMo g am th sa z ++ (oW g oa (vp_updL f 0 (nI (ssd z k)).toInt64) :: wC g ad mc M (adWs sig (-nI (ssr z k)) z k (ssd z k)) (zsd z k 0))) := hD
  refine lv_istore (lv' := [(5, .int (nI 0)), (4, .int (nI (4 * i))), (0, .ref b), (1, .ref (ad 0)), (2, .ref (am 0)), (3, .ref oa)]) hx hb dL_law_351 hl (by decide) rfl (fun ls hl => ?_)
  refine lv_aload_n hx hb dL_law_353 rfl (lv_at hl 4 rfl) ?_
  refine lv_aload_n hx hb dL_law_354 rfl (lv_at hl 2 rfl) ?_
  refine lv_iload hx hb dL_law_355 (lv_at hl 1 rfl) ?_
  refine lv_iconst (v := nI 1) hx hb dL_law_357 (by decide) ?_
  refine q_iadd (v := nI (4 * i + 1)) hx hb dL_law_358 (nI_add _ _) ?_
  refine q_sld (v := nI k) hx hb hX hbl hbA hS (by omega) hL dL_law_359 e1 ?_
  have hr0 := va_recv hE.K hP (ci := 5) (q0 := 0) rfl rfl
  have hP := q_swP hP
  have hD := q_swD hD
  refine q_wrV (wr := (oW g oa (vp_updL f 0 (nI (ssd z k)).toInt64) :: wC g ad mc M (adWs sig (-nI (ssr z k)) z k (ssd z k)) (zsd z k 0))) (As := [.int (nI k)]) (rest := []) ⟨hx, hb, hml, hown, hts⟩ (c_X4_hush hV hR hk_) (cwV 1 hts gL_law_X4_hush rfl rfl rfl (by decide +kernel) ⟨Nat.le_of_ble_eq_true rfl, Nat.le_of_ble_eq_true rfl⟩) hE hP hD hS hA hr0 rfl hl.1 rfl (Nat.le_of_ble_eq_true rfl) dL_law_360 ⟨by show _ ≤ 601024; omega, by show _ ≤ 7293034; omega⟩ (fun _u H locs hP hD hS hE => ?_)
  have hP : va_P g.1 vwCl (wMo g am (nI 0) sa (zsd z k 0) ++ (oW g oa (vp_updL f 0 (nI (ssd z k)).toInt64) :: wC g ad mc M (adWs sig (-nI (ssr z k)) z k (ssd z k)) (zsd z k 0))) H := q_swP hP
  have hD : va_D (q_n s.heap) (wMo g am (nI 0) sa (zsd z k 0) ++ (oW g oa (vp_updL f 0 (nI (ssd z k)).toInt64) :: wC g ad mc M (adWs sig (-nI (ssr z k)) z k (ssd z k)) (zsd z k 0))) := q_swD hD
  refine lv_istore (lv' := [(6, .int (nI (ssd z k))), (5, .int (nI 0)), (4, .int (nI (4 * i))), (0, .ref b), (1, .ref (ad 0)), (2, .ref (am 0)), (3, .ref oa)]) hx hb dL_law_363 hl (by decide) rfl (fun ls hl => ?_)
  refine lv_aload_n hx hb dL_law_365 rfl (lv_at hl 5 rfl) ?_
  refine q_roV (As := []) (rest := []) ⟨hx, hb, hml, hown, hts⟩ (c_X4_thrown (am := am) (th := nI 0) (sa := sa) (z := zsd z k 0)) (cwV 0 hts gL_law_X4_thrown rfl rfl rfl (by decide +kernel) ⟨Nat.le_of_ble_eq_true rfl, Nat.le_of_ble_eq_true rfl⟩) hE (fun q h => hA q (Nat.le_trans hS.1 h)) (fun k q h => hP k q (q_apL h)) (va_recv hE.K hP (ci := 5) (q0 := 0) rfl rfl) rfl hl.1 rfl (Nat.le_of_ble_eq_true rfl) dL_law_366 ⟨by show _ ≤ 601024; omega, by show _ ≤ 7293034; omega⟩ ?_
  refine lv_iload hx hb dL_law_369 (lv_at hl 1 rfl) ?_
  refine q_icmp_eq (tgt := 376) hx hb (by omega) (by omega) dL_law_371 (by decide) (fun c_1 => ?_) (fun c_1 => ?_)
  · refine lv_iload hx hb dL_law_376 (lv_at hl 1 rfl) ?_
    refine q_if_ne (tgt := 393) hx hb (by omega) dL_law_378 (by decide) (fun c_2 => ?_) (fun c_2 => ?_)
    · exact absurd c_2 (by decide)
    · refine lv_aload_n hx hb dL_law_381 rfl (lv_at hl 6 rfl) ?_
      refine lv_iconst (v := nI 0) hx hb dL_law_382 (by decide) ?_
      refine q_lald (v := (nI (ssd z k)).toInt64) (q0 := 7) hx hb hE hP rfl dL_law_383 (rfl) ?_
      refine lv_iload hx hb dL_law_384 (lv_at hl 0 rfl) ?_
      refine lv_i2l (v := (nI (ssd z k)).toInt64) hx hb dL_law_386 rfl ?_
      refine q_lcmp hx hb dL_law_387 rfl ?_
      refine q_if_eq (tgt := 393) hx hb (by omega) dL_law_388 (by decide) (fun c_3 => ?_) (fun c_3 => ?_)
      · refine lv_goto (tgt := 1379) hx hb dL_law_393 (by decide) ?_
        exact W.widen (k := cells + 3) (n := slots + 27) (by omega) (by omega) (kk (ad) (nI 0) (mc) (M) (adWs sig (-nI (ssr z k)) z k (ssd z k)) (sa) (zsd z k 0) (vp_updL f 0 (nI (ssd z k)).toInt64) H locs _ (rfl) ⟨hIV.hush hk_, hP, hD, hS, hE⟩ (lv_sub hl [2, 3, 4, 5, 6] rfl))
      · exact absurd c_3 (by omega)
  · exact absurd rfl c_1
set_option maxHeartbeats 4000000 in
set_option maxRecDepth 100000 in
theorem lw_c3_1 {p : Program} {l : Launch} {e : Env} {s : State} {m : MethodId} {below : List Frame} {meth : Method} {c : Code} {H : Heap} {locs : List Loc} {Q : State → Prop} {ls : Array Slot} {g : gT} {am ad : Nat → Nat} {oa : Nat} {th mc : Int32} {M : Nat} {sig sa : Nat → Int32} {z : sT} {f : Nat → Int64} {b L i cells slots : Nat} {xs : Nat → Int32} (C : LC p l s m c b L xs) (D : LD g s am ad oa th mc M sig sa z f H locs) (hi : 4 * i + 4 ≤ L) (hc : cells + 3 ≤ 601024) (hs : slots + 27 ≤ 7293034) (hl : lv_has ls 9 (lL (4 * i) b (ad 0) (am 0) oa)) (kk : LK p l e s m below meth c g b am oa (ad 0) (4 * i) cells slots Q) (hx_ : ¬ inR (xs (4 * i + 1)) (sn z)) : W p l e room_1 s m #[Value.ref b] below meth c H locs cells slots Q (F0 m 340 ls []) := by
  obtain ⟨hx, hb, hml, hown, hts, hl0, hX, hbl, hL⟩ := C
  obtain ⟨hIV, hP, hD, hS, hE⟩ := D
  have hV := hIV.1
  have hM := hIV.2.1
  have hR := hIV.2.2.1
  have hK := hIV.K
  have hn := hV.n
  have hbA : ¬ q_n s.heap b := Nat.not_le.mpr hbl
  have hA : ∀ q, s.heap.size ≤ q → q_n s.heap q := fun _ h => h
  refine lv_aload_n hx hb dL_law_340 rfl (lv_at hl 2 rfl) ?_
  refine lv_aload_n hx hb dL_law_341 rfl (lv_at hl 1 rfl) ?_
  refine lv_iload hx hb dL_law_342 (lv_at hl 0 rfl) ?_
  refine lv_iconst (v := nI 1) hx hb dL_law_344 (by decide) ?_
  refine q_iadd (v := nI (4 * i + 1)) hx hb dL_law_345 (nI_add _ _) ?_
  refine q_sld (v := xs (4 * i + 1)) hx hb hX hbl hbA hS (by omega) hL dL_law_346 rfl ?_
  refine lv_aload_n hx hb dL_law_347 rfl (lv_at hl 4 rfl) ?_
  refine q_wrSW (wr := wMo g am th sa z) (As := [.ref (ad 0), .int (xs (4 * i + 1)), .ref oa]) (rest := []) ⟨hx, hb, hml, hown, hts⟩ (w_L_hush_1 hl0 hM hV hx_) (vx_cwSW 3 hts gL_law_L_hush rfl rfl rfl (by decide +kernel) ⟨Nat.le_of_ble_eq_true rfl, Nat.le_of_ble_eq_true rfl⟩) hE hP hD hS hA rfl hl.1 rfl (Nat.le_of_ble_eq_true rfl) dL_law_348 ⟨by show _ ≤ 601024; omega, by show _ ≤ 7293034; omega⟩ (fun _u H locs hP hD hS hE => ?_)
  have hP : va_P g.1 vwCl (wMo g am th sa z ++ (oW g oa (f) :: wC g ad mc M sig z)) H := hP
  have hD : va_D (q_n s.heap) (wMo g am th sa z ++ (oW g oa (f) :: wC g ad mc M sig z)) := hD
  refine lv_istore (lv' := [(5, .int (nI 1)), (4, .int (nI (4 * i))), (0, .ref b), (1, .ref (ad 0)), (2, .ref (am 0)), (3, .ref oa)]) hx hb dL_law_351 hl (by decide) rfl (fun ls hl => ?_)
  refine lv_aload_n hx hb dL_law_353 rfl (lv_at hl 4 rfl) ?_
  refine lv_aload_n hx hb dL_law_354 rfl (lv_at hl 2 rfl) ?_
  refine lv_iload hx hb dL_law_355 (lv_at hl 1 rfl) ?_
  refine lv_iconst (v := nI 1) hx hb dL_law_357 (by decide) ?_
  refine q_iadd (v := nI (4 * i + 1)) hx hb dL_law_358 (nI_add _ _) ?_
  refine q_sld (v := xs (4 * i + 1)) hx hb hX hbl hbA hS (by omega) hL dL_law_359 rfl ?_
  have hr0 := va_recv hE.K hP (ci := 5) (q0 := 0) rfl rfl
  have hP := q_swP hP
  have hD := q_swD hD
  refine q_wrV (wr := (oW g oa (f) :: wC g ad mc M sig z)) (As := [.int (xs (4 * i + 1))]) (rest := []) ⟨hx, hb, hml, hown, hts⟩ (cn_X4_hush_1 hV hR hx_) (cwV 1 hts gL_law_X4_hush rfl rfl rfl (by decide +kernel) ⟨Nat.le_of_ble_eq_true rfl, Nat.le_of_ble_eq_true rfl⟩) hE hP hD hS hA hr0 rfl hl.1 rfl (Nat.le_of_ble_eq_true rfl) dL_law_360 ⟨by show _ ≤ 601024; omega, by show _ ≤ 7293034; omega⟩ (fun _u H locs hP hD hS hE => ?_)
  have hP : va_P g.1 vwCl (wMo g am (nI 1) sa z ++ (oW g oa (f) :: wC g ad mc M sig z)) H := q_swP hP
  have hD : va_D (q_n s.heap) (wMo g am (nI 1) sa z ++ (oW g oa (f) :: wC g ad mc M sig z)) := q_swD hD
  refine lv_istore (lv' := [(6, .int (nI 0)), (5, .int (nI 1)), (4, .int (nI (4 * i))), (0, .ref b), (1, .ref (ad 0)), (2, .ref (am 0)), (3, .ref oa)]) hx hb dL_law_363 hl (by decide) rfl (fun ls hl => ?_)
  refine lv_aload_n hx hb dL_law_365 rfl (lv_at hl 5 rfl) ?_
  refine q_roV (As := []) (rest := []) ⟨hx, hb, hml, hown, hts⟩ (c_X4_thrown (am := am) (th := nI 1) (sa := sa) (z := z)) (cwV 0 hts gL_law_X4_thrown rfl rfl rfl (by decide +kernel) ⟨Nat.le_of_ble_eq_true rfl, Nat.le_of_ble_eq_true rfl⟩) hE (fun q h => hA q (Nat.le_trans hS.1 h)) (fun k q h => hP k q (q_apL h)) (va_recv hE.K hP (ci := 5) (q0 := 0) rfl rfl) rfl hl.1 rfl (Nat.le_of_ble_eq_true rfl) dL_law_366 ⟨by show _ ≤ 601024; omega, by show _ ≤ 7293034; omega⟩ ?_
  refine lv_iload hx hb dL_law_369 (lv_at hl 1 rfl) ?_
  refine q_icmp_eq (tgt := 376) hx hb (by omega) (by omega) dL_law_371 (by decide) (fun c_1 => ?_) (fun c_1 => ?_)
  · refine lv_iload hx hb dL_law_376 (lv_at hl 1 rfl) ?_
    refine q_if_ne (tgt := 393) hx hb (by omega) dL_law_378 (by decide) (fun c_2 => ?_) (fun c_2 => ?_)
    · refine lv_goto (tgt := 1379) hx hb dL_law_393 (by decide) ?_
      exact W.widen (k := cells + 3) (n := slots + 27) (by omega) (by omega) (kk (ad) (nI 1) (mc) (M) (sig) (sa) (z) (f) H locs _ (rfl) ⟨hIV, hP, hD, hS, hE⟩ (lv_sub hl [2, 3, 4, 5, 6] rfl))
    · exact absurd c_2 (by decide)
  · exact absurd rfl c_1
set_option maxHeartbeats 4000000 in
set_option maxRecDepth 100000 in
theorem lw_c4 {p : Program} {l : Launch} {e : Env} {s : State} {m : MethodId} {below : List Frame} {meth : Method} {c : Code} {H : Heap} {locs : List Loc} {Q : State → Prop} {ls : Array Slot} {g : gT} {am ad : Nat → Nat} {oa : Nat} {th mc : Int32} {M : Nat} {sig sa : Nat → Int32} {z : sT} {f : Nat → Int64} {b L i cells slots : Nat} {xs : Nat → Int32} (C : LC p l s m c b L xs) (D : LD g s am ad oa th mc M sig sa z f H locs) (hi : 4 * i + 4 ≤ L) (hc : cells + 3 ≤ 601024) (hs : slots + 27 ≤ 7293034) (hl : lv_has ls 9 (lL (4 * i) b (ad 0) (am 0) oa)) (kk : LK p l e s m below meth c g b am oa (ad 0) (4 * i) cells slots Q) {k d_ : Nat} (hk_ : k < sn z) (hd_ : d_ < sL z) (e1 : xs (4 * i + 1) = nI k) (e2 : xs (4 * i + 2) = nI d_) : W p l e room_1 s m #[Value.ref b] below meth c H locs cells slots Q (F0 m 396 ls []) := by
  obtain ⟨hx, hb, hml, hown, hts, hl0, hX, hbl, hL⟩ := C
  obtain ⟨hIV, hP, hD, hS, hE⟩ := D
  have hV := hIV.1
  have hM := hIV.2.1
  have hR := hIV.2.2.1
  have hK := hIV.K
  have hn := hV.n
  have hbA : ¬ q_n s.heap b := Nat.not_le.mpr hbl
  have hA : ∀ q, s.heap.size ≤ q → q_n s.heap q := fun _ h => h
  refine lv_aload_n hx hb dL_law_396 rfl (lv_at hl 2 rfl) ?_
  refine lv_aload_n hx hb dL_law_397 rfl (lv_at hl 1 rfl) ?_
  refine lv_iload hx hb dL_law_398 (lv_at hl 0 rfl) ?_
  refine lv_iconst (v := nI 1) hx hb dL_law_400 (by decide) ?_
  refine q_iadd (v := nI (4 * i + 1)) hx hb dL_law_401 (nI_add _ _) ?_
  refine q_sld (v := nI k) hx hb hX hbl hbA hS (by omega) hL dL_law_402 e1 ?_
  refine lv_aload_n hx hb dL_law_403 rfl (lv_at hl 1 rfl) ?_
  refine lv_iload hx hb dL_law_404 (lv_at hl 0 rfl) ?_
  refine lv_iconst (v := nI 2) hx hb dL_law_406 (by decide) ?_
  refine q_iadd (v := nI (4 * i + 2)) hx hb dL_law_407 (nI_add _ _) ?_
  refine q_sld (v := nI d_) hx hb hX hbl hbA hS (by omega) hL dL_law_408 e2 ?_
  refine lv_aload_n hx hb dL_law_409 rfl (lv_at hl 4 rfl) ?_
  refine q_wrSW (wr := wMo g am th sa z) (As := [.ref (ad 0), .int (nI k), .int (nI d_), .ref oa]) (rest := []) ⟨hx, hb, hml, hown, hts⟩ (w_L_setDelay hM hV hk_ hd_) (vx_cwSW 4 hts gL_law_L_setDelay rfl rfl rfl (by decide +kernel) ⟨Nat.le_of_ble_eq_true rfl, Nat.le_of_ble_eq_true rfl⟩) hE hP hD hS hA rfl hl.1 rfl (Nat.le_of_ble_eq_true rfl) dL_law_410 ⟨by show _ ≤ 601024; omega, by show _ ≤ 7293034; omega⟩ (fun _u H locs hP hD hS hE => ?_)
  have hP : va_P g.1 vwCl (wMo g am th sa z ++ (oW g oa (vp_updL f 0 (nI (sdl z k)).toInt64) :: wC g ad mc M (adWs (adWs sig (-nI (ssr z k)) z k (ssd z k)) (nI (ssr z k)) (zdl z k d_) k (ssd z k)) (zdl z k d_))) H := hP
  have hD : va_D (q_n s.heap) (wMo g am th sa z ++ (oW g oa (vp_updL f 0 (nI (sdl z k)).toInt64) :: wC g ad mc M (adWs (adWs sig (-nI (ssr z k)) z k (ssd z k)) (nI (ssr z k)) (zdl z k d_) k (ssd z k)) (zdl z k d_))) := hD
  refine lv_istore (lv' := [(5, .int (nI 0)), (4, .int (nI (4 * i))), (0, .ref b), (1, .ref (ad 0)), (2, .ref (am 0)), (3, .ref oa)]) hx hb dL_law_413 hl (by decide) rfl (fun ls hl => ?_)
  refine lv_aload_n hx hb dL_law_415 rfl (lv_at hl 4 rfl) ?_
  refine lv_aload_n hx hb dL_law_416 rfl (lv_at hl 2 rfl) ?_
  refine lv_iload hx hb dL_law_417 (lv_at hl 1 rfl) ?_
  refine lv_iconst (v := nI 1) hx hb dL_law_419 (by decide) ?_
  refine q_iadd (v := nI (4 * i + 1)) hx hb dL_law_420 (nI_add _ _) ?_
  refine q_sld (v := nI k) hx hb hX hbl hbA hS (by omega) hL dL_law_421 e1 ?_
  refine lv_aload_n hx hb dL_law_422 rfl (lv_at hl 2 rfl) ?_
  refine lv_iload hx hb dL_law_423 (lv_at hl 1 rfl) ?_
  refine lv_iconst (v := nI 2) hx hb dL_law_425 (by decide) ?_
  refine q_iadd (v := nI (4 * i + 2)) hx hb dL_law_426 (nI_add _ _) ?_
  refine q_sld (v := nI d_) hx hb hX hbl hbA hS (by omega) hL dL_law_427 e2 ?_
  have hr0 := va_recv hE.K hP (ci := 5) (q0 := 0) rfl rfl
  have hP := q_swP hP
  have hD := q_swD hD
  refine q_wrV (wr := (oW g oa (vp_updL f 0 (nI (sdl z k)).toInt64) :: wC g ad mc M (adWs (adWs sig (-nI (ssr z k)) z k (ssd z k)) (nI (ssr z k)) (zdl z k d_) k (ssd z k)) (zdl z k d_))) (As := [.int (nI k), .int (nI d_)]) (rest := []) ⟨hx, hb, hml, hown, hts⟩ (c_X4_setDelay hV hR hk_ hd_) (cwV 2 hts gL_law_X4_setDelay rfl rfl rfl (by decide +kernel) ⟨Nat.le_of_ble_eq_true rfl, Nat.le_of_ble_eq_true rfl⟩) hE hP hD hS hA hr0 rfl hl.1 rfl (Nat.le_of_ble_eq_true rfl) dL_law_428 ⟨by show _ ≤ 601024; omega, by show _ ≤ 7293034; omega⟩ (fun _u H locs hP hD hS hE => ?_)
  have hP : va_P g.1 vwCl (wMo g am (nI 0) sa (zdl z k d_) ++ (oW g oa (vp_updL f 0 (nI (sdl z k)).toInt64) :: wC g ad mc M (adWs (adWs sig (-nI (ssr z k)) z k (ssd z k)) (nI (ssr z k)) (zdl z k d_) k (ssd z k)) (zdl z k d_))) H := q_swP hP
  have hD : va_D (q_n s.heap) (wMo g am (nI 0) sa (zdl z k d_) ++ (oW g oa (vp_updL f 0 (nI (sdl z k)).toInt64) :: wC g ad mc M (adWs (adWs sig (-nI (ssr z k)) z k (ssd z k)) (nI (ssr z k)) (zdl z k d_) k (ssd z k)) (zdl z k d_))) := q_swD hD
  refine lv_istore (lv' := [(6, .int (nI (sdl z k))), (5, .int (nI 0)), (4, .int (nI (4 * i))), (0, .ref b), (1, .ref (ad 0)), (2, .ref (am 0)), (3, .ref oa)]) hx hb dL_law_431 hl (by decide) rfl (fun ls hl => ?_)
  refine lv_aload_n hx hb dL_law_433 rfl (lv_at hl 5 rfl) ?_
  refine q_roV (As := []) (rest := []) ⟨hx, hb, hml, hown, hts⟩ (c_X4_thrown (am := am) (th := nI 0) (sa := sa) (z := zdl z k d_)) (cwV 0 hts gL_law_X4_thrown rfl rfl rfl (by decide +kernel) ⟨Nat.le_of_ble_eq_true rfl, Nat.le_of_ble_eq_true rfl⟩) hE (fun q h => hA q (Nat.le_trans hS.1 h)) (fun k q h => hP k q (q_apL h)) (va_recv hE.K hP (ci := 5) (q0 := 0) rfl rfl) rfl hl.1 rfl (Nat.le_of_ble_eq_true rfl) dL_law_434 ⟨by show _ ≤ 601024; omega, by show _ ≤ 7293034; omega⟩ ?_
  refine lv_iload hx hb dL_law_437 (lv_at hl 1 rfl) ?_
  refine q_icmp_eq (tgt := 444) hx hb (by omega) (by omega) dL_law_439 (by decide) (fun c_1 => ?_) (fun c_1 => ?_)
  · refine lv_iload hx hb dL_law_444 (lv_at hl 1 rfl) ?_
    refine q_if_ne (tgt := 461) hx hb (by omega) dL_law_446 (by decide) (fun c_2 => ?_) (fun c_2 => ?_)
    · exact absurd c_2 (by decide)
    · refine lv_aload_n hx hb dL_law_449 rfl (lv_at hl 6 rfl) ?_
      refine lv_iconst (v := nI 0) hx hb dL_law_450 (by decide) ?_
      refine q_lald (v := (nI (sdl z k)).toInt64) (q0 := 7) hx hb hE hP rfl dL_law_451 (rfl) ?_
      refine lv_iload hx hb dL_law_452 (lv_at hl 0 rfl) ?_
      refine lv_i2l (v := (nI (sdl z k)).toInt64) hx hb dL_law_454 rfl ?_
      refine q_lcmp hx hb dL_law_455 rfl ?_
      refine q_if_eq (tgt := 461) hx hb (by omega) dL_law_456 (by decide) (fun c_3 => ?_) (fun c_3 => ?_)
      · refine lv_goto (tgt := 1379) hx hb dL_law_461 (by decide) ?_
        exact W.widen (k := cells + 3) (n := slots + 27) (by omega) (by omega) (kk (ad) (nI 0) (mc) (M) (adWs (adWs sig (-nI (ssr z k)) z k (ssd z k)) (nI (ssr z k)) (zdl z k d_) k (ssd z k)) (sa) (zdl z k d_) (vp_updL f 0 (nI (sdl z k)).toInt64) H locs _ (rfl) ⟨hIV.dl hk_ hd_, hP, hD, hS, hE⟩ (lv_sub hl [2, 3, 4, 5, 6] rfl))
      · exact absurd c_3 (by omega)
  · exact absurd rfl c_1
set_option maxHeartbeats 4000000 in
set_option maxRecDepth 100000 in
theorem lw_c4_1 {p : Program} {l : Launch} {e : Env} {s : State} {m : MethodId} {below : List Frame} {meth : Method} {c : Code} {H : Heap} {locs : List Loc} {Q : State → Prop} {ls : Array Slot} {g : gT} {am ad : Nat → Nat} {oa : Nat} {th mc : Int32} {M : Nat} {sig sa : Nat → Int32} {z : sT} {f : Nat → Int64} {b L i cells slots : Nat} {xs : Nat → Int32} (C : LC p l s m c b L xs) (D : LD g s am ad oa th mc M sig sa z f H locs) (hi : 4 * i + 4 ≤ L) (hc : cells + 3 ≤ 601024) (hs : slots + 27 ≤ 7293034) (hl : lv_has ls 9 (lL (4 * i) b (ad 0) (am 0) oa)) (kk : LK p l e s m below meth c g b am oa (ad 0) (4 * i) cells slots Q) (hx_ : ¬ inR (xs (4 * i + 1)) (sn z)) : W p l e room_1 s m #[Value.ref b] below meth c H locs cells slots Q (F0 m 396 ls []) := by
  obtain ⟨hx, hb, hml, hown, hts, hl0, hX, hbl, hL⟩ := C
  obtain ⟨hIV, hP, hD, hS, hE⟩ := D
  have hV := hIV.1
  have hM := hIV.2.1
  have hR := hIV.2.2.1
  have hK := hIV.K
  have hn := hV.n
  have hbA : ¬ q_n s.heap b := Nat.not_le.mpr hbl
  have hA : ∀ q, s.heap.size ≤ q → q_n s.heap q := fun _ h => h
  refine lv_aload_n hx hb dL_law_396 rfl (lv_at hl 2 rfl) ?_
  refine lv_aload_n hx hb dL_law_397 rfl (lv_at hl 1 rfl) ?_
  refine lv_iload hx hb dL_law_398 (lv_at hl 0 rfl) ?_
  refine lv_iconst (v := nI 1) hx hb dL_law_400 (by decide) ?_
  refine q_iadd (v := nI (4 * i + 1)) hx hb dL_law_401 (nI_add _ _) ?_
  refine q_sld (v := xs (4 * i + 1)) hx hb hX hbl hbA hS (by omega) hL dL_law_402 rfl ?_
  refine lv_aload_n hx hb dL_law_403 rfl (lv_at hl 1 rfl) ?_
  refine lv_iload hx hb dL_law_404 (lv_at hl 0 rfl) ?_
  refine lv_iconst (v := nI 2) hx hb dL_law_406 (by decide) ?_
  refine q_iadd (v := nI (4 * i + 2)) hx hb dL_law_407 (nI_add _ _) ?_
  refine q_sld (v := xs (4 * i + 2)) hx hb hX hbl hbA hS (by omega) hL dL_law_408 rfl ?_
  refine lv_aload_n hx hb dL_law_409 rfl (lv_at hl 4 rfl) ?_
  refine q_wrSW (wr := wMo g am th sa z) (As := [.ref (ad 0), .int (xs (4 * i + 1)), .int (xs (4 * i + 2)), .ref oa]) (rest := []) ⟨hx, hb, hml, hown, hts⟩ (w_L_setDelay_1 hl0 hM hV hx_) (vx_cwSW 4 hts gL_law_L_setDelay rfl rfl rfl (by decide +kernel) ⟨Nat.le_of_ble_eq_true rfl, Nat.le_of_ble_eq_true rfl⟩) hE hP hD hS hA rfl hl.1 rfl (Nat.le_of_ble_eq_true rfl) dL_law_410 ⟨by show _ ≤ 601024; omega, by show _ ≤ 7293034; omega⟩ (fun _u H locs hP hD hS hE => ?_)
  have hP : va_P g.1 vwCl (wMo g am th sa z ++ (oW g oa (f) :: wC g ad mc M sig z)) H := hP
  have hD : va_D (q_n s.heap) (wMo g am th sa z ++ (oW g oa (f) :: wC g ad mc M sig z)) := hD
  refine lv_istore (lv' := [(5, .int (nI 1)), (4, .int (nI (4 * i))), (0, .ref b), (1, .ref (ad 0)), (2, .ref (am 0)), (3, .ref oa)]) hx hb dL_law_413 hl (by decide) rfl (fun ls hl => ?_)
  refine lv_aload_n hx hb dL_law_415 rfl (lv_at hl 4 rfl) ?_
  refine lv_aload_n hx hb dL_law_416 rfl (lv_at hl 2 rfl) ?_
  refine lv_iload hx hb dL_law_417 (lv_at hl 1 rfl) ?_
  refine lv_iconst (v := nI 1) hx hb dL_law_419 (by decide) ?_
  refine q_iadd (v := nI (4 * i + 1)) hx hb dL_law_420 (nI_add _ _) ?_
  refine q_sld (v := xs (4 * i + 1)) hx hb hX hbl hbA hS (by omega) hL dL_law_421 rfl ?_
  refine lv_aload_n hx hb dL_law_422 rfl (lv_at hl 2 rfl) ?_
  refine lv_iload hx hb dL_law_423 (lv_at hl 1 rfl) ?_
  refine lv_iconst (v := nI 2) hx hb dL_law_425 (by decide) ?_
  refine q_iadd (v := nI (4 * i + 2)) hx hb dL_law_426 (nI_add _ _) ?_
  refine q_sld (v := xs (4 * i + 2)) hx hb hX hbl hbA hS (by omega) hL dL_law_427 rfl ?_
  have hr0 := va_recv hE.K hP (ci := 5) (q0 := 0) rfl rfl
  have hP := q_swP hP
  have hD := q_swD hD
  refine q_wrV (wr := (oW g oa (f) :: wC g ad mc M sig z)) (As := [.int (xs (4 * i + 1)), .int (xs (4 * i + 2))]) (rest := []) ⟨hx, hb, hml, hown, hts⟩ (cn_X4_setDelay_1 hV hR hx_) (cwV 2 hts gL_law_X4_setDelay rfl rfl rfl (by decide +kernel) ⟨Nat.le_of_ble_eq_true rfl, Nat.le_of_ble_eq_true rfl⟩) hE hP hD hS hA hr0 rfl hl.1 rfl (Nat.le_of_ble_eq_true rfl) dL_law_428 ⟨by show _ ≤ 601024; omega, by show _ ≤ 7293034; omega⟩ (fun _u H locs hP hD hS hE => ?_)
  have hP : va_P g.1 vwCl (wMo g am (nI 1) sa z ++ (oW g oa (f) :: wC g ad mc M sig z)) H := q_swP hP
  have hD : va_D (q_n s.heap) (wMo g am (nI 1) sa z ++ (oW g oa (f) :: wC g ad mc M sig z)) := q_swD hD
  refine lv_istore (lv' := [(6, .int (nI 0)), (5, .int (nI 1)), (4, .int (nI (4 * i))), (0, .ref b), (1, .ref (ad 0)), (2, .ref (am 0)), (3, .ref oa)]) hx hb dL_law_431 hl (by decide) rfl (fun ls hl => ?_)
  refine lv_aload_n hx hb dL_law_433 rfl (lv_at hl 5 rfl) ?_
  refine q_roV (As := []) (rest := []) ⟨hx, hb, hml, hown, hts⟩ (c_X4_thrown (am := am) (th := nI 1) (sa := sa) (z := z)) (cwV 0 hts gL_law_X4_thrown rfl rfl rfl (by decide +kernel) ⟨Nat.le_of_ble_eq_true rfl, Nat.le_of_ble_eq_true rfl⟩) hE (fun q h => hA q (Nat.le_trans hS.1 h)) (fun k q h => hP k q (q_apL h)) (va_recv hE.K hP (ci := 5) (q0 := 0) rfl rfl) rfl hl.1 rfl (Nat.le_of_ble_eq_true rfl) dL_law_434 ⟨by show _ ≤ 601024; omega, by show _ ≤ 7293034; omega⟩ ?_
  refine lv_iload hx hb dL_law_437 (lv_at hl 1 rfl) ?_
  refine q_icmp_eq (tgt := 444) hx hb (by omega) (by omega) dL_law_439 (by decide) (fun c_1 => ?_) (fun c_1 => ?_)
  · refine lv_iload hx hb dL_law_444 (lv_at hl 1 rfl) ?_
    refine q_if_ne (tgt := 461) hx hb (by omega) dL_law_446 (by decide) (fun c_2 => ?_) (fun c_2 => ?_)
    · refine lv_goto (tgt := 1379) hx hb dL_law_461 (by decide) ?_
      exact W.widen (k := cells + 3) (n := slots + 27) (by omega) (by omega) (kk (ad) (nI 1) (mc) (M) (sig) (sa) (z) (f) H locs _ (rfl) ⟨hIV, hP, hD, hS, hE⟩ (lv_sub hl [2, 3, 4, 5, 6] rfl))
    · exact absurd c_2 (by decide)
  · exact absurd rfl c_1
set_option maxHeartbeats 4000000 in
set_option maxRecDepth 100000 in
theorem lw_c4_2 {p : Program} {l : Launch} {e : Env} {s : State} {m : MethodId} {below : List Frame} {meth : Method} {c : Code} {H : Heap} {locs : List Loc} {Q : State → Prop} {ls : Array Slot} {g : gT} {am ad : Nat → Nat} {oa : Nat} {th mc : Int32} {M : Nat} {sig sa : Nat → Int32} {z : sT} {f : Nat → Int64} {b L i cells slots : Nat} {xs : Nat → Int32} (C : LC p l s m c b L xs) (D : LD g s am ad oa th mc M sig sa z f H locs) (hi : 4 * i + 4 ≤ L) (hc : cells + 3 ≤ 601024) (hs : slots + 27 ≤ 7293034) (hl : lv_has ls 9 (lL (4 * i) b (ad 0) (am 0) oa)) (kk : LK p l e s m below meth c g b am oa (ad 0) (4 * i) cells slots Q) {k : Nat} (hk_ : k < sn z) (hx_ : ¬ inR (xs (4 * i + 2)) (sL z)) (e1 : xs (4 * i + 1) = nI k) : W p l e room_1 s m #[Value.ref b] below meth c H locs cells slots Q (F0 m 396 ls []) := by
  obtain ⟨hx, hb, hml, hown, hts, hl0, hX, hbl, hL⟩ := C
  obtain ⟨hIV, hP, hD, hS, hE⟩ := D
  have hV := hIV.1
  have hM := hIV.2.1
  have hR := hIV.2.2.1
  have hK := hIV.K
  have hn := hV.n
  have hbA : ¬ q_n s.heap b := Nat.not_le.mpr hbl
  have hA : ∀ q, s.heap.size ≤ q → q_n s.heap q := fun _ h => h
  refine lv_aload_n hx hb dL_law_396 rfl (lv_at hl 2 rfl) ?_
  refine lv_aload_n hx hb dL_law_397 rfl (lv_at hl 1 rfl) ?_
  refine lv_iload hx hb dL_law_398 (lv_at hl 0 rfl) ?_
  refine lv_iconst (v := nI 1) hx hb dL_law_400 (by decide) ?_
  refine q_iadd (v := nI (4 * i + 1)) hx hb dL_law_401 (nI_add _ _) ?_
  refine q_sld (v := nI k) hx hb hX hbl hbA hS (by omega) hL dL_law_402 e1 ?_
  refine lv_aload_n hx hb dL_law_403 rfl (lv_at hl 1 rfl) ?_
  refine lv_iload hx hb dL_law_404 (lv_at hl 0 rfl) ?_
  refine lv_iconst (v := nI 2) hx hb dL_law_406 (by decide) ?_
  refine q_iadd (v := nI (4 * i + 2)) hx hb dL_law_407 (nI_add _ _) ?_
  refine q_sld (v := xs (4 * i + 2)) hx hb hX hbl hbA hS (by omega) hL dL_law_408 rfl ?_
  refine lv_aload_n hx hb dL_law_409 rfl (lv_at hl 4 rfl) ?_
  refine q_wrSW (wr := wMo g am th sa z) (As := [.ref (ad 0), .int (nI k), .int (xs (4 * i + 2)), .ref oa]) (rest := []) ⟨hx, hb, hml, hown, hts⟩ (w_L_setDelay_2 hl0 hM hV hk_ hx_) (vx_cwSW 4 hts gL_law_L_setDelay rfl rfl rfl (by decide +kernel) ⟨Nat.le_of_ble_eq_true rfl, Nat.le_of_ble_eq_true rfl⟩) hE hP hD hS hA rfl hl.1 rfl (Nat.le_of_ble_eq_true rfl) dL_law_410 ⟨by show _ ≤ 601024; omega, by show _ ≤ 7293034; omega⟩ (fun _u H locs hP hD hS hE => ?_)
  have hP : va_P g.1 vwCl (wMo g am th sa z ++ (oW g oa (f) :: wC g ad mc M sig z)) H := hP
  have hD : va_D (q_n s.heap) (wMo g am th sa z ++ (oW g oa (f) :: wC g ad mc M sig z)) := hD
  refine lv_istore (lv' := [(5, .int (nI 2)), (4, .int (nI (4 * i))), (0, .ref b), (1, .ref (ad 0)), (2, .ref (am 0)), (3, .ref oa)]) hx hb dL_law_413 hl (by decide) rfl (fun ls hl => ?_)
  refine lv_aload_n hx hb dL_law_415 rfl (lv_at hl 4 rfl) ?_
  refine lv_aload_n hx hb dL_law_416 rfl (lv_at hl 2 rfl) ?_
  refine lv_iload hx hb dL_law_417 (lv_at hl 1 rfl) ?_
  refine lv_iconst (v := nI 1) hx hb dL_law_419 (by decide) ?_
  refine q_iadd (v := nI (4 * i + 1)) hx hb dL_law_420 (nI_add _ _) ?_
  refine q_sld (v := nI k) hx hb hX hbl hbA hS (by omega) hL dL_law_421 e1 ?_
  refine lv_aload_n hx hb dL_law_422 rfl (lv_at hl 2 rfl) ?_
  refine lv_iload hx hb dL_law_423 (lv_at hl 1 rfl) ?_
  refine lv_iconst (v := nI 2) hx hb dL_law_425 (by decide) ?_
  refine q_iadd (v := nI (4 * i + 2)) hx hb dL_law_426 (nI_add _ _) ?_
  refine q_sld (v := xs (4 * i + 2)) hx hb hX hbl hbA hS (by omega) hL dL_law_427 rfl ?_
  have hr0 := va_recv hE.K hP (ci := 5) (q0 := 0) rfl rfl
  have hP := q_swP hP
  have hD := q_swD hD
  refine q_wrV (wr := (oW g oa (f) :: wC g ad mc M sig z)) (As := [.int (nI k), .int (xs (4 * i + 2))]) (rest := []) ⟨hx, hb, hml, hown, hts⟩ (cn_X4_setDelay_2 hV hR hk_ hx_) (cwV 2 hts gL_law_X4_setDelay rfl rfl rfl (by decide +kernel) ⟨Nat.le_of_ble_eq_true rfl, Nat.le_of_ble_eq_true rfl⟩) hE hP hD hS hA hr0 rfl hl.1 rfl (Nat.le_of_ble_eq_true rfl) dL_law_428 ⟨by show _ ≤ 601024; omega, by show _ ≤ 7293034; omega⟩ (fun _u H locs hP hD hS hE => ?_)
  have hP : va_P g.1 vwCl (wMo g am (nI 2) sa z ++ (oW g oa (f) :: wC g ad mc M sig z)) H := q_swP hP
  have hD : va_D (q_n s.heap) (wMo g am (nI 2) sa z ++ (oW g oa (f) :: wC g ad mc M sig z)) := q_swD hD
  refine lv_istore (lv' := [(6, .int (nI 0)), (5, .int (nI 2)), (4, .int (nI (4 * i))), (0, .ref b), (1, .ref (ad 0)), (2, .ref (am 0)), (3, .ref oa)]) hx hb dL_law_431 hl (by decide) rfl (fun ls hl => ?_)
  refine lv_aload_n hx hb dL_law_433 rfl (lv_at hl 5 rfl) ?_
  refine q_roV (As := []) (rest := []) ⟨hx, hb, hml, hown, hts⟩ (c_X4_thrown (am := am) (th := nI 2) (sa := sa) (z := z)) (cwV 0 hts gL_law_X4_thrown rfl rfl rfl (by decide +kernel) ⟨Nat.le_of_ble_eq_true rfl, Nat.le_of_ble_eq_true rfl⟩) hE (fun q h => hA q (Nat.le_trans hS.1 h)) (fun k q h => hP k q (q_apL h)) (va_recv hE.K hP (ci := 5) (q0 := 0) rfl rfl) rfl hl.1 rfl (Nat.le_of_ble_eq_true rfl) dL_law_434 ⟨by show _ ≤ 601024; omega, by show _ ≤ 7293034; omega⟩ ?_
  refine lv_iload hx hb dL_law_437 (lv_at hl 1 rfl) ?_
  refine q_icmp_eq (tgt := 444) hx hb (by omega) (by omega) dL_law_439 (by decide) (fun c_1 => ?_) (fun c_1 => ?_)
  · refine lv_iload hx hb dL_law_444 (lv_at hl 1 rfl) ?_
    refine q_if_ne (tgt := 461) hx hb (by omega) dL_law_446 (by decide) (fun c_2 => ?_) (fun c_2 => ?_)
    · refine lv_goto (tgt := 1379) hx hb dL_law_461 (by decide) ?_
      exact W.widen (k := cells + 3) (n := slots + 27) (by omega) (by omega) (kk (ad) (nI 2) (mc) (M) (sig) (sa) (z) (f) H locs _ (rfl) ⟨hIV, hP, hD, hS, hE⟩ (lv_sub hl [2, 3, 4, 5, 6] rfl))
    · exact absurd c_2 (by decide)
  · exact absurd rfl c_1
set_option maxHeartbeats 4000000 in
set_option maxRecDepth 100000 in
theorem lw_c5 {p : Program} {l : Launch} {e : Env} {s : State} {m : MethodId} {below : List Frame} {meth : Method} {c : Code} {H : Heap} {locs : List Loc} {Q : State → Prop} {ls : Array Slot} {g : gT} {am ad : Nat → Nat} {oa : Nat} {th mc : Int32} {M : Nat} {sig sa : Nat → Int32} {z : sT} {f : Nat → Int64} {b L i cells slots : Nat} {xs : Nat → Int32} (C : LC p l s m c b L xs) (D : LD g s am ad oa th mc M sig sa z f H locs) (hi : 4 * i + 4 ≤ L) (hc : cells + 3 ≤ 601024) (hs : slots + 27 ≤ 7293034) (hl : lv_has ls 9 (lL (4 * i) b (ad 0) (am 0) oa)) (kk : LK p l e s m below meth c g b am oa (ad 0) (4 * i) cells slots Q) {k s_ : Nat} (hk_ : k < sn z) (h1_ : 1 ≤ s_) (h9_ : s_ ≤ 9) (e1 : xs (4 * i + 1) = nI k) (e2 : xs (4 * i + 2) = nI s_) : W p l e room_1 s m #[Value.ref b] below meth c H locs cells slots Q (F0 m 464 ls []) := by
  obtain ⟨hx, hb, hml, hown, hts, hl0, hX, hbl, hL⟩ := C
  obtain ⟨hIV, hP, hD, hS, hE⟩ := D
  have hV := hIV.1
  have hM := hIV.2.1
  have hR := hIV.2.2.1
  have hK := hIV.K
  have hn := hV.n
  have hbA : ¬ q_n s.heap b := Nat.not_le.mpr hbl
  have hA : ∀ q, s.heap.size ≤ q → q_n s.heap q := fun _ h => h
  refine lv_aload_n hx hb dL_law_464 rfl (lv_at hl 2 rfl) ?_
  refine lv_aload_n hx hb dL_law_465 rfl (lv_at hl 1 rfl) ?_
  refine lv_iload hx hb dL_law_466 (lv_at hl 0 rfl) ?_
  refine lv_iconst (v := nI 1) hx hb dL_law_468 (by decide) ?_
  refine q_iadd (v := nI (4 * i + 1)) hx hb dL_law_469 (nI_add _ _) ?_
  refine q_sld (v := nI k) hx hb hX hbl hbA hS (by omega) hL dL_law_470 e1 ?_
  refine lv_aload_n hx hb dL_law_471 rfl (lv_at hl 1 rfl) ?_
  refine lv_iload hx hb dL_law_472 (lv_at hl 0 rfl) ?_
  refine lv_iconst (v := nI 2) hx hb dL_law_474 (by decide) ?_
  refine q_iadd (v := nI (4 * i + 2)) hx hb dL_law_475 (nI_add _ _) ?_
  refine q_sld (v := nI s_) hx hb hX hbl hbA hS (by omega) hL dL_law_476 e2 ?_
  refine lv_aload_n hx hb dL_law_477 rfl (lv_at hl 4 rfl) ?_
  refine q_wrSW (wr := wMo g am th sa z) (As := [.ref (ad 0), .int (nI k), .int (nI s_), .ref oa]) (rest := []) ⟨hx, hb, hml, hown, hts⟩ (w_L_setStrength hM hV hk_ h1_ h9_) (vx_cwSW 4 hts gL_law_L_setStrength rfl rfl rfl (by decide +kernel) ⟨Nat.le_of_ble_eq_true rfl, Nat.le_of_ble_eq_true rfl⟩) hE hP hD hS hA rfl hl.1 rfl (Nat.le_of_ble_eq_true rfl) dL_law_478 ⟨by show _ ≤ 601024; omega, by show _ ≤ 7293034; omega⟩ (fun _u H locs hP hD hS hE => ?_)
  have hP : va_P g.1 vwCl (wMo g am th sa z ++ (oW g oa (vp_updL f 0 (nI (ssr z k)).toInt64) :: wC g ad mc M (adWs sig (nI s_ - nI (ssr z k)) z k (ssd z k)) (zsr z k s_))) H := hP
  have hD : va_D (q_n s.heap) (wMo g am th sa z ++ (oW g oa (vp_updL f 0 (nI (ssr z k)).toInt64) :: wC g ad mc M (adWs sig (nI s_ - nI (ssr z k)) z k (ssd z k)) (zsr z k s_))) := hD
  refine lv_istore (lv' := [(5, .int (nI 0)), (4, .int (nI (4 * i))), (0, .ref b), (1, .ref (ad 0)), (2, .ref (am 0)), (3, .ref oa)]) hx hb dL_law_481 hl (by decide) rfl (fun ls hl => ?_)
  refine lv_aload_n hx hb dL_law_483 rfl (lv_at hl 4 rfl) ?_
  refine lv_aload_n hx hb dL_law_484 rfl (lv_at hl 2 rfl) ?_
  refine lv_iload hx hb dL_law_485 (lv_at hl 1 rfl) ?_
  refine lv_iconst (v := nI 1) hx hb dL_law_487 (by decide) ?_
  refine q_iadd (v := nI (4 * i + 1)) hx hb dL_law_488 (nI_add _ _) ?_
  refine q_sld (v := nI k) hx hb hX hbl hbA hS (by omega) hL dL_law_489 e1 ?_
  refine lv_aload_n hx hb dL_law_490 rfl (lv_at hl 2 rfl) ?_
  refine lv_iload hx hb dL_law_491 (lv_at hl 1 rfl) ?_
  refine lv_iconst (v := nI 2) hx hb dL_law_493 (by decide) ?_
  refine q_iadd (v := nI (4 * i + 2)) hx hb dL_law_494 (nI_add _ _) ?_
  refine q_sld (v := nI s_) hx hb hX hbl hbA hS (by omega) hL dL_law_495 e2 ?_
  have hr0 := va_recv hE.K hP (ci := 5) (q0 := 0) rfl rfl
  have hP := q_swP hP
  have hD := q_swD hD
  refine q_wrV (wr := (oW g oa (vp_updL f 0 (nI (ssr z k)).toInt64) :: wC g ad mc M (adWs sig (nI s_ - nI (ssr z k)) z k (ssd z k)) (zsr z k s_))) (As := [.int (nI k), .int (nI s_)]) (rest := []) ⟨hx, hb, hml, hown, hts⟩ (c_X4_setStrength hV hR hk_ h1_ h9_) (cwV 2 hts gL_law_X4_setStrength rfl rfl rfl (by decide +kernel) ⟨Nat.le_of_ble_eq_true rfl, Nat.le_of_ble_eq_true rfl⟩) hE hP hD hS hA hr0 rfl hl.1 rfl (Nat.le_of_ble_eq_true rfl) dL_law_496 ⟨by show _ ≤ 601024; omega, by show _ ≤ 7293034; omega⟩ (fun _u H locs hP hD hS hE => ?_)
  have hP : va_P g.1 vwCl (wMo g am (nI 0) sa (zsr z k s_) ++ (oW g oa (vp_updL f 0 (nI (ssr z k)).toInt64) :: wC g ad mc M (adWs sig (nI s_ - nI (ssr z k)) z k (ssd z k)) (zsr z k s_))) H := q_swP hP
  have hD : va_D (q_n s.heap) (wMo g am (nI 0) sa (zsr z k s_) ++ (oW g oa (vp_updL f 0 (nI (ssr z k)).toInt64) :: wC g ad mc M (adWs sig (nI s_ - nI (ssr z k)) z k (ssd z k)) (zsr z k s_))) := q_swD hD
  refine lv_istore (lv' := [(6, .int (nI (ssr z k))), (5, .int (nI 0)), (4, .int (nI (4 * i))), (0, .ref b), (1, .ref (ad 0)), (2, .ref (am 0)), (3, .ref oa)]) hx hb dL_law_499 hl (by decide) rfl (fun ls hl => ?_)
  refine lv_aload_n hx hb dL_law_501 rfl (lv_at hl 5 rfl) ?_
  refine q_roV (As := []) (rest := []) ⟨hx, hb, hml, hown, hts⟩ (c_X4_thrown (am := am) (th := nI 0) (sa := sa) (z := zsr z k s_)) (cwV 0 hts gL_law_X4_thrown rfl rfl rfl (by decide +kernel) ⟨Nat.le_of_ble_eq_true rfl, Nat.le_of_ble_eq_true rfl⟩) hE (fun q h => hA q (Nat.le_trans hS.1 h)) (fun k q h => hP k q (q_apL h)) (va_recv hE.K hP (ci := 5) (q0 := 0) rfl rfl) rfl hl.1 rfl (Nat.le_of_ble_eq_true rfl) dL_law_502 ⟨by show _ ≤ 601024; omega, by show _ ≤ 7293034; omega⟩ ?_
  refine lv_iload hx hb dL_law_505 (lv_at hl 1 rfl) ?_
  refine q_icmp_eq (tgt := 512) hx hb (by omega) (by omega) dL_law_507 (by decide) (fun c_1 => ?_) (fun c_1 => ?_)
  · refine lv_iload hx hb dL_law_512 (lv_at hl 1 rfl) ?_
    refine q_if_ne (tgt := 529) hx hb (by omega) dL_law_514 (by decide) (fun c_2 => ?_) (fun c_2 => ?_)
    · exact absurd c_2 (by decide)
    · refine lv_aload_n hx hb dL_law_517 rfl (lv_at hl 6 rfl) ?_
      refine lv_iconst (v := nI 0) hx hb dL_law_518 (by decide) ?_
      refine q_lald (v := (nI (ssr z k)).toInt64) (q0 := 7) hx hb hE hP rfl dL_law_519 (rfl) ?_
      refine lv_iload hx hb dL_law_520 (lv_at hl 0 rfl) ?_
      refine lv_i2l (v := (nI (ssr z k)).toInt64) hx hb dL_law_522 rfl ?_
      refine q_lcmp hx hb dL_law_523 rfl ?_
      refine q_if_eq (tgt := 529) hx hb (by omega) dL_law_524 (by decide) (fun c_3 => ?_) (fun c_3 => ?_)
      · refine lv_goto (tgt := 1379) hx hb dL_law_529 (by decide) ?_
        exact W.widen (k := cells + 3) (n := slots + 27) (by omega) (by omega) (kk (ad) (nI 0) (mc) (M) (adWs sig (nI s_ - nI (ssr z k)) z k (ssd z k)) (sa) (zsr z k s_) (vp_updL f 0 (nI (ssr z k)).toInt64) H locs _ (rfl) ⟨hIV.sr hk_ h1_ h9_, hP, hD, hS, hE⟩ (lv_sub hl [2, 3, 4, 5, 6] rfl))
      · exact absurd c_3 (by omega)
  · exact absurd rfl c_1
set_option maxHeartbeats 4000000 in
set_option maxRecDepth 100000 in
theorem lw_c5_1 {p : Program} {l : Launch} {e : Env} {s : State} {m : MethodId} {below : List Frame} {meth : Method} {c : Code} {H : Heap} {locs : List Loc} {Q : State → Prop} {ls : Array Slot} {g : gT} {am ad : Nat → Nat} {oa : Nat} {th mc : Int32} {M : Nat} {sig sa : Nat → Int32} {z : sT} {f : Nat → Int64} {b L i cells slots : Nat} {xs : Nat → Int32} (C : LC p l s m c b L xs) (D : LD g s am ad oa th mc M sig sa z f H locs) (hi : 4 * i + 4 ≤ L) (hc : cells + 3 ≤ 601024) (hs : slots + 27 ≤ 7293034) (hl : lv_has ls 9 (lL (4 * i) b (ad 0) (am 0) oa)) (kk : LK p l e s m below meth c g b am oa (ad 0) (4 * i) cells slots Q) (hx_ : ¬ inR (xs (4 * i + 1)) (sn z)) : W p l e room_1 s m #[Value.ref b] below meth c H locs cells slots Q (F0 m 464 ls []) := by
  obtain ⟨hx, hb, hml, hown, hts, hl0, hX, hbl, hL⟩ := C
  obtain ⟨hIV, hP, hD, hS, hE⟩ := D
  have hV := hIV.1
  have hM := hIV.2.1
  have hR := hIV.2.2.1
  have hK := hIV.K
  have hn := hV.n
  have hbA : ¬ q_n s.heap b := Nat.not_le.mpr hbl
  have hA : ∀ q, s.heap.size ≤ q → q_n s.heap q := fun _ h => h
  refine lv_aload_n hx hb dL_law_464 rfl (lv_at hl 2 rfl) ?_
  refine lv_aload_n hx hb dL_law_465 rfl (lv_at hl 1 rfl) ?_
  refine lv_iload hx hb dL_law_466 (lv_at hl 0 rfl) ?_
  refine lv_iconst (v := nI 1) hx hb dL_law_468 (by decide) ?_
  refine q_iadd (v := nI (4 * i + 1)) hx hb dL_law_469 (nI_add _ _) ?_
  refine q_sld (v := xs (4 * i + 1)) hx hb hX hbl hbA hS (by omega) hL dL_law_470 rfl ?_
  refine lv_aload_n hx hb dL_law_471 rfl (lv_at hl 1 rfl) ?_
  refine lv_iload hx hb dL_law_472 (lv_at hl 0 rfl) ?_
  refine lv_iconst (v := nI 2) hx hb dL_law_474 (by decide) ?_
  refine q_iadd (v := nI (4 * i + 2)) hx hb dL_law_475 (nI_add _ _) ?_
  refine q_sld (v := xs (4 * i + 2)) hx hb hX hbl hbA hS (by omega) hL dL_law_476 rfl ?_
  refine lv_aload_n hx hb dL_law_477 rfl (lv_at hl 4 rfl) ?_
  refine q_wrSW (wr := wMo g am th sa z) (As := [.ref (ad 0), .int (xs (4 * i + 1)), .int (xs (4 * i + 2)), .ref oa]) (rest := []) ⟨hx, hb, hml, hown, hts⟩ (w_L_setStrength_1 hl0 hM hV hx_) (vx_cwSW 4 hts gL_law_L_setStrength rfl rfl rfl (by decide +kernel) ⟨Nat.le_of_ble_eq_true rfl, Nat.le_of_ble_eq_true rfl⟩) hE hP hD hS hA rfl hl.1 rfl (Nat.le_of_ble_eq_true rfl) dL_law_478 ⟨by show _ ≤ 601024; omega, by show _ ≤ 7293034; omega⟩ (fun _u H locs hP hD hS hE => ?_)
  have hP : va_P g.1 vwCl (wMo g am th sa z ++ (oW g oa (f) :: wC g ad mc M sig z)) H := hP
  have hD : va_D (q_n s.heap) (wMo g am th sa z ++ (oW g oa (f) :: wC g ad mc M sig z)) := hD
  refine lv_istore (lv' := [(5, .int (nI 1)), (4, .int (nI (4 * i))), (0, .ref b), (1, .ref (ad 0)), (2, .ref (am 0)), (3, .ref oa)]) hx hb dL_law_481 hl (by decide) rfl (fun ls hl => ?_)
  refine lv_aload_n hx hb dL_law_483 rfl (lv_at hl 4 rfl) ?_
  refine lv_aload_n hx hb dL_law_484 rfl (lv_at hl 2 rfl) ?_
  refine lv_iload hx hb dL_law_485 (lv_at hl 1 rfl) ?_
  refine lv_iconst (v := nI 1) hx hb dL_law_487 (by decide) ?_
  refine q_iadd (v := nI (4 * i + 1)) hx hb dL_law_488 (nI_add _ _) ?_
  refine q_sld (v := xs (4 * i + 1)) hx hb hX hbl hbA hS (by omega) hL dL_law_489 rfl ?_
  refine lv_aload_n hx hb dL_law_490 rfl (lv_at hl 2 rfl) ?_
  refine lv_iload hx hb dL_law_491 (lv_at hl 1 rfl) ?_
  refine lv_iconst (v := nI 2) hx hb dL_law_493 (by decide) ?_
  refine q_iadd (v := nI (4 * i + 2)) hx hb dL_law_494 (nI_add _ _) ?_
  refine q_sld (v := xs (4 * i + 2)) hx hb hX hbl hbA hS (by omega) hL dL_law_495 rfl ?_
  have hr0 := va_recv hE.K hP (ci := 5) (q0 := 0) rfl rfl
  have hP := q_swP hP
  have hD := q_swD hD
  refine q_wrV (wr := (oW g oa (f) :: wC g ad mc M sig z)) (As := [.int (xs (4 * i + 1)), .int (xs (4 * i + 2))]) (rest := []) ⟨hx, hb, hml, hown, hts⟩ (cn_X4_setStrength_1 hV hR hx_) (cwV 2 hts gL_law_X4_setStrength rfl rfl rfl (by decide +kernel) ⟨Nat.le_of_ble_eq_true rfl, Nat.le_of_ble_eq_true rfl⟩) hE hP hD hS hA hr0 rfl hl.1 rfl (Nat.le_of_ble_eq_true rfl) dL_law_496 ⟨by show _ ≤ 601024; omega, by show _ ≤ 7293034; omega⟩ (fun _u H locs hP hD hS hE => ?_)
  have hP : va_P g.1 vwCl (wMo g am (nI 1) sa z ++ (oW g oa (f) :: wC g ad mc M sig z)) H := q_swP hP
  have hD : va_D (q_n s.heap) (wMo g am (nI 1) sa z ++ (oW g oa (f) :: wC g ad mc M sig z)) := q_swD hD
  refine lv_istore (lv' := [(6, .int (nI 0)), (5, .int (nI 1)), (4, .int (nI (4 * i))), (0, .ref b), (1, .ref (ad 0)), (2, .ref (am 0)), (3, .ref oa)]) hx hb dL_law_499 hl (by decide) rfl (fun ls hl => ?_)
  refine lv_aload_n hx hb dL_law_501 rfl (lv_at hl 5 rfl) ?_
  refine q_roV (As := []) (rest := []) ⟨hx, hb, hml, hown, hts⟩ (c_X4_thrown (am := am) (th := nI 1) (sa := sa) (z := z)) (cwV 0 hts gL_law_X4_thrown rfl rfl rfl (by decide +kernel) ⟨Nat.le_of_ble_eq_true rfl, Nat.le_of_ble_eq_true rfl⟩) hE (fun q h => hA q (Nat.le_trans hS.1 h)) (fun k q h => hP k q (q_apL h)) (va_recv hE.K hP (ci := 5) (q0 := 0) rfl rfl) rfl hl.1 rfl (Nat.le_of_ble_eq_true rfl) dL_law_502 ⟨by show _ ≤ 601024; omega, by show _ ≤ 7293034; omega⟩ ?_
  refine lv_iload hx hb dL_law_505 (lv_at hl 1 rfl) ?_
  refine q_icmp_eq (tgt := 512) hx hb (by omega) (by omega) dL_law_507 (by decide) (fun c_1 => ?_) (fun c_1 => ?_)
  · refine lv_iload hx hb dL_law_512 (lv_at hl 1 rfl) ?_
    refine q_if_ne (tgt := 529) hx hb (by omega) dL_law_514 (by decide) (fun c_2 => ?_) (fun c_2 => ?_)
    · refine lv_goto (tgt := 1379) hx hb dL_law_529 (by decide) ?_
      exact W.widen (k := cells + 3) (n := slots + 27) (by omega) (by omega) (kk (ad) (nI 1) (mc) (M) (sig) (sa) (z) (f) H locs _ (rfl) ⟨hIV, hP, hD, hS, hE⟩ (lv_sub hl [2, 3, 4, 5, 6] rfl))
    · exact absurd c_2 (by decide)
  · exact absurd rfl c_1
set_option maxHeartbeats 4000000 in
set_option maxRecDepth 100000 in
theorem lw_c5_2 {p : Program} {l : Launch} {e : Env} {s : State} {m : MethodId} {below : List Frame} {meth : Method} {c : Code} {H : Heap} {locs : List Loc} {Q : State → Prop} {ls : Array Slot} {g : gT} {am ad : Nat → Nat} {oa : Nat} {th mc : Int32} {M : Nat} {sig sa : Nat → Int32} {z : sT} {f : Nat → Int64} {b L i cells slots : Nat} {xs : Nat → Int32} (C : LC p l s m c b L xs) (D : LD g s am ad oa th mc M sig sa z f H locs) (hi : 4 * i + 4 ≤ L) (hc : cells + 3 ≤ 601024) (hs : slots + 27 ≤ 7293034) (hl : lv_has ls 9 (lL (4 * i) b (ad 0) (am 0) oa)) (kk : LK p l e s m below meth c g b am oa (ad 0) (4 * i) cells slots Q) {k : Nat} (hk_ : k < sn z) (hx_ : ¬ inB (xs (4 * i + 2)) 1 9) (e1 : xs (4 * i + 1) = nI k) : W p l e room_1 s m #[Value.ref b] below meth c H locs cells slots Q (F0 m 464 ls []) := by
  obtain ⟨hx, hb, hml, hown, hts, hl0, hX, hbl, hL⟩ := C
  obtain ⟨hIV, hP, hD, hS, hE⟩ := D
  have hV := hIV.1
  have hM := hIV.2.1
  have hR := hIV.2.2.1
  have hK := hIV.K
  have hn := hV.n
  have hbA : ¬ q_n s.heap b := Nat.not_le.mpr hbl
  have hA : ∀ q, s.heap.size ≤ q → q_n s.heap q := fun _ h => h
  refine lv_aload_n hx hb dL_law_464 rfl (lv_at hl 2 rfl) ?_
  refine lv_aload_n hx hb dL_law_465 rfl (lv_at hl 1 rfl) ?_
  refine lv_iload hx hb dL_law_466 (lv_at hl 0 rfl) ?_
  refine lv_iconst (v := nI 1) hx hb dL_law_468 (by decide) ?_
  refine q_iadd (v := nI (4 * i + 1)) hx hb dL_law_469 (nI_add _ _) ?_
  refine q_sld (v := nI k) hx hb hX hbl hbA hS (by omega) hL dL_law_470 e1 ?_
  refine lv_aload_n hx hb dL_law_471 rfl (lv_at hl 1 rfl) ?_
  refine lv_iload hx hb dL_law_472 (lv_at hl 0 rfl) ?_
  refine lv_iconst (v := nI 2) hx hb dL_law_474 (by decide) ?_
  refine q_iadd (v := nI (4 * i + 2)) hx hb dL_law_475 (nI_add _ _) ?_
  refine q_sld (v := xs (4 * i + 2)) hx hb hX hbl hbA hS (by omega) hL dL_law_476 rfl ?_
  refine lv_aload_n hx hb dL_law_477 rfl (lv_at hl 4 rfl) ?_
  refine q_wrSW (wr := wMo g am th sa z) (As := [.ref (ad 0), .int (nI k), .int (xs (4 * i + 2)), .ref oa]) (rest := []) ⟨hx, hb, hml, hown, hts⟩ (w_L_setStrength_2 hl0 hM hV hk_ hx_) (vx_cwSW 4 hts gL_law_L_setStrength rfl rfl rfl (by decide +kernel) ⟨Nat.le_of_ble_eq_true rfl, Nat.le_of_ble_eq_true rfl⟩) hE hP hD hS hA rfl hl.1 rfl (Nat.le_of_ble_eq_true rfl) dL_law_478 ⟨by show _ ≤ 601024; omega, by show _ ≤ 7293034; omega⟩ (fun _u H locs hP hD hS hE => ?_)
  have hP : va_P g.1 vwCl (wMo g am th sa z ++ (oW g oa (f) :: wC g ad mc M sig z)) H := hP
  have hD : va_D (q_n s.heap) (wMo g am th sa z ++ (oW g oa (f) :: wC g ad mc M sig z)) := hD
  refine lv_istore (lv' := [(5, .int (nI 2)), (4, .int (nI (4 * i))), (0, .ref b), (1, .ref (ad 0)), (2, .ref (am 0)), (3, .ref oa)]) hx hb dL_law_481 hl (by decide) rfl (fun ls hl => ?_)
  refine lv_aload_n hx hb dL_law_483 rfl (lv_at hl 4 rfl) ?_
  refine lv_aload_n hx hb dL_law_484 rfl (lv_at hl 2 rfl) ?_
  refine lv_iload hx hb dL_law_485 (lv_at hl 1 rfl) ?_
  refine lv_iconst (v := nI 1) hx hb dL_law_487 (by decide) ?_
  refine q_iadd (v := nI (4 * i + 1)) hx hb dL_law_488 (nI_add _ _) ?_
  refine q_sld (v := nI k) hx hb hX hbl hbA hS (by omega) hL dL_law_489 e1 ?_
  refine lv_aload_n hx hb dL_law_490 rfl (lv_at hl 2 rfl) ?_
  refine lv_iload hx hb dL_law_491 (lv_at hl 1 rfl) ?_
  refine lv_iconst (v := nI 2) hx hb dL_law_493 (by decide) ?_
  refine q_iadd (v := nI (4 * i + 2)) hx hb dL_law_494 (nI_add _ _) ?_
  refine q_sld (v := xs (4 * i + 2)) hx hb hX hbl hbA hS (by omega) hL dL_law_495 rfl ?_
  have hr0 := va_recv hE.K hP (ci := 5) (q0 := 0) rfl rfl
  have hP := q_swP hP
  have hD := q_swD hD
  refine q_wrV (wr := (oW g oa (f) :: wC g ad mc M sig z)) (As := [.int (nI k), .int (xs (4 * i + 2))]) (rest := []) ⟨hx, hb, hml, hown, hts⟩ (cn_X4_setStrength_2 hV hR hk_ hx_) (cwV 2 hts gL_law_X4_setStrength rfl rfl rfl (by decide +kernel) ⟨Nat.le_of_ble_eq_true rfl, Nat.le_of_ble_eq_true rfl⟩) hE hP hD hS hA hr0 rfl hl.1 rfl (Nat.le_of_ble_eq_true rfl) dL_law_496 ⟨by show _ ≤ 601024; omega, by show _ ≤ 7293034; omega⟩ (fun _u H locs hP hD hS hE => ?_)
  have hP : va_P g.1 vwCl (wMo g am (nI 2) sa z ++ (oW g oa (f) :: wC g ad mc M sig z)) H := q_swP hP
  have hD : va_D (q_n s.heap) (wMo g am (nI 2) sa z ++ (oW g oa (f) :: wC g ad mc M sig z)) := q_swD hD
  refine lv_istore (lv' := [(6, .int (nI 0)), (5, .int (nI 2)), (4, .int (nI (4 * i))), (0, .ref b), (1, .ref (ad 0)), (2, .ref (am 0)), (3, .ref oa)]) hx hb dL_law_499 hl (by decide) rfl (fun ls hl => ?_)
  refine lv_aload_n hx hb dL_law_501 rfl (lv_at hl 5 rfl) ?_
  refine q_roV (As := []) (rest := []) ⟨hx, hb, hml, hown, hts⟩ (c_X4_thrown (am := am) (th := nI 2) (sa := sa) (z := z)) (cwV 0 hts gL_law_X4_thrown rfl rfl rfl (by decide +kernel) ⟨Nat.le_of_ble_eq_true rfl, Nat.le_of_ble_eq_true rfl⟩) hE (fun q h => hA q (Nat.le_trans hS.1 h)) (fun k q h => hP k q (q_apL h)) (va_recv hE.K hP (ci := 5) (q0 := 0) rfl rfl) rfl hl.1 rfl (Nat.le_of_ble_eq_true rfl) dL_law_502 ⟨by show _ ≤ 601024; omega, by show _ ≤ 7293034; omega⟩ ?_
  refine lv_iload hx hb dL_law_505 (lv_at hl 1 rfl) ?_
  refine q_icmp_eq (tgt := 512) hx hb (by omega) (by omega) dL_law_507 (by decide) (fun c_1 => ?_) (fun c_1 => ?_)
  · refine lv_iload hx hb dL_law_512 (lv_at hl 1 rfl) ?_
    refine q_if_ne (tgt := 529) hx hb (by omega) dL_law_514 (by decide) (fun c_2 => ?_) (fun c_2 => ?_)
    · refine lv_goto (tgt := 1379) hx hb dL_law_529 (by decide) ?_
      exact W.widen (k := cells + 3) (n := slots + 27) (by omega) (by omega) (kk (ad) (nI 2) (mc) (M) (sig) (sa) (z) (f) H locs _ (rfl) ⟨hIV, hP, hD, hS, hE⟩ (lv_sub hl [2, 3, 4, 5, 6] rfl))
    · exact absurd c_2 (by decide)
  · exact absurd rfl c_1
set_option maxHeartbeats 4000000 in
set_option maxRecDepth 100000 in
theorem lw_c6 {p : Program} {l : Launch} {e : Env} {s : State} {m : MethodId} {below : List Frame} {meth : Method} {c : Code} {H : Heap} {locs : List Loc} {Q : State → Prop} {ls : Array Slot} {g : gT} {am ad : Nat → Nat} {oa : Nat} {th mc : Int32} {M : Nat} {sig sa : Nat → Int32} {z : sT} {f : Nat → Int64} {b L i cells slots : Nat} {xs : Nat → Int32} (C : LC p l s m c b L xs) (D : LD g s am ad oa th mc M sig sa z f H locs) (hi : 4 * i + 4 ≤ L) (hc : cells + 3 ≤ 601024) (hs : slots + 27 ≤ 7293034) (hl : lv_has ls 9 (lL (4 * i) b (ad 0) (am 0) oa)) (kk : LK p l e s m below meth c g b am oa (ad 0) (4 * i) cells slots Q) {p_ : Nat} (hp_ : p_ < 20) (hv_ : inB (xs (4 * i + 2)) (-99) 99) (e1 : xs (4 * i + 1) = nI p_) : W p l e room_1 s m #[Value.ref b] below meth c H locs cells slots Q (F0 m 532 ls []) := by
  obtain ⟨hx, hb, hml, hown, hts, hl0, hX, hbl, hL⟩ := C
  obtain ⟨hIV, hP, hD, hS, hE⟩ := D
  have hV := hIV.1
  have hM := hIV.2.1
  have hR := hIV.2.2.1
  have hK := hIV.K
  have hn := hV.n
  have hbA : ¬ q_n s.heap b := Nat.not_le.mpr hbl
  have hA : ∀ q, s.heap.size ≤ q → q_n s.heap q := fun _ h => h
  refine lv_aload_n hx hb dL_law_532 rfl (lv_at hl 2 rfl) ?_
  refine lv_aload_n hx hb dL_law_533 rfl (lv_at hl 1 rfl) ?_
  refine lv_iload hx hb dL_law_534 (lv_at hl 0 rfl) ?_
  refine lv_iconst (v := nI 1) hx hb dL_law_536 (by decide) ?_
  refine q_iadd (v := nI (4 * i + 1)) hx hb dL_law_537 (nI_add _ _) ?_
  refine q_sld (v := nI p_) hx hb hX hbl hbA hS (by omega) hL dL_law_538 e1 ?_
  refine lv_aload_n hx hb dL_law_539 rfl (lv_at hl 1 rfl) ?_
  refine lv_iload hx hb dL_law_540 (lv_at hl 0 rfl) ?_
  refine lv_iconst (v := nI 2) hx hb dL_law_542 (by decide) ?_
  refine q_iadd (v := nI (4 * i + 2)) hx hb dL_law_543 (nI_add _ _) ?_
  refine q_sld (v := xs (4 * i + 2)) hx hb hX hbl hbA hS (by omega) hL dL_law_544 rfl ?_
  refine lv_aload_n hx hb dL_law_545 rfl (lv_at hl 4 rfl) ?_
  refine q_wrSW (wr := wMo g am th sa z) (As := [.ref (ad 0), .int (nI p_), .int (xs (4 * i + 2)), .ref oa]) (rest := []) ⟨hx, hb, hml, hown, hts⟩ (w_L_setStorm hM hV hp_ hv_) (vx_cwSW 4 hts gL_law_L_setStorm rfl rfl rfl (by decide +kernel) ⟨Nat.le_of_ble_eq_true rfl, Nat.le_of_ble_eq_true rfl⟩) hE hP hD hS hA rfl hl.1 rfl (Nat.le_of_ble_eq_true rfl) dL_law_546 ⟨by show _ ≤ 601024; omega, by show _ ≤ 7293034; omega⟩ (fun _u H locs hP hD hS hE => ?_)
  have hP : va_P g.1 vwCl (wMo g am th sa z ++ (oW g oa (vp_updL f 0 (sst z p_).toInt64) :: wC g ad mc M sig (zst z p_ (xs (4 * i + 2))))) H := hP
  have hD : va_D (q_n s.heap) (wMo g am th sa z ++ (oW g oa (vp_updL f 0 (sst z p_).toInt64) :: wC g ad mc M sig (zst z p_ (xs (4 * i + 2))))) := hD
  refine lv_istore (lv' := [(5, .int (nI 0)), (4, .int (nI (4 * i))), (0, .ref b), (1, .ref (ad 0)), (2, .ref (am 0)), (3, .ref oa)]) hx hb dL_law_549 hl (by decide) rfl (fun ls hl => ?_)
  refine lv_aload_n hx hb dL_law_551 rfl (lv_at hl 4 rfl) ?_
  refine lv_aload_n hx hb dL_law_552 rfl (lv_at hl 2 rfl) ?_
  refine lv_iload hx hb dL_law_553 (lv_at hl 1 rfl) ?_
  refine lv_iconst (v := nI 1) hx hb dL_law_555 (by decide) ?_
  refine q_iadd (v := nI (4 * i + 1)) hx hb dL_law_556 (nI_add _ _) ?_
  refine q_sld (v := nI p_) hx hb hX hbl hbA hS (by omega) hL dL_law_557 e1 ?_
  refine lv_aload_n hx hb dL_law_558 rfl (lv_at hl 2 rfl) ?_
  refine lv_iload hx hb dL_law_559 (lv_at hl 1 rfl) ?_
  refine lv_iconst (v := nI 2) hx hb dL_law_561 (by decide) ?_
  refine q_iadd (v := nI (4 * i + 2)) hx hb dL_law_562 (nI_add _ _) ?_
  refine q_sld (v := xs (4 * i + 2)) hx hb hX hbl hbA hS (by omega) hL dL_law_563 rfl ?_
  have hr0 := va_recv hE.K hP (ci := 5) (q0 := 0) rfl rfl
  have hP := q_swP hP
  have hD := q_swD hD
  refine q_wrV (wr := (oW g oa (vp_updL f 0 (sst z p_).toInt64) :: wC g ad mc M sig (zst z p_ (xs (4 * i + 2))))) (As := [.int (nI p_), .int (xs (4 * i + 2))]) (rest := []) ⟨hx, hb, hml, hown, hts⟩ (c_X4_setStorm hV hR hp_ hv_) (cwV 2 hts gL_law_X4_setStorm rfl rfl rfl (by decide +kernel) ⟨Nat.le_of_ble_eq_true rfl, Nat.le_of_ble_eq_true rfl⟩) hE hP hD hS hA hr0 rfl hl.1 rfl (Nat.le_of_ble_eq_true rfl) dL_law_564 ⟨by show _ ≤ 601024; omega, by show _ ≤ 7293034; omega⟩ (fun _u H locs hP hD hS hE => ?_)
  have hP : va_P g.1 vwCl (wMo g am (nI 0) sa (zst z p_ (xs (4 * i + 2))) ++ (oW g oa (vp_updL f 0 (sst z p_).toInt64) :: wC g ad mc M sig (zst z p_ (xs (4 * i + 2))))) H := q_swP hP
  have hD : va_D (q_n s.heap) (wMo g am (nI 0) sa (zst z p_ (xs (4 * i + 2))) ++ (oW g oa (vp_updL f 0 (sst z p_).toInt64) :: wC g ad mc M sig (zst z p_ (xs (4 * i + 2))))) := q_swD hD
  refine lv_istore (lv' := [(6, .int (sst z p_)), (5, .int (nI 0)), (4, .int (nI (4 * i))), (0, .ref b), (1, .ref (ad 0)), (2, .ref (am 0)), (3, .ref oa)]) hx hb dL_law_567 hl (by decide) rfl (fun ls hl => ?_)
  refine lv_aload_n hx hb dL_law_569 rfl (lv_at hl 5 rfl) ?_
  refine q_roV (As := []) (rest := []) ⟨hx, hb, hml, hown, hts⟩ (c_X4_thrown (am := am) (th := nI 0) (sa := sa) (z := zst z p_ (xs (4 * i + 2)))) (cwV 0 hts gL_law_X4_thrown rfl rfl rfl (by decide +kernel) ⟨Nat.le_of_ble_eq_true rfl, Nat.le_of_ble_eq_true rfl⟩) hE (fun q h => hA q (Nat.le_trans hS.1 h)) (fun k q h => hP k q (q_apL h)) (va_recv hE.K hP (ci := 5) (q0 := 0) rfl rfl) rfl hl.1 rfl (Nat.le_of_ble_eq_true rfl) dL_law_570 ⟨by show _ ≤ 601024; omega, by show _ ≤ 7293034; omega⟩ ?_
  refine lv_iload hx hb dL_law_573 (lv_at hl 1 rfl) ?_
  refine q_icmp_eq (tgt := 580) hx hb (by omega) (by omega) dL_law_575 (by decide) (fun c_1 => ?_) (fun c_1 => ?_)
  · refine lv_iload hx hb dL_law_580 (lv_at hl 1 rfl) ?_
    refine q_if_ne (tgt := 597) hx hb (by omega) dL_law_582 (by decide) (fun c_2 => ?_) (fun c_2 => ?_)
    · exact absurd c_2 (by decide)
    · refine lv_aload_n hx hb dL_law_585 rfl (lv_at hl 6 rfl) ?_
      refine lv_iconst (v := nI 0) hx hb dL_law_586 (by decide) ?_
      refine q_lald (v := (sst z p_).toInt64) (q0 := 7) hx hb hE hP rfl dL_law_587 (rfl) ?_
      refine lv_iload hx hb dL_law_588 (lv_at hl 0 rfl) ?_
      refine lv_i2l (v := (sst z p_).toInt64) hx hb dL_law_590 rfl ?_
      refine q_lcmp hx hb dL_law_591 rfl ?_
      refine q_if_eq (tgt := 597) hx hb (by omega) dL_law_592 (by decide) (fun c_3 => ?_) (fun c_3 => ?_)
      · refine lv_goto (tgt := 1379) hx hb dL_law_597 (by decide) ?_
        exact W.widen (k := cells + 3) (n := slots + 27) (by omega) (by omega) (kk (ad) (nI 0) (mc) (M) (sig) (sa) (zst z p_ (xs (4 * i + 2))) (vp_updL f 0 (sst z p_).toInt64) H locs _ (rfl) ⟨hIV.st hv_, hP, hD, hS, hE⟩ (lv_sub hl [2, 3, 4, 5, 6] rfl))
      · exact absurd c_3 (by omega)
  · exact absurd rfl c_1
set_option maxHeartbeats 4000000 in
set_option maxRecDepth 100000 in
theorem lw_c6_1 {p : Program} {l : Launch} {e : Env} {s : State} {m : MethodId} {below : List Frame} {meth : Method} {c : Code} {H : Heap} {locs : List Loc} {Q : State → Prop} {ls : Array Slot} {g : gT} {am ad : Nat → Nat} {oa : Nat} {th mc : Int32} {M : Nat} {sig sa : Nat → Int32} {z : sT} {f : Nat → Int64} {b L i cells slots : Nat} {xs : Nat → Int32} (C : LC p l s m c b L xs) (D : LD g s am ad oa th mc M sig sa z f H locs) (hi : 4 * i + 4 ≤ L) (hc : cells + 3 ≤ 601024) (hs : slots + 27 ≤ 7293034) (hl : lv_has ls 9 (lL (4 * i) b (ad 0) (am 0) oa)) (kk : LK p l e s m below meth c g b am oa (ad 0) (4 * i) cells slots Q) (hx_ : ¬ inR (xs (4 * i + 1)) (20)) : W p l e room_1 s m #[Value.ref b] below meth c H locs cells slots Q (F0 m 532 ls []) := by
  obtain ⟨hx, hb, hml, hown, hts, hl0, hX, hbl, hL⟩ := C
  obtain ⟨hIV, hP, hD, hS, hE⟩ := D
  have hV := hIV.1
  have hM := hIV.2.1
  have hR := hIV.2.2.1
  have hK := hIV.K
  have hn := hV.n
  have hbA : ¬ q_n s.heap b := Nat.not_le.mpr hbl
  have hA : ∀ q, s.heap.size ≤ q → q_n s.heap q := fun _ h => h
  refine lv_aload_n hx hb dL_law_532 rfl (lv_at hl 2 rfl) ?_
  refine lv_aload_n hx hb dL_law_533 rfl (lv_at hl 1 rfl) ?_
  refine lv_iload hx hb dL_law_534 (lv_at hl 0 rfl) ?_
  refine lv_iconst (v := nI 1) hx hb dL_law_536 (by decide) ?_
  refine q_iadd (v := nI (4 * i + 1)) hx hb dL_law_537 (nI_add _ _) ?_
  refine q_sld (v := xs (4 * i + 1)) hx hb hX hbl hbA hS (by omega) hL dL_law_538 rfl ?_
  refine lv_aload_n hx hb dL_law_539 rfl (lv_at hl 1 rfl) ?_
  refine lv_iload hx hb dL_law_540 (lv_at hl 0 rfl) ?_
  refine lv_iconst (v := nI 2) hx hb dL_law_542 (by decide) ?_
  refine q_iadd (v := nI (4 * i + 2)) hx hb dL_law_543 (nI_add _ _) ?_
  refine q_sld (v := xs (4 * i + 2)) hx hb hX hbl hbA hS (by omega) hL dL_law_544 rfl ?_
  refine lv_aload_n hx hb dL_law_545 rfl (lv_at hl 4 rfl) ?_
  refine q_wrSW (wr := wMo g am th sa z) (As := [.ref (ad 0), .int (xs (4 * i + 1)), .int (xs (4 * i + 2)), .ref oa]) (rest := []) ⟨hx, hb, hml, hown, hts⟩ (w_L_setStorm_1 hl0 hM hV hx_) (vx_cwSW 4 hts gL_law_L_setStorm rfl rfl rfl (by decide +kernel) ⟨Nat.le_of_ble_eq_true rfl, Nat.le_of_ble_eq_true rfl⟩) hE hP hD hS hA rfl hl.1 rfl (Nat.le_of_ble_eq_true rfl) dL_law_546 ⟨by show _ ≤ 601024; omega, by show _ ≤ 7293034; omega⟩ (fun _u H locs hP hD hS hE => ?_)
  have hP : va_P g.1 vwCl (wMo g am th sa z ++ (oW g oa (f) :: wC g ad mc M sig z)) H := hP
  have hD : va_D (q_n s.heap) (wMo g am th sa z ++ (oW g oa (f) :: wC g ad mc M sig z)) := hD
  refine lv_istore (lv' := [(5, .int (nI 1)), (4, .int (nI (4 * i))), (0, .ref b), (1, .ref (ad 0)), (2, .ref (am 0)), (3, .ref oa)]) hx hb dL_law_549 hl (by decide) rfl (fun ls hl => ?_)
  refine lv_aload_n hx hb dL_law_551 rfl (lv_at hl 4 rfl) ?_
  refine lv_aload_n hx hb dL_law_552 rfl (lv_at hl 2 rfl) ?_
  refine lv_iload hx hb dL_law_553 (lv_at hl 1 rfl) ?_
  refine lv_iconst (v := nI 1) hx hb dL_law_555 (by decide) ?_
  refine q_iadd (v := nI (4 * i + 1)) hx hb dL_law_556 (nI_add _ _) ?_
  refine q_sld (v := xs (4 * i + 1)) hx hb hX hbl hbA hS (by omega) hL dL_law_557 rfl ?_
  refine lv_aload_n hx hb dL_law_558 rfl (lv_at hl 2 rfl) ?_
  refine lv_iload hx hb dL_law_559 (lv_at hl 1 rfl) ?_
  refine lv_iconst (v := nI 2) hx hb dL_law_561 (by decide) ?_
  refine q_iadd (v := nI (4 * i + 2)) hx hb dL_law_562 (nI_add _ _) ?_
  refine q_sld (v := xs (4 * i + 2)) hx hb hX hbl hbA hS (by omega) hL dL_law_563 rfl ?_
  have hr0 := va_recv hE.K hP (ci := 5) (q0 := 0) rfl rfl
  have hP := q_swP hP
  have hD := q_swD hD
  refine q_wrV (wr := (oW g oa (f) :: wC g ad mc M sig z)) (As := [.int (xs (4 * i + 1)), .int (xs (4 * i + 2))]) (rest := []) ⟨hx, hb, hml, hown, hts⟩ (cn_X4_setStorm_1 hV hR hx_) (cwV 2 hts gL_law_X4_setStorm rfl rfl rfl (by decide +kernel) ⟨Nat.le_of_ble_eq_true rfl, Nat.le_of_ble_eq_true rfl⟩) hE hP hD hS hA hr0 rfl hl.1 rfl (Nat.le_of_ble_eq_true rfl) dL_law_564 ⟨by show _ ≤ 601024; omega, by show _ ≤ 7293034; omega⟩ (fun _u H locs hP hD hS hE => ?_)
  have hP : va_P g.1 vwCl (wMo g am (nI 1) sa z ++ (oW g oa (f) :: wC g ad mc M sig z)) H := q_swP hP
  have hD : va_D (q_n s.heap) (wMo g am (nI 1) sa z ++ (oW g oa (f) :: wC g ad mc M sig z)) := q_swD hD
  refine lv_istore (lv' := [(6, .int (nI 0)), (5, .int (nI 1)), (4, .int (nI (4 * i))), (0, .ref b), (1, .ref (ad 0)), (2, .ref (am 0)), (3, .ref oa)]) hx hb dL_law_567 hl (by decide) rfl (fun ls hl => ?_)
  refine lv_aload_n hx hb dL_law_569 rfl (lv_at hl 5 rfl) ?_
  refine q_roV (As := []) (rest := []) ⟨hx, hb, hml, hown, hts⟩ (c_X4_thrown (am := am) (th := nI 1) (sa := sa) (z := z)) (cwV 0 hts gL_law_X4_thrown rfl rfl rfl (by decide +kernel) ⟨Nat.le_of_ble_eq_true rfl, Nat.le_of_ble_eq_true rfl⟩) hE (fun q h => hA q (Nat.le_trans hS.1 h)) (fun k q h => hP k q (q_apL h)) (va_recv hE.K hP (ci := 5) (q0 := 0) rfl rfl) rfl hl.1 rfl (Nat.le_of_ble_eq_true rfl) dL_law_570 ⟨by show _ ≤ 601024; omega, by show _ ≤ 7293034; omega⟩ ?_
  refine lv_iload hx hb dL_law_573 (lv_at hl 1 rfl) ?_
  refine q_icmp_eq (tgt := 580) hx hb (by omega) (by omega) dL_law_575 (by decide) (fun c_1 => ?_) (fun c_1 => ?_)
  · refine lv_iload hx hb dL_law_580 (lv_at hl 1 rfl) ?_
    refine q_if_ne (tgt := 597) hx hb (by omega) dL_law_582 (by decide) (fun c_2 => ?_) (fun c_2 => ?_)
    · refine lv_goto (tgt := 1379) hx hb dL_law_597 (by decide) ?_
      exact W.widen (k := cells + 3) (n := slots + 27) (by omega) (by omega) (kk (ad) (nI 1) (mc) (M) (sig) (sa) (z) (f) H locs _ (rfl) ⟨hIV, hP, hD, hS, hE⟩ (lv_sub hl [2, 3, 4, 5, 6] rfl))
    · exact absurd c_2 (by decide)
  · exact absurd rfl c_1
set_option maxHeartbeats 4000000 in
set_option maxRecDepth 100000 in
theorem lw_c6_2 {p : Program} {l : Launch} {e : Env} {s : State} {m : MethodId} {below : List Frame} {meth : Method} {c : Code} {H : Heap} {locs : List Loc} {Q : State → Prop} {ls : Array Slot} {g : gT} {am ad : Nat → Nat} {oa : Nat} {th mc : Int32} {M : Nat} {sig sa : Nat → Int32} {z : sT} {f : Nat → Int64} {b L i cells slots : Nat} {xs : Nat → Int32} (C : LC p l s m c b L xs) (D : LD g s am ad oa th mc M sig sa z f H locs) (hi : 4 * i + 4 ≤ L) (hc : cells + 3 ≤ 601024) (hs : slots + 27 ≤ 7293034) (hl : lv_has ls 9 (lL (4 * i) b (ad 0) (am 0) oa)) (kk : LK p l e s m below meth c g b am oa (ad 0) (4 * i) cells slots Q) {p_ : Nat} (hp_ : p_ < 20) (hx_ : ¬ inB (xs (4 * i + 2)) (-99) 99) (e1 : xs (4 * i + 1) = nI p_) : W p l e room_1 s m #[Value.ref b] below meth c H locs cells slots Q (F0 m 532 ls []) := by
  obtain ⟨hx, hb, hml, hown, hts, hl0, hX, hbl, hL⟩ := C
  obtain ⟨hIV, hP, hD, hS, hE⟩ := D
  have hV := hIV.1
  have hM := hIV.2.1
  have hR := hIV.2.2.1
  have hK := hIV.K
  have hn := hV.n
  have hbA : ¬ q_n s.heap b := Nat.not_le.mpr hbl
  have hA : ∀ q, s.heap.size ≤ q → q_n s.heap q := fun _ h => h
  refine lv_aload_n hx hb dL_law_532 rfl (lv_at hl 2 rfl) ?_
  refine lv_aload_n hx hb dL_law_533 rfl (lv_at hl 1 rfl) ?_
  refine lv_iload hx hb dL_law_534 (lv_at hl 0 rfl) ?_
  refine lv_iconst (v := nI 1) hx hb dL_law_536 (by decide) ?_
  refine q_iadd (v := nI (4 * i + 1)) hx hb dL_law_537 (nI_add _ _) ?_
  refine q_sld (v := nI p_) hx hb hX hbl hbA hS (by omega) hL dL_law_538 e1 ?_
  refine lv_aload_n hx hb dL_law_539 rfl (lv_at hl 1 rfl) ?_
  refine lv_iload hx hb dL_law_540 (lv_at hl 0 rfl) ?_
  refine lv_iconst (v := nI 2) hx hb dL_law_542 (by decide) ?_
  refine q_iadd (v := nI (4 * i + 2)) hx hb dL_law_543 (nI_add _ _) ?_
  refine q_sld (v := xs (4 * i + 2)) hx hb hX hbl hbA hS (by omega) hL dL_law_544 rfl ?_
  refine lv_aload_n hx hb dL_law_545 rfl (lv_at hl 4 rfl) ?_
  refine q_wrSW (wr := wMo g am th sa z) (As := [.ref (ad 0), .int (nI p_), .int (xs (4 * i + 2)), .ref oa]) (rest := []) ⟨hx, hb, hml, hown, hts⟩ (w_L_setStorm_2 hl0 hM hV hp_ hx_) (vx_cwSW 4 hts gL_law_L_setStorm rfl rfl rfl (by decide +kernel) ⟨Nat.le_of_ble_eq_true rfl, Nat.le_of_ble_eq_true rfl⟩) hE hP hD hS hA rfl hl.1 rfl (Nat.le_of_ble_eq_true rfl) dL_law_546 ⟨by show _ ≤ 601024; omega, by show _ ≤ 7293034; omega⟩ (fun _u H locs hP hD hS hE => ?_)
  have hP : va_P g.1 vwCl (wMo g am th sa z ++ (oW g oa (f) :: wC g ad mc M sig z)) H := hP
  have hD : va_D (q_n s.heap) (wMo g am th sa z ++ (oW g oa (f) :: wC g ad mc M sig z)) := hD
  refine lv_istore (lv' := [(5, .int (nI 2)), (4, .int (nI (4 * i))), (0, .ref b), (1, .ref (ad 0)), (2, .ref (am 0)), (3, .ref oa)]) hx hb dL_law_549 hl (by decide) rfl (fun ls hl => ?_)
  refine lv_aload_n hx hb dL_law_551 rfl (lv_at hl 4 rfl) ?_
  refine lv_aload_n hx hb dL_law_552 rfl (lv_at hl 2 rfl) ?_
  refine lv_iload hx hb dL_law_553 (lv_at hl 1 rfl) ?_
  refine lv_iconst (v := nI 1) hx hb dL_law_555 (by decide) ?_
  refine q_iadd (v := nI (4 * i + 1)) hx hb dL_law_556 (nI_add _ _) ?_
  refine q_sld (v := nI p_) hx hb hX hbl hbA hS (by omega) hL dL_law_557 e1 ?_
  refine lv_aload_n hx hb dL_law_558 rfl (lv_at hl 2 rfl) ?_
  refine lv_iload hx hb dL_law_559 (lv_at hl 1 rfl) ?_
  refine lv_iconst (v := nI 2) hx hb dL_law_561 (by decide) ?_
  refine q_iadd (v := nI (4 * i + 2)) hx hb dL_law_562 (nI_add _ _) ?_
  refine q_sld (v := xs (4 * i + 2)) hx hb hX hbl hbA hS (by omega) hL dL_law_563 rfl ?_
  have hr0 := va_recv hE.K hP (ci := 5) (q0 := 0) rfl rfl
  have hP := q_swP hP
  have hD := q_swD hD
  refine q_wrV (wr := (oW g oa (f) :: wC g ad mc M sig z)) (As := [.int (nI p_), .int (xs (4 * i + 2))]) (rest := []) ⟨hx, hb, hml, hown, hts⟩ (cn_X4_setStorm_2 hV hR hp_ hx_) (cwV 2 hts gL_law_X4_setStorm rfl rfl rfl (by decide +kernel) ⟨Nat.le_of_ble_eq_true rfl, Nat.le_of_ble_eq_true rfl⟩) hE hP hD hS hA hr0 rfl hl.1 rfl (Nat.le_of_ble_eq_true rfl) dL_law_564 ⟨by show _ ≤ 601024; omega, by show _ ≤ 7293034; omega⟩ (fun _u H locs hP hD hS hE => ?_)
  have hP : va_P g.1 vwCl (wMo g am (nI 2) sa z ++ (oW g oa (f) :: wC g ad mc M sig z)) H := q_swP hP
  have hD : va_D (q_n s.heap) (wMo g am (nI 2) sa z ++ (oW g oa (f) :: wC g ad mc M sig z)) := q_swD hD
  refine lv_istore (lv' := [(6, .int (nI 0)), (5, .int (nI 2)), (4, .int (nI (4 * i))), (0, .ref b), (1, .ref (ad 0)), (2, .ref (am 0)), (3, .ref oa)]) hx hb dL_law_567 hl (by decide) rfl (fun ls hl => ?_)
  refine lv_aload_n hx hb dL_law_569 rfl (lv_at hl 5 rfl) ?_
  refine q_roV (As := []) (rest := []) ⟨hx, hb, hml, hown, hts⟩ (c_X4_thrown (am := am) (th := nI 2) (sa := sa) (z := z)) (cwV 0 hts gL_law_X4_thrown rfl rfl rfl (by decide +kernel) ⟨Nat.le_of_ble_eq_true rfl, Nat.le_of_ble_eq_true rfl⟩) hE (fun q h => hA q (Nat.le_trans hS.1 h)) (fun k q h => hP k q (q_apL h)) (va_recv hE.K hP (ci := 5) (q0 := 0) rfl rfl) rfl hl.1 rfl (Nat.le_of_ble_eq_true rfl) dL_law_570 ⟨by show _ ≤ 601024; omega, by show _ ≤ 7293034; omega⟩ ?_
  refine lv_iload hx hb dL_law_573 (lv_at hl 1 rfl) ?_
  refine q_icmp_eq (tgt := 580) hx hb (by omega) (by omega) dL_law_575 (by decide) (fun c_1 => ?_) (fun c_1 => ?_)
  · refine lv_iload hx hb dL_law_580 (lv_at hl 1 rfl) ?_
    refine q_if_ne (tgt := 597) hx hb (by omega) dL_law_582 (by decide) (fun c_2 => ?_) (fun c_2 => ?_)
    · refine lv_goto (tgt := 1379) hx hb dL_law_597 (by decide) ?_
      exact W.widen (k := cells + 3) (n := slots + 27) (by omega) (by omega) (kk (ad) (nI 2) (mc) (M) (sig) (sa) (z) (f) H locs _ (rfl) ⟨hIV, hP, hD, hS, hE⟩ (lv_sub hl [2, 3, 4, 5, 6] rfl))
    · exact absurd c_2 (by decide)
  · exact absurd rfl c_1
set_option maxHeartbeats 4000000 in
set_option maxRecDepth 100000 in
theorem lw_c7 {p : Program} {l : Launch} {e : Env} {s : State} {m : MethodId} {below : List Frame} {meth : Method} {c : Code} {H : Heap} {locs : List Loc} {Q : State → Prop} {ls : Array Slot} {g : gT} {am ad : Nat → Nat} {oa : Nat} {th mc : Int32} {M : Nat} {sig sa : Nat → Int32} {z : sT} {f : Nat → Int64} {b L i cells slots : Nat} {xs : Nat → Int32} (C : LC p l s m c b L xs) (D : LD g s am ad oa th mc M sig sa z f H locs) (hi : 4 * i + 4 ≤ L) (hc : cells + 3 ≤ 601024) (hs : slots + 27 ≤ 7293034) (hl : lv_has ls 9 (lL (4 * i) b (ad 0) (am 0) oa)) (kk : LK p l e s m below meth c g b am oa (ad 0) (4 * i) cells slots Q) {a b_ : Nat} (ha_ : a < sL z) (hb_ : b_ < sL z) (e1 : xs (4 * i + 1) = nI a) (e2 : xs (4 * i + 2) = nI b_) : W p l e room_1 s m #[Value.ref b] below meth c H locs cells slots Q (F0 m 600 ls []) := by
  obtain ⟨hx, hb, hml, hown, hts, hl0, hX, hbl, hL⟩ := C
  obtain ⟨hIV, hP, hD, hS, hE⟩ := D
  have hV := hIV.1
  have hM := hIV.2.1
  have hR := hIV.2.2.1
  have hK := hIV.K
  have hn := hV.n
  have hbA : ¬ q_n s.heap b := Nat.not_le.mpr hbl
  have hA : ∀ q, s.heap.size ≤ q → q_n s.heap q := fun _ h => h
  refine lv_aload_n hx hb dL_law_600 rfl (lv_at hl 2 rfl) ?_
  refine lv_aload_n hx hb dL_law_601 rfl (lv_at hl 1 rfl) ?_
  refine lv_iload hx hb dL_law_602 (lv_at hl 0 rfl) ?_
  refine lv_iconst (v := nI 1) hx hb dL_law_604 (by decide) ?_
  refine q_iadd (v := nI (4 * i + 1)) hx hb dL_law_605 (nI_add _ _) ?_
  refine q_sld (v := nI a) hx hb hX hbl hbA hS (by omega) hL dL_law_606 e1 ?_
  refine lv_aload_n hx hb dL_law_607 rfl (lv_at hl 1 rfl) ?_
  refine lv_iload hx hb dL_law_608 (lv_at hl 0 rfl) ?_
  refine lv_iconst (v := nI 2) hx hb dL_law_610 (by decide) ?_
  refine q_iadd (v := nI (4 * i + 2)) hx hb dL_law_611 (nI_add _ _) ?_
  refine q_sld (v := nI b_) hx hb hX hbl hbA hS (by omega) hL dL_law_612 e2 ?_
  refine lv_aload_n hx hb dL_law_613 rfl (lv_at hl 4 rfl) ?_
  refine q_wrSW (wr := wMo g am th sa z) (As := [.ref (ad 0), .int (nI a), .int (nI b_), .ref oa]) (rest := []) ⟨hx, hb, hml, hown, hts⟩ (w_L_chip hM hV ha_ hb_) (vx_cwSW 4 hts gL_law_L_chip rfl rfl rfl (by decide +kernel) ⟨Nat.le_of_ble_eq_true rfl, Nat.le_of_ble_eq_true rfl⟩) hE hP hD hS hA rfl hl.1 rfl (Nat.le_of_ble_eq_true rfl) dL_law_614 ⟨by show _ ≤ 601024; omega, by show _ ≤ 7293034; omega⟩ (fun _u H locs hP hD hS hE => ?_)
  have hP : va_P g.1 vwCl (wMo g am th sa z ++ (oW g oa (vp_updL f 0 (chip a b_).toInt64) :: wC g ad mc M sig z)) H := hP
  have hD : va_D (q_n s.heap) (wMo g am th sa z ++ (oW g oa (vp_updL f 0 (chip a b_).toInt64) :: wC g ad mc M sig z)) := hD
  refine lv_istore (lv' := [(5, .int (nI 0)), (4, .int (nI (4 * i))), (0, .ref b), (1, .ref (ad 0)), (2, .ref (am 0)), (3, .ref oa)]) hx hb dL_law_617 hl (by decide) rfl (fun ls hl => ?_)
  refine lv_aload_n hx hb dL_law_619 rfl (lv_at hl 4 rfl) ?_
  refine lv_aload_n hx hb dL_law_620 rfl (lv_at hl 2 rfl) ?_
  refine lv_iload hx hb dL_law_621 (lv_at hl 1 rfl) ?_
  refine lv_iconst (v := nI 1) hx hb dL_law_623 (by decide) ?_
  refine q_iadd (v := nI (4 * i + 1)) hx hb dL_law_624 (nI_add _ _) ?_
  refine q_sld (v := nI a) hx hb hX hbl hbA hS (by omega) hL dL_law_625 e1 ?_
  refine lv_aload_n hx hb dL_law_626 rfl (lv_at hl 2 rfl) ?_
  refine lv_iload hx hb dL_law_627 (lv_at hl 1 rfl) ?_
  refine lv_iconst (v := nI 2) hx hb dL_law_629 (by decide) ?_
  refine q_iadd (v := nI (4 * i + 2)) hx hb dL_law_630 (nI_add _ _) ?_
  refine q_sld (v := nI b_) hx hb hX hbl hbA hS (by omega) hL dL_law_631 e2 ?_
  have hr0 := va_recv hE.K hP (ci := 5) (q0 := 0) rfl rfl
  have hP := q_swP hP
  have hD := q_swD hD
  refine q_wrV (wr := (oW g oa (vp_updL f 0 (chip a b_).toInt64) :: wC g ad mc M sig z)) (As := [.int (nI a), .int (nI b_)]) (rest := []) ⟨hx, hb, hml, hown, hts⟩ (c_X4_chip hV hR ha_ hb_) (cwV 2 hts gL_law_X4_chip rfl rfl rfl (by decide +kernel) ⟨Nat.le_of_ble_eq_true rfl, Nat.le_of_ble_eq_true rfl⟩) hE hP hD hS hA hr0 rfl hl.1 rfl (Nat.le_of_ble_eq_true rfl) dL_law_632 ⟨by show _ ≤ 601024; omega, by show _ ≤ 7293034; omega⟩ (fun _u H locs hP hD hS hE => ?_)
  have hP : va_P g.1 vwCl (wMo g am (nI 0) sa z ++ (oW g oa (vp_updL f 0 (chip a b_).toInt64) :: wC g ad mc M sig z)) H := q_swP hP
  have hD : va_D (q_n s.heap) (wMo g am (nI 0) sa z ++ (oW g oa (vp_updL f 0 (chip a b_).toInt64) :: wC g ad mc M sig z)) := q_swD hD
  refine lv_istore (lv' := [(6, .int (chip a b_)), (5, .int (nI 0)), (4, .int (nI (4 * i))), (0, .ref b), (1, .ref (ad 0)), (2, .ref (am 0)), (3, .ref oa)]) hx hb dL_law_635 hl (by decide) rfl (fun ls hl => ?_)
  refine lv_aload_n hx hb dL_law_637 rfl (lv_at hl 5 rfl) ?_
  refine q_roV (As := []) (rest := []) ⟨hx, hb, hml, hown, hts⟩ (c_X4_thrown (am := am) (th := nI 0) (sa := sa) (z := z)) (cwV 0 hts gL_law_X4_thrown rfl rfl rfl (by decide +kernel) ⟨Nat.le_of_ble_eq_true rfl, Nat.le_of_ble_eq_true rfl⟩) hE (fun q h => hA q (Nat.le_trans hS.1 h)) (fun k q h => hP k q (q_apL h)) (va_recv hE.K hP (ci := 5) (q0 := 0) rfl rfl) rfl hl.1 rfl (Nat.le_of_ble_eq_true rfl) dL_law_638 ⟨by show _ ≤ 601024; omega, by show _ ≤ 7293034; omega⟩ ?_
  refine lv_iload hx hb dL_law_641 (lv_at hl 1 rfl) ?_
  refine q_icmp_eq (tgt := 648) hx hb (by omega) (by omega) dL_law_643 (by decide) (fun c_1 => ?_) (fun c_1 => ?_)
  · refine lv_iload hx hb dL_law_648 (lv_at hl 1 rfl) ?_
    refine q_if_ne (tgt := 665) hx hb (by omega) dL_law_650 (by decide) (fun c_2 => ?_) (fun c_2 => ?_)
    · exact absurd c_2 (by decide)
    · refine lv_aload_n hx hb dL_law_653 rfl (lv_at hl 6 rfl) ?_
      refine lv_iconst (v := nI 0) hx hb dL_law_654 (by decide) ?_
      refine q_lald (v := (chip a b_).toInt64) (q0 := 7) hx hb hE hP rfl dL_law_655 (rfl) ?_
      refine lv_iload hx hb dL_law_656 (lv_at hl 0 rfl) ?_
      refine lv_i2l (v := (chip a b_).toInt64) hx hb dL_law_658 rfl ?_
      refine q_lcmp hx hb dL_law_659 rfl ?_
      refine q_if_eq (tgt := 665) hx hb (by omega) dL_law_660 (by decide) (fun c_3 => ?_) (fun c_3 => ?_)
      · refine lv_goto (tgt := 1379) hx hb dL_law_665 (by decide) ?_
        exact W.widen (k := cells + 3) (n := slots + 27) (by omega) (by omega) (kk (ad) (nI 0) (mc) (M) (sig) (sa) (z) (vp_updL f 0 (chip a b_).toInt64) H locs _ (rfl) ⟨hIV, hP, hD, hS, hE⟩ (lv_sub hl [2, 3, 4, 5, 6] rfl))
      · exact absurd c_3 (by omega)
  · exact absurd rfl c_1
set_option maxHeartbeats 4000000 in
set_option maxRecDepth 100000 in
theorem lw_c7_1 {p : Program} {l : Launch} {e : Env} {s : State} {m : MethodId} {below : List Frame} {meth : Method} {c : Code} {H : Heap} {locs : List Loc} {Q : State → Prop} {ls : Array Slot} {g : gT} {am ad : Nat → Nat} {oa : Nat} {th mc : Int32} {M : Nat} {sig sa : Nat → Int32} {z : sT} {f : Nat → Int64} {b L i cells slots : Nat} {xs : Nat → Int32} (C : LC p l s m c b L xs) (D : LD g s am ad oa th mc M sig sa z f H locs) (hi : 4 * i + 4 ≤ L) (hc : cells + 3 ≤ 601024) (hs : slots + 27 ≤ 7293034) (hl : lv_has ls 9 (lL (4 * i) b (ad 0) (am 0) oa)) (kk : LK p l e s m below meth c g b am oa (ad 0) (4 * i) cells slots Q) (hx_ : ¬ inR (xs (4 * i + 1)) (sL z)) : W p l e room_1 s m #[Value.ref b] below meth c H locs cells slots Q (F0 m 600 ls []) := by
  obtain ⟨hx, hb, hml, hown, hts, hl0, hX, hbl, hL⟩ := C
  obtain ⟨hIV, hP, hD, hS, hE⟩ := D
  have hV := hIV.1
  have hM := hIV.2.1
  have hR := hIV.2.2.1
  have hK := hIV.K
  have hn := hV.n
  have hbA : ¬ q_n s.heap b := Nat.not_le.mpr hbl
  have hA : ∀ q, s.heap.size ≤ q → q_n s.heap q := fun _ h => h
  refine lv_aload_n hx hb dL_law_600 rfl (lv_at hl 2 rfl) ?_
  refine lv_aload_n hx hb dL_law_601 rfl (lv_at hl 1 rfl) ?_
  refine lv_iload hx hb dL_law_602 (lv_at hl 0 rfl) ?_
  refine lv_iconst (v := nI 1) hx hb dL_law_604 (by decide) ?_
  refine q_iadd (v := nI (4 * i + 1)) hx hb dL_law_605 (nI_add _ _) ?_
  refine q_sld (v := xs (4 * i + 1)) hx hb hX hbl hbA hS (by omega) hL dL_law_606 rfl ?_
  refine lv_aload_n hx hb dL_law_607 rfl (lv_at hl 1 rfl) ?_
  refine lv_iload hx hb dL_law_608 (lv_at hl 0 rfl) ?_
  refine lv_iconst (v := nI 2) hx hb dL_law_610 (by decide) ?_
  refine q_iadd (v := nI (4 * i + 2)) hx hb dL_law_611 (nI_add _ _) ?_
  refine q_sld (v := xs (4 * i + 2)) hx hb hX hbl hbA hS (by omega) hL dL_law_612 rfl ?_
  refine lv_aload_n hx hb dL_law_613 rfl (lv_at hl 4 rfl) ?_
  refine q_wrSW (wr := wMo g am th sa z) (As := [.ref (ad 0), .int (xs (4 * i + 1)), .int (xs (4 * i + 2)), .ref oa]) (rest := []) ⟨hx, hb, hml, hown, hts⟩ (w_L_chip_1 hl0 hM hV hx_) (vx_cwSW 4 hts gL_law_L_chip rfl rfl rfl (by decide +kernel) ⟨Nat.le_of_ble_eq_true rfl, Nat.le_of_ble_eq_true rfl⟩) hE hP hD hS hA rfl hl.1 rfl (Nat.le_of_ble_eq_true rfl) dL_law_614 ⟨by show _ ≤ 601024; omega, by show _ ≤ 7293034; omega⟩ (fun _u H locs hP hD hS hE => ?_)
  have hP : va_P g.1 vwCl (wMo g am th sa z ++ (oW g oa (f) :: wC g ad mc M sig z)) H := hP
  have hD : va_D (q_n s.heap) (wMo g am th sa z ++ (oW g oa (f) :: wC g ad mc M sig z)) := hD
  refine lv_istore (lv' := [(5, .int (nI 1)), (4, .int (nI (4 * i))), (0, .ref b), (1, .ref (ad 0)), (2, .ref (am 0)), (3, .ref oa)]) hx hb dL_law_617 hl (by decide) rfl (fun ls hl => ?_)
  refine lv_aload_n hx hb dL_law_619 rfl (lv_at hl 4 rfl) ?_
  refine lv_aload_n hx hb dL_law_620 rfl (lv_at hl 2 rfl) ?_
  refine lv_iload hx hb dL_law_621 (lv_at hl 1 rfl) ?_
  refine lv_iconst (v := nI 1) hx hb dL_law_623 (by decide) ?_
  refine q_iadd (v := nI (4 * i + 1)) hx hb dL_law_624 (nI_add _ _) ?_
  refine q_sld (v := xs (4 * i + 1)) hx hb hX hbl hbA hS (by omega) hL dL_law_625 rfl ?_
  refine lv_aload_n hx hb dL_law_626 rfl (lv_at hl 2 rfl) ?_
  refine lv_iload hx hb dL_law_627 (lv_at hl 1 rfl) ?_
  refine lv_iconst (v := nI 2) hx hb dL_law_629 (by decide) ?_
  refine q_iadd (v := nI (4 * i + 2)) hx hb dL_law_630 (nI_add _ _) ?_
  refine q_sld (v := xs (4 * i + 2)) hx hb hX hbl hbA hS (by omega) hL dL_law_631 rfl ?_
  have hr0 := va_recv hE.K hP (ci := 5) (q0 := 0) rfl rfl
  have hP := q_swP hP
  have hD := q_swD hD
  refine q_wrV (wr := (oW g oa (f) :: wC g ad mc M sig z)) (As := [.int (xs (4 * i + 1)), .int (xs (4 * i + 2))]) (rest := []) ⟨hx, hb, hml, hown, hts⟩ (cn_X4_chip_1 hV hR hx_) (cwV 2 hts gL_law_X4_chip rfl rfl rfl (by decide +kernel) ⟨Nat.le_of_ble_eq_true rfl, Nat.le_of_ble_eq_true rfl⟩) hE hP hD hS hA hr0 rfl hl.1 rfl (Nat.le_of_ble_eq_true rfl) dL_law_632 ⟨by show _ ≤ 601024; omega, by show _ ≤ 7293034; omega⟩ (fun _u H locs hP hD hS hE => ?_)
  have hP : va_P g.1 vwCl (wMo g am (nI 1) sa z ++ (oW g oa (f) :: wC g ad mc M sig z)) H := q_swP hP
  have hD : va_D (q_n s.heap) (wMo g am (nI 1) sa z ++ (oW g oa (f) :: wC g ad mc M sig z)) := q_swD hD
  refine lv_istore (lv' := [(6, .int (nI 0)), (5, .int (nI 1)), (4, .int (nI (4 * i))), (0, .ref b), (1, .ref (ad 0)), (2, .ref (am 0)), (3, .ref oa)]) hx hb dL_law_635 hl (by decide) rfl (fun ls hl => ?_)
  refine lv_aload_n hx hb dL_law_637 rfl (lv_at hl 5 rfl) ?_
  refine q_roV (As := []) (rest := []) ⟨hx, hb, hml, hown, hts⟩ (c_X4_thrown (am := am) (th := nI 1) (sa := sa) (z := z)) (cwV 0 hts gL_law_X4_thrown rfl rfl rfl (by decide +kernel) ⟨Nat.le_of_ble_eq_true rfl, Nat.le_of_ble_eq_true rfl⟩) hE (fun q h => hA q (Nat.le_trans hS.1 h)) (fun k q h => hP k q (q_apL h)) (va_recv hE.K hP (ci := 5) (q0 := 0) rfl rfl) rfl hl.1 rfl (Nat.le_of_ble_eq_true rfl) dL_law_638 ⟨by show _ ≤ 601024; omega, by show _ ≤ 7293034; omega⟩ ?_
  refine lv_iload hx hb dL_law_641 (lv_at hl 1 rfl) ?_
  refine q_icmp_eq (tgt := 648) hx hb (by omega) (by omega) dL_law_643 (by decide) (fun c_1 => ?_) (fun c_1 => ?_)
  · refine lv_iload hx hb dL_law_648 (lv_at hl 1 rfl) ?_
    refine q_if_ne (tgt := 665) hx hb (by omega) dL_law_650 (by decide) (fun c_2 => ?_) (fun c_2 => ?_)
    · refine lv_goto (tgt := 1379) hx hb dL_law_665 (by decide) ?_
      exact W.widen (k := cells + 3) (n := slots + 27) (by omega) (by omega) (kk (ad) (nI 1) (mc) (M) (sig) (sa) (z) (f) H locs _ (rfl) ⟨hIV, hP, hD, hS, hE⟩ (lv_sub hl [2, 3, 4, 5, 6] rfl))
    · exact absurd c_2 (by decide)
  · exact absurd rfl c_1
set_option maxHeartbeats 4000000 in
set_option maxRecDepth 100000 in
theorem lw_c7_2 {p : Program} {l : Launch} {e : Env} {s : State} {m : MethodId} {below : List Frame} {meth : Method} {c : Code} {H : Heap} {locs : List Loc} {Q : State → Prop} {ls : Array Slot} {g : gT} {am ad : Nat → Nat} {oa : Nat} {th mc : Int32} {M : Nat} {sig sa : Nat → Int32} {z : sT} {f : Nat → Int64} {b L i cells slots : Nat} {xs : Nat → Int32} (C : LC p l s m c b L xs) (D : LD g s am ad oa th mc M sig sa z f H locs) (hi : 4 * i + 4 ≤ L) (hc : cells + 3 ≤ 601024) (hs : slots + 27 ≤ 7293034) (hl : lv_has ls 9 (lL (4 * i) b (ad 0) (am 0) oa)) (kk : LK p l e s m below meth c g b am oa (ad 0) (4 * i) cells slots Q) {a : Nat} (ha_ : a < sL z) (hx_ : ¬ inR (xs (4 * i + 2)) (sL z)) (e1 : xs (4 * i + 1) = nI a) : W p l e room_1 s m #[Value.ref b] below meth c H locs cells slots Q (F0 m 600 ls []) := by
  obtain ⟨hx, hb, hml, hown, hts, hl0, hX, hbl, hL⟩ := C
  obtain ⟨hIV, hP, hD, hS, hE⟩ := D
  have hV := hIV.1
  have hM := hIV.2.1
  have hR := hIV.2.2.1
  have hK := hIV.K
  have hn := hV.n
  have hbA : ¬ q_n s.heap b := Nat.not_le.mpr hbl
  have hA : ∀ q, s.heap.size ≤ q → q_n s.heap q := fun _ h => h
  refine lv_aload_n hx hb dL_law_600 rfl (lv_at hl 2 rfl) ?_
  refine lv_aload_n hx hb dL_law_601 rfl (lv_at hl 1 rfl) ?_
  refine lv_iload hx hb dL_law_602 (lv_at hl 0 rfl) ?_
  refine lv_iconst (v := nI 1) hx hb dL_law_604 (by decide) ?_
  refine q_iadd (v := nI (4 * i + 1)) hx hb dL_law_605 (nI_add _ _) ?_
  refine q_sld (v := nI a) hx hb hX hbl hbA hS (by omega) hL dL_law_606 e1 ?_
  refine lv_aload_n hx hb dL_law_607 rfl (lv_at hl 1 rfl) ?_
  refine lv_iload hx hb dL_law_608 (lv_at hl 0 rfl) ?_
  refine lv_iconst (v := nI 2) hx hb dL_law_610 (by decide) ?_
  refine q_iadd (v := nI (4 * i + 2)) hx hb dL_law_611 (nI_add _ _) ?_
  refine q_sld (v := xs (4 * i + 2)) hx hb hX hbl hbA hS (by omega) hL dL_law_612 rfl ?_
  refine lv_aload_n hx hb dL_law_613 rfl (lv_at hl 4 rfl) ?_
  refine q_wrSW (wr := wMo g am th sa z) (As := [.ref (ad 0), .int (nI a), .int (xs (4 * i + 2)), .ref oa]) (rest := []) ⟨hx, hb, hml, hown, hts⟩ (w_L_chip_2 hl0 hM hV ha_ hx_) (vx_cwSW 4 hts gL_law_L_chip rfl rfl rfl (by decide +kernel) ⟨Nat.le_of_ble_eq_true rfl, Nat.le_of_ble_eq_true rfl⟩) hE hP hD hS hA rfl hl.1 rfl (Nat.le_of_ble_eq_true rfl) dL_law_614 ⟨by show _ ≤ 601024; omega, by show _ ≤ 7293034; omega⟩ (fun _u H locs hP hD hS hE => ?_)
  have hP : va_P g.1 vwCl (wMo g am th sa z ++ (oW g oa (f) :: wC g ad mc M sig z)) H := hP
  have hD : va_D (q_n s.heap) (wMo g am th sa z ++ (oW g oa (f) :: wC g ad mc M sig z)) := hD
  refine lv_istore (lv' := [(5, .int (nI 1)), (4, .int (nI (4 * i))), (0, .ref b), (1, .ref (ad 0)), (2, .ref (am 0)), (3, .ref oa)]) hx hb dL_law_617 hl (by decide) rfl (fun ls hl => ?_)
  refine lv_aload_n hx hb dL_law_619 rfl (lv_at hl 4 rfl) ?_
  refine lv_aload_n hx hb dL_law_620 rfl (lv_at hl 2 rfl) ?_
  refine lv_iload hx hb dL_law_621 (lv_at hl 1 rfl) ?_
  refine lv_iconst (v := nI 1) hx hb dL_law_623 (by decide) ?_
  refine q_iadd (v := nI (4 * i + 1)) hx hb dL_law_624 (nI_add _ _) ?_
  refine q_sld (v := nI a) hx hb hX hbl hbA hS (by omega) hL dL_law_625 e1 ?_
  refine lv_aload_n hx hb dL_law_626 rfl (lv_at hl 2 rfl) ?_
  refine lv_iload hx hb dL_law_627 (lv_at hl 1 rfl) ?_
  refine lv_iconst (v := nI 2) hx hb dL_law_629 (by decide) ?_
  refine q_iadd (v := nI (4 * i + 2)) hx hb dL_law_630 (nI_add _ _) ?_
  refine q_sld (v := xs (4 * i + 2)) hx hb hX hbl hbA hS (by omega) hL dL_law_631 rfl ?_
  have hr0 := va_recv hE.K hP (ci := 5) (q0 := 0) rfl rfl
  have hP := q_swP hP
  have hD := q_swD hD
  refine q_wrV (wr := (oW g oa (f) :: wC g ad mc M sig z)) (As := [.int (nI a), .int (xs (4 * i + 2))]) (rest := []) ⟨hx, hb, hml, hown, hts⟩ (cn_X4_chip_2 hV hR ha_ hx_) (cwV 2 hts gL_law_X4_chip rfl rfl rfl (by decide +kernel) ⟨Nat.le_of_ble_eq_true rfl, Nat.le_of_ble_eq_true rfl⟩) hE hP hD hS hA hr0 rfl hl.1 rfl (Nat.le_of_ble_eq_true rfl) dL_law_632 ⟨by show _ ≤ 601024; omega, by show _ ≤ 7293034; omega⟩ (fun _u H locs hP hD hS hE => ?_)
  have hP : va_P g.1 vwCl (wMo g am (nI 1) sa z ++ (oW g oa (f) :: wC g ad mc M sig z)) H := q_swP hP
  have hD : va_D (q_n s.heap) (wMo g am (nI 1) sa z ++ (oW g oa (f) :: wC g ad mc M sig z)) := q_swD hD
  refine lv_istore (lv' := [(6, .int (nI 0)), (5, .int (nI 1)), (4, .int (nI (4 * i))), (0, .ref b), (1, .ref (ad 0)), (2, .ref (am 0)), (3, .ref oa)]) hx hb dL_law_635 hl (by decide) rfl (fun ls hl => ?_)
  refine lv_aload_n hx hb dL_law_637 rfl (lv_at hl 5 rfl) ?_
  refine q_roV (As := []) (rest := []) ⟨hx, hb, hml, hown, hts⟩ (c_X4_thrown (am := am) (th := nI 1) (sa := sa) (z := z)) (cwV 0 hts gL_law_X4_thrown rfl rfl rfl (by decide +kernel) ⟨Nat.le_of_ble_eq_true rfl, Nat.le_of_ble_eq_true rfl⟩) hE (fun q h => hA q (Nat.le_trans hS.1 h)) (fun k q h => hP k q (q_apL h)) (va_recv hE.K hP (ci := 5) (q0 := 0) rfl rfl) rfl hl.1 rfl (Nat.le_of_ble_eq_true rfl) dL_law_638 ⟨by show _ ≤ 601024; omega, by show _ ≤ 7293034; omega⟩ ?_
  refine lv_iload hx hb dL_law_641 (lv_at hl 1 rfl) ?_
  refine q_icmp_eq (tgt := 648) hx hb (by omega) (by omega) dL_law_643 (by decide) (fun c_1 => ?_) (fun c_1 => ?_)
  · refine lv_iload hx hb dL_law_648 (lv_at hl 1 rfl) ?_
    refine q_if_ne (tgt := 665) hx hb (by omega) dL_law_650 (by decide) (fun c_2 => ?_) (fun c_2 => ?_)
    · refine lv_goto (tgt := 1379) hx hb dL_law_665 (by decide) ?_
      exact W.widen (k := cells + 3) (n := slots + 27) (by omega) (by omega) (kk (ad) (nI 1) (mc) (M) (sig) (sa) (z) (f) H locs _ (rfl) ⟨hIV, hP, hD, hS, hE⟩ (lv_sub hl [2, 3, 4, 5, 6] rfl))
    · exact absurd c_2 (by decide)
  · exact absurd rfl c_1
set_option maxHeartbeats 4000000 in
set_option maxRecDepth 100000 in
theorem lw_c8 {p : Program} {l : Launch} {e : Env} {s : State} {m : MethodId} {below : List Frame} {meth : Method} {c : Code} {H : Heap} {locs : List Loc} {Q : State → Prop} {ls : Array Slot} {g : gT} {am ad : Nat → Nat} {oa : Nat} {th mc : Int32} {M : Nat} {sig sa : Nat → Int32} {z : sT} {f : Nat → Int64} {b L i cells slots : Nat} {xs : Nat → Int32} (C : LC p l s m c b L xs) (D : LD g s am ad oa th mc M sig sa z f H locs) (hi : 4 * i + 4 ≤ L) (hc : cells + 3 ≤ 601024) (hs : slots + 27 ≤ 7293034) (hl : lv_has ls 9 (lL (4 * i) b (ad 0) (am 0) oa)) (kk : LK p l e s m below meth c g b am oa (ad 0) (4 * i) cells slots Q) {t : Nat} (ht_ : t < 1000) (e1 : xs (4 * i + 1) = nI t) : W p l e room_1 s m #[Value.ref b] below meth c H locs cells slots Q (F0 m 668 ls []) := by
  obtain ⟨hx, hb, hml, hown, hts, hl0, hX, hbl, hL⟩ := C
  obtain ⟨hIV, hP, hD, hS, hE⟩ := D
  have hV := hIV.1
  have hM := hIV.2.1
  have hR := hIV.2.2.1
  have hK := hIV.K
  have hn := hV.n
  have hbA : ¬ q_n s.heap b := Nat.not_le.mpr hbl
  have hA : ∀ q, s.heap.size ≤ q → q_n s.heap q := fun _ h => h
  refine lv_aload_n hx hb dL_law_668 rfl (lv_at hl 2 rfl) ?_
  refine lv_aload_n hx hb dL_law_669 rfl (lv_at hl 1 rfl) ?_
  refine lv_iload hx hb dL_law_670 (lv_at hl 0 rfl) ?_
  refine lv_iconst (v := nI 1) hx hb dL_law_672 (by decide) ?_
  refine q_iadd (v := nI (4 * i + 1)) hx hb dL_law_673 (nI_add _ _) ?_
  refine q_sld (v := nI t) hx hb hX hbl hbA hS (by omega) hL dL_law_674 e1 ?_
  refine lv_aload_n hx hb dL_law_675 rfl (lv_at hl 4 rfl) ?_
  refine q_wrSW (wr := wMo g am th sa z) (As := [.ref (ad 0), .int (nI t), .ref oa]) (rest := []) ⟨hx, hb, hml, hown, hts⟩ (w_L_sky hM hV ht_) (vx_cwSW 3 hts gL_law_L_sky rfl rfl rfl (by decide +kernel) ⟨Nat.le_of_ble_eq_true rfl, Nat.le_of_ble_eq_true rfl⟩) hE hP hD hS hA rfl hl.1 rfl (Nat.le_of_ble_eq_true rfl) dL_law_676 ⟨by show _ ≤ 601024; omega, by show _ ≤ 7293034; omega⟩ (fun _u H locs hP hD hS hE => ?_)
  have hP : va_P g.1 vwCl (wMo g am th sa z ++ (oW g oa (vp_updL f 0 (atF (sst z) sig t).toInt64) :: wC g ad mc M sig z)) H := hP
  have hD : va_D (q_n s.heap) (wMo g am th sa z ++ (oW g oa (vp_updL f 0 (atF (sst z) sig t).toInt64) :: wC g ad mc M sig z)) := hD
  refine lv_istore (lv' := [(5, .int (nI 0)), (4, .int (nI (4 * i))), (0, .ref b), (1, .ref (ad 0)), (2, .ref (am 0)), (3, .ref oa)]) hx hb dL_law_679 hl (by decide) rfl (fun ls hl => ?_)
  refine lv_aload_n hx hb dL_law_681 rfl (lv_at hl 4 rfl) ?_
  refine lv_aload_n hx hb dL_law_682 rfl (lv_at hl 2 rfl) ?_
  refine lv_iload hx hb dL_law_683 (lv_at hl 1 rfl) ?_
  refine lv_iconst (v := nI 1) hx hb dL_law_685 (by decide) ?_
  refine q_iadd (v := nI (4 * i + 1)) hx hb dL_law_686 (nI_add _ _) ?_
  refine q_sld (v := nI t) hx hb hX hbl hbA hS (by omega) hL dL_law_687 e1 ?_
  have hr0 := va_recv hE.K hP (ci := 5) (q0 := 0) rfl rfl
  have hP := q_swP hP
  have hD := q_swD hD
  refine q_wrV (wr := (oW g oa (vp_updL f 0 (atF (sst z) sig t).toInt64) :: wC g ad mc M sig z)) (As := [.int (nI t)]) (rest := []) ⟨hx, hb, hml, hown, hts⟩ (c_X4_sky hV hR ht_) (cwV 1 hts gL_law_X4_sky rfl rfl rfl (by decide +kernel) ⟨Nat.le_of_ble_eq_true rfl, Nat.le_of_ble_eq_true rfl⟩) hE hP hD hS hA hr0 rfl hl.1 rfl (Nat.le_of_ble_eq_true rfl) dL_law_688 ⟨by show _ ≤ 601024; omega, by show _ ≤ 7293034; omega⟩ (fun _u H locs hP hD hS hE => ?_)
  have hP : va_P g.1 vwCl (wMo g am (nI 0) sa z ++ (oW g oa (vp_updL f 0 (atF (sst z) sig t).toInt64) :: wC g ad mc M sig z)) H := q_swP hP
  have hD : va_D (q_n s.heap) (wMo g am (nI 0) sa z ++ (oW g oa (vp_updL f 0 (atF (sst z) sig t).toInt64) :: wC g ad mc M sig z)) := q_swD hD
  refine lv_istore (lv' := [(6, .int (kM z t)), (5, .int (nI 0)), (4, .int (nI (4 * i))), (0, .ref b), (1, .ref (ad 0)), (2, .ref (am 0)), (3, .ref oa)]) hx hb dL_law_691 hl (by decide) rfl (fun ls hl => ?_)
  refine lv_aload_n hx hb dL_law_693 rfl (lv_at hl 5 rfl) ?_
  refine q_roV (As := []) (rest := []) ⟨hx, hb, hml, hown, hts⟩ (c_X4_thrown (am := am) (th := nI 0) (sa := sa) (z := z)) (cwV 0 hts gL_law_X4_thrown rfl rfl rfl (by decide +kernel) ⟨Nat.le_of_ble_eq_true rfl, Nat.le_of_ble_eq_true rfl⟩) hE (fun q h => hA q (Nat.le_trans hS.1 h)) (fun k q h => hP k q (q_apL h)) (va_recv hE.K hP (ci := 5) (q0 := 0) rfl rfl) rfl hl.1 rfl (Nat.le_of_ble_eq_true rfl) dL_law_694 ⟨by show _ ≤ 601024; omega, by show _ ≤ 7293034; omega⟩ ?_
  refine lv_iload hx hb dL_law_697 (lv_at hl 1 rfl) ?_
  refine q_icmp_eq (tgt := 704) hx hb (by omega) (by omega) dL_law_699 (by decide) (fun c_1 => ?_) (fun c_1 => ?_)
  · refine lv_iload hx hb dL_law_704 (lv_at hl 1 rfl) ?_
    refine q_if_ne (tgt := 721) hx hb (by omega) dL_law_706 (by decide) (fun c_2 => ?_) (fun c_2 => ?_)
    · exact absurd c_2 (by decide)
    · refine lv_aload_n hx hb dL_law_709 rfl (lv_at hl 6 rfl) ?_
      refine lv_iconst (v := nI 0) hx hb dL_law_710 (by decide) ?_
      refine q_lald (v := (kM z t).toInt64) (q0 := 7) hx hb hE hP rfl dL_law_711 (show (atF (sst z) sig t).toInt64 = (kM z t).toInt64 by rw [hK]) ?_
      refine lv_iload hx hb dL_law_712 (lv_at hl 0 rfl) ?_
      refine lv_i2l (v := (kM z t).toInt64) hx hb dL_law_714 rfl ?_
      refine q_lcmp hx hb dL_law_715 rfl ?_
      refine q_if_eq (tgt := 721) hx hb (by omega) dL_law_716 (by decide) (fun c_3 => ?_) (fun c_3 => ?_)
      · refine lv_goto (tgt := 1379) hx hb dL_law_721 (by decide) ?_
        exact W.widen (k := cells + 3) (n := slots + 27) (by omega) (by omega) (kk (ad) (nI 0) (mc) (M) (sig) (sa) (z) (vp_updL f 0 (atF (sst z) sig t).toInt64) H locs _ (rfl) ⟨hIV, hP, hD, hS, hE⟩ (lv_sub hl [2, 3, 4, 5, 6] rfl))
      · exact absurd c_3 (by omega)
  · exact absurd rfl c_1
set_option maxHeartbeats 4000000 in
set_option maxRecDepth 100000 in
theorem lw_c8_1 {p : Program} {l : Launch} {e : Env} {s : State} {m : MethodId} {below : List Frame} {meth : Method} {c : Code} {H : Heap} {locs : List Loc} {Q : State → Prop} {ls : Array Slot} {g : gT} {am ad : Nat → Nat} {oa : Nat} {th mc : Int32} {M : Nat} {sig sa : Nat → Int32} {z : sT} {f : Nat → Int64} {b L i cells slots : Nat} {xs : Nat → Int32} (C : LC p l s m c b L xs) (D : LD g s am ad oa th mc M sig sa z f H locs) (hi : 4 * i + 4 ≤ L) (hc : cells + 3 ≤ 601024) (hs : slots + 27 ≤ 7293034) (hl : lv_has ls 9 (lL (4 * i) b (ad 0) (am 0) oa)) (kk : LK p l e s m below meth c g b am oa (ad 0) (4 * i) cells slots Q) (hx_ : ¬ inR (xs (4 * i + 1)) (1000)) : W p l e room_1 s m #[Value.ref b] below meth c H locs cells slots Q (F0 m 668 ls []) := by
  obtain ⟨hx, hb, hml, hown, hts, hl0, hX, hbl, hL⟩ := C
  obtain ⟨hIV, hP, hD, hS, hE⟩ := D
  have hV := hIV.1
  have hM := hIV.2.1
  have hR := hIV.2.2.1
  have hK := hIV.K
  have hn := hV.n
  have hbA : ¬ q_n s.heap b := Nat.not_le.mpr hbl
  have hA : ∀ q, s.heap.size ≤ q → q_n s.heap q := fun _ h => h
  refine lv_aload_n hx hb dL_law_668 rfl (lv_at hl 2 rfl) ?_
  refine lv_aload_n hx hb dL_law_669 rfl (lv_at hl 1 rfl) ?_
  refine lv_iload hx hb dL_law_670 (lv_at hl 0 rfl) ?_
  refine lv_iconst (v := nI 1) hx hb dL_law_672 (by decide) ?_
  refine q_iadd (v := nI (4 * i + 1)) hx hb dL_law_673 (nI_add _ _) ?_
  refine q_sld (v := xs (4 * i + 1)) hx hb hX hbl hbA hS (by omega) hL dL_law_674 rfl ?_
  refine lv_aload_n hx hb dL_law_675 rfl (lv_at hl 4 rfl) ?_
  refine q_wrSW (wr := wMo g am th sa z) (As := [.ref (ad 0), .int (xs (4 * i + 1)), .ref oa]) (rest := []) ⟨hx, hb, hml, hown, hts⟩ (w_L_sky_1 hl0 hM hV hx_) (vx_cwSW 3 hts gL_law_L_sky rfl rfl rfl (by decide +kernel) ⟨Nat.le_of_ble_eq_true rfl, Nat.le_of_ble_eq_true rfl⟩) hE hP hD hS hA rfl hl.1 rfl (Nat.le_of_ble_eq_true rfl) dL_law_676 ⟨by show _ ≤ 601024; omega, by show _ ≤ 7293034; omega⟩ (fun _u H locs hP hD hS hE => ?_)
  have hP : va_P g.1 vwCl (wMo g am th sa z ++ (oW g oa (f) :: wC g ad mc M sig z)) H := hP
  have hD : va_D (q_n s.heap) (wMo g am th sa z ++ (oW g oa (f) :: wC g ad mc M sig z)) := hD
  refine lv_istore (lv' := [(5, .int (nI 1)), (4, .int (nI (4 * i))), (0, .ref b), (1, .ref (ad 0)), (2, .ref (am 0)), (3, .ref oa)]) hx hb dL_law_679 hl (by decide) rfl (fun ls hl => ?_)
  refine lv_aload_n hx hb dL_law_681 rfl (lv_at hl 4 rfl) ?_
  refine lv_aload_n hx hb dL_law_682 rfl (lv_at hl 2 rfl) ?_
  refine lv_iload hx hb dL_law_683 (lv_at hl 1 rfl) ?_
  refine lv_iconst (v := nI 1) hx hb dL_law_685 (by decide) ?_
  refine q_iadd (v := nI (4 * i + 1)) hx hb dL_law_686 (nI_add _ _) ?_
  refine q_sld (v := xs (4 * i + 1)) hx hb hX hbl hbA hS (by omega) hL dL_law_687 rfl ?_
  have hr0 := va_recv hE.K hP (ci := 5) (q0 := 0) rfl rfl
  have hP := q_swP hP
  have hD := q_swD hD
  refine q_wrV (wr := (oW g oa (f) :: wC g ad mc M sig z)) (As := [.int (xs (4 * i + 1))]) (rest := []) ⟨hx, hb, hml, hown, hts⟩ (cn_X4_sky_1 hV hR hx_) (cwV 1 hts gL_law_X4_sky rfl rfl rfl (by decide +kernel) ⟨Nat.le_of_ble_eq_true rfl, Nat.le_of_ble_eq_true rfl⟩) hE hP hD hS hA hr0 rfl hl.1 rfl (Nat.le_of_ble_eq_true rfl) dL_law_688 ⟨by show _ ≤ 601024; omega, by show _ ≤ 7293034; omega⟩ (fun _u H locs hP hD hS hE => ?_)
  have hP : va_P g.1 vwCl (wMo g am (nI 1) sa z ++ (oW g oa (f) :: wC g ad mc M sig z)) H := q_swP hP
  have hD : va_D (q_n s.heap) (wMo g am (nI 1) sa z ++ (oW g oa (f) :: wC g ad mc M sig z)) := q_swD hD
  refine lv_istore (lv' := [(6, .int (nI 0)), (5, .int (nI 1)), (4, .int (nI (4 * i))), (0, .ref b), (1, .ref (ad 0)), (2, .ref (am 0)), (3, .ref oa)]) hx hb dL_law_691 hl (by decide) rfl (fun ls hl => ?_)
  refine lv_aload_n hx hb dL_law_693 rfl (lv_at hl 5 rfl) ?_
  refine q_roV (As := []) (rest := []) ⟨hx, hb, hml, hown, hts⟩ (c_X4_thrown (am := am) (th := nI 1) (sa := sa) (z := z)) (cwV 0 hts gL_law_X4_thrown rfl rfl rfl (by decide +kernel) ⟨Nat.le_of_ble_eq_true rfl, Nat.le_of_ble_eq_true rfl⟩) hE (fun q h => hA q (Nat.le_trans hS.1 h)) (fun k q h => hP k q (q_apL h)) (va_recv hE.K hP (ci := 5) (q0 := 0) rfl rfl) rfl hl.1 rfl (Nat.le_of_ble_eq_true rfl) dL_law_694 ⟨by show _ ≤ 601024; omega, by show _ ≤ 7293034; omega⟩ ?_
  refine lv_iload hx hb dL_law_697 (lv_at hl 1 rfl) ?_
  refine q_icmp_eq (tgt := 704) hx hb (by omega) (by omega) dL_law_699 (by decide) (fun c_1 => ?_) (fun c_1 => ?_)
  · refine lv_iload hx hb dL_law_704 (lv_at hl 1 rfl) ?_
    refine q_if_ne (tgt := 721) hx hb (by omega) dL_law_706 (by decide) (fun c_2 => ?_) (fun c_2 => ?_)
    · refine lv_goto (tgt := 1379) hx hb dL_law_721 (by decide) ?_
      exact W.widen (k := cells + 3) (n := slots + 27) (by omega) (by omega) (kk (ad) (nI 1) (mc) (M) (sig) (sa) (z) (f) H locs _ (rfl) ⟨hIV, hP, hD, hS, hE⟩ (lv_sub hl [2, 3, 4, 5, 6] rfl))
    · exact absurd c_2 (by decide)
  · exact absurd rfl c_1
set_option maxHeartbeats 4000000 in
set_option maxRecDepth 100000 in
theorem lw_c9 {p : Program} {l : Launch} {e : Env} {s : State} {m : MethodId} {below : List Frame} {meth : Method} {c : Code} {H : Heap} {locs : List Loc} {Q : State → Prop} {ls : Array Slot} {g : gT} {am ad : Nat → Nat} {oa : Nat} {th mc : Int32} {M : Nat} {sig sa : Nat → Int32} {z : sT} {f : Nat → Int64} {b L i cells slots : Nat} {xs : Nat → Int32} (C : LC p l s m c b L xs) (D : LD g s am ad oa th mc M sig sa z f H locs) (hi : 4 * i + 4 ≤ L) (hc : cells + 3 ≤ 601024) (hs : slots + 27 ≤ 7293034) (hl : lv_has ls 9 (lL (4 * i) b (ad 0) (am 0) oa)) (kk : LK p l e s m below meth c g b am oa (ad 0) (4 * i) cells slots Q) {a t : Nat} (ha_ : a < sL z) (ht_ : t < 1000) (e1 : xs (4 * i + 1) = nI a) (e2 : xs (4 * i + 2) = nI t) : W p l e room_1 s m #[Value.ref b] below meth c H locs cells slots Q (F0 m 724 ls []) := by
  obtain ⟨hx, hb, hml, hown, hts, hl0, hX, hbl, hL⟩ := C
  obtain ⟨hIV, hP, hD, hS, hE⟩ := D
  have hV := hIV.1
  have hM := hIV.2.1
  have hR := hIV.2.2.1
  have hK := hIV.K
  have hn := hV.n
  have hbA : ¬ q_n s.heap b := Nat.not_le.mpr hbl
  have hA : ∀ q, s.heap.size ≤ q → q_n s.heap q := fun _ h => h
  refine lv_aload_n hx hb dL_law_724 rfl (lv_at hl 2 rfl) ?_
  refine lv_aload_n hx hb dL_law_725 rfl (lv_at hl 1 rfl) ?_
  refine lv_iload hx hb dL_law_726 (lv_at hl 0 rfl) ?_
  refine lv_iconst (v := nI 1) hx hb dL_law_728 (by decide) ?_
  refine q_iadd (v := nI (4 * i + 1)) hx hb dL_law_729 (nI_add _ _) ?_
  refine q_sld (v := nI a) hx hb hX hbl hbA hS (by omega) hL dL_law_730 e1 ?_
  refine lv_aload_n hx hb dL_law_731 rfl (lv_at hl 1 rfl) ?_
  refine lv_iload hx hb dL_law_732 (lv_at hl 0 rfl) ?_
  refine lv_iconst (v := nI 2) hx hb dL_law_734 (by decide) ?_
  refine q_iadd (v := nI (4 * i + 2)) hx hb dL_law_735 (nI_add _ _) ?_
  refine q_sld (v := nI t) hx hb hX hbl hbA hS (by omega) hL dL_law_736 e2 ?_
  refine lv_aload_n hx hb dL_law_737 rfl (lv_at hl 4 rfl) ?_
  refine q_wrSW (wr := wMo g am th sa z) (As := [.ref (ad 0), .int (nI a), .int (nI t), .ref oa]) (rest := []) ⟨hx, hb, hml, hown, hts⟩ (w_L_hear hM hV ha_ ht_) (vx_cwSW 4 hts gL_law_L_hear rfl rfl rfl (by decide +kernel) ⟨Nat.le_of_ble_eq_true rfl, Nat.le_of_ble_eq_true rfl⟩) hE hP hD hS hA rfl hl.1 rfl (Nat.le_of_ble_eq_true rfl) dL_law_738 ⟨by show _ ≤ 601024; omega, by show _ ≤ 7293034; omega⟩ (fun _u H locs hP hD hS hE => ?_)
  have hP : va_P g.1 vwCl (wMo g am th sa z ++ (oW g oa (vp_updL f 0 (hearF (sL z) (atF (sst z) sig) a t).toInt64) :: wC g ad mc M sig z)) H := hP
  have hD : va_D (q_n s.heap) (wMo g am th sa z ++ (oW g oa (vp_updL f 0 (hearF (sL z) (atF (sst z) sig) a t).toInt64) :: wC g ad mc M sig z)) := hD
  refine lv_istore (lv' := [(5, .int (nI 0)), (4, .int (nI (4 * i))), (0, .ref b), (1, .ref (ad 0)), (2, .ref (am 0)), (3, .ref oa)]) hx hb dL_law_741 hl (by decide) rfl (fun ls hl => ?_)
  refine lv_aload_n hx hb dL_law_743 rfl (lv_at hl 4 rfl) ?_
  refine lv_aload_n hx hb dL_law_744 rfl (lv_at hl 2 rfl) ?_
  refine lv_iload hx hb dL_law_745 (lv_at hl 1 rfl) ?_
  refine lv_iconst (v := nI 1) hx hb dL_law_747 (by decide) ?_
  refine q_iadd (v := nI (4 * i + 1)) hx hb dL_law_748 (nI_add _ _) ?_
  refine q_sld (v := nI a) hx hb hX hbl hbA hS (by omega) hL dL_law_749 e1 ?_
  refine lv_aload_n hx hb dL_law_750 rfl (lv_at hl 2 rfl) ?_
  refine lv_iload hx hb dL_law_751 (lv_at hl 1 rfl) ?_
  refine lv_iconst (v := nI 2) hx hb dL_law_753 (by decide) ?_
  refine q_iadd (v := nI (4 * i + 2)) hx hb dL_law_754 (nI_add _ _) ?_
  refine q_sld (v := nI t) hx hb hX hbl hbA hS (by omega) hL dL_law_755 e2 ?_
  have hr0 := va_recv hE.K hP (ci := 5) (q0 := 0) rfl rfl
  have hP := q_swP hP
  have hD := q_swD hD
  refine q_wrV (wr := (oW g oa (vp_updL f 0 (hearF (sL z) (atF (sst z) sig) a t).toInt64) :: wC g ad mc M sig z)) (As := [.int (nI a), .int (nI t)]) (rest := []) ⟨hx, hb, hml, hown, hts⟩ (c_X4_hear hV hR ha_ ht_) (cwV 2 hts gL_law_X4_hear rfl rfl rfl (by decide +kernel) ⟨Nat.le_of_ble_eq_true rfl, Nat.le_of_ble_eq_true rfl⟩) hE hP hD hS hA hr0 rfl hl.1 rfl (Nat.le_of_ble_eq_true rfl) dL_law_756 ⟨by show _ ≤ 601024; omega, by show _ ≤ 7293034; omega⟩ (fun _u H locs hP hD hS hE => ?_)
  have hP : va_P g.1 vwCl (wMo g am (nI 0) sa z ++ (oW g oa (vp_updL f 0 (hearF (sL z) (atF (sst z) sig) a t).toInt64) :: wC g ad mc M sig z)) H := q_swP hP
  have hD : va_D (q_n s.heap) (wMo g am (nI 0) sa z ++ (oW g oa (vp_updL f 0 (hearF (sL z) (atF (sst z) sig) a t).toInt64) :: wC g ad mc M sig z)) := q_swD hD
  refine lv_istore (lv' := [(6, .int (hearF (sL z) (kM z) a t)), (5, .int (nI 0)), (4, .int (nI (4 * i))), (0, .ref b), (1, .ref (ad 0)), (2, .ref (am 0)), (3, .ref oa)]) hx hb dL_law_759 hl (by decide) rfl (fun ls hl => ?_)
  refine lv_aload_n hx hb dL_law_761 rfl (lv_at hl 5 rfl) ?_
  refine q_roV (As := []) (rest := []) ⟨hx, hb, hml, hown, hts⟩ (c_X4_thrown (am := am) (th := nI 0) (sa := sa) (z := z)) (cwV 0 hts gL_law_X4_thrown rfl rfl rfl (by decide +kernel) ⟨Nat.le_of_ble_eq_true rfl, Nat.le_of_ble_eq_true rfl⟩) hE (fun q h => hA q (Nat.le_trans hS.1 h)) (fun k q h => hP k q (q_apL h)) (va_recv hE.K hP (ci := 5) (q0 := 0) rfl rfl) rfl hl.1 rfl (Nat.le_of_ble_eq_true rfl) dL_law_762 ⟨by show _ ≤ 601024; omega, by show _ ≤ 7293034; omega⟩ ?_
  refine lv_iload hx hb dL_law_765 (lv_at hl 1 rfl) ?_
  refine q_icmp_eq (tgt := 772) hx hb (by omega) (by omega) dL_law_767 (by decide) (fun c_1 => ?_) (fun c_1 => ?_)
  · refine lv_iload hx hb dL_law_772 (lv_at hl 1 rfl) ?_
    refine q_if_ne (tgt := 789) hx hb (by omega) dL_law_774 (by decide) (fun c_2 => ?_) (fun c_2 => ?_)
    · exact absurd c_2 (by decide)
    · refine lv_aload_n hx hb dL_law_777 rfl (lv_at hl 6 rfl) ?_
      refine lv_iconst (v := nI 0) hx hb dL_law_778 (by decide) ?_
      refine q_lald (v := (hearF (sL z) (kM z) a t).toInt64) (q0 := 7) hx hb hE hP rfl dL_law_779 (show (hearF (sL z) (atF (sst z) sig) a t).toInt64 = (hearF (sL z) (kM z) a t).toInt64 by rw [hK]) ?_
      refine lv_iload hx hb dL_law_780 (lv_at hl 0 rfl) ?_
      refine lv_i2l (v := (hearF (sL z) (kM z) a t).toInt64) hx hb dL_law_782 rfl ?_
      refine q_lcmp hx hb dL_law_783 rfl ?_
      refine q_if_eq (tgt := 789) hx hb (by omega) dL_law_784 (by decide) (fun c_3 => ?_) (fun c_3 => ?_)
      · refine lv_goto (tgt := 1379) hx hb dL_law_789 (by decide) ?_
        exact W.widen (k := cells + 3) (n := slots + 27) (by omega) (by omega) (kk (ad) (nI 0) (mc) (M) (sig) (sa) (z) (vp_updL f 0 (hearF (sL z) (atF (sst z) sig) a t).toInt64) H locs _ (rfl) ⟨hIV, hP, hD, hS, hE⟩ (lv_sub hl [2, 3, 4, 5, 6] rfl))
      · exact absurd c_3 (by omega)
  · exact absurd rfl c_1
set_option maxHeartbeats 4000000 in
set_option maxRecDepth 100000 in
theorem lw_c9_1 {p : Program} {l : Launch} {e : Env} {s : State} {m : MethodId} {below : List Frame} {meth : Method} {c : Code} {H : Heap} {locs : List Loc} {Q : State → Prop} {ls : Array Slot} {g : gT} {am ad : Nat → Nat} {oa : Nat} {th mc : Int32} {M : Nat} {sig sa : Nat → Int32} {z : sT} {f : Nat → Int64} {b L i cells slots : Nat} {xs : Nat → Int32} (C : LC p l s m c b L xs) (D : LD g s am ad oa th mc M sig sa z f H locs) (hi : 4 * i + 4 ≤ L) (hc : cells + 3 ≤ 601024) (hs : slots + 27 ≤ 7293034) (hl : lv_has ls 9 (lL (4 * i) b (ad 0) (am 0) oa)) (kk : LK p l e s m below meth c g b am oa (ad 0) (4 * i) cells slots Q) (hx_ : ¬ inR (xs (4 * i + 1)) (sL z)) : W p l e room_1 s m #[Value.ref b] below meth c H locs cells slots Q (F0 m 724 ls []) := by
  obtain ⟨hx, hb, hml, hown, hts, hl0, hX, hbl, hL⟩ := C
  obtain ⟨hIV, hP, hD, hS, hE⟩ := D
  have hV := hIV.1
  have hM := hIV.2.1
  have hR := hIV.2.2.1
  have hK := hIV.K
  have hn := hV.n
  have hbA : ¬ q_n s.heap b := Nat.not_le.mpr hbl
  have hA : ∀ q, s.heap.size ≤ q → q_n s.heap q := fun _ h => h
  refine lv_aload_n hx hb dL_law_724 rfl (lv_at hl 2 rfl) ?_
  refine lv_aload_n hx hb dL_law_725 rfl (lv_at hl 1 rfl) ?_
  refine lv_iload hx hb dL_law_726 (lv_at hl 0 rfl) ?_
  refine lv_iconst (v := nI 1) hx hb dL_law_728 (by decide) ?_
  refine q_iadd (v := nI (4 * i + 1)) hx hb dL_law_729 (nI_add _ _) ?_
  refine q_sld (v := xs (4 * i + 1)) hx hb hX hbl hbA hS (by omega) hL dL_law_730 rfl ?_
  refine lv_aload_n hx hb dL_law_731 rfl (lv_at hl 1 rfl) ?_
  refine lv_iload hx hb dL_law_732 (lv_at hl 0 rfl) ?_
  refine lv_iconst (v := nI 2) hx hb dL_law_734 (by decide) ?_
  refine q_iadd (v := nI (4 * i + 2)) hx hb dL_law_735 (nI_add _ _) ?_
  refine q_sld (v := xs (4 * i + 2)) hx hb hX hbl hbA hS (by omega) hL dL_law_736 rfl ?_
  refine lv_aload_n hx hb dL_law_737 rfl (lv_at hl 4 rfl) ?_
  refine q_wrSW (wr := wMo g am th sa z) (As := [.ref (ad 0), .int (xs (4 * i + 1)), .int (xs (4 * i + 2)), .ref oa]) (rest := []) ⟨hx, hb, hml, hown, hts⟩ (w_L_hear_1 hl0 hM hV hx_) (vx_cwSW 4 hts gL_law_L_hear rfl rfl rfl (by decide +kernel) ⟨Nat.le_of_ble_eq_true rfl, Nat.le_of_ble_eq_true rfl⟩) hE hP hD hS hA rfl hl.1 rfl (Nat.le_of_ble_eq_true rfl) dL_law_738 ⟨by show _ ≤ 601024; omega, by show _ ≤ 7293034; omega⟩ (fun _u H locs hP hD hS hE => ?_)
  have hP : va_P g.1 vwCl (wMo g am th sa z ++ (oW g oa (f) :: wC g ad mc M sig z)) H := hP
  have hD : va_D (q_n s.heap) (wMo g am th sa z ++ (oW g oa (f) :: wC g ad mc M sig z)) := hD
  refine lv_istore (lv' := [(5, .int (nI 1)), (4, .int (nI (4 * i))), (0, .ref b), (1, .ref (ad 0)), (2, .ref (am 0)), (3, .ref oa)]) hx hb dL_law_741 hl (by decide) rfl (fun ls hl => ?_)
  refine lv_aload_n hx hb dL_law_743 rfl (lv_at hl 4 rfl) ?_
  refine lv_aload_n hx hb dL_law_744 rfl (lv_at hl 2 rfl) ?_
  refine lv_iload hx hb dL_law_745 (lv_at hl 1 rfl) ?_
  refine lv_iconst (v := nI 1) hx hb dL_law_747 (by decide) ?_
  refine q_iadd (v := nI (4 * i + 1)) hx hb dL_law_748 (nI_add _ _) ?_
  refine q_sld (v := xs (4 * i + 1)) hx hb hX hbl hbA hS (by omega) hL dL_law_749 rfl ?_
  refine lv_aload_n hx hb dL_law_750 rfl (lv_at hl 2 rfl) ?_
  refine lv_iload hx hb dL_law_751 (lv_at hl 1 rfl) ?_
  refine lv_iconst (v := nI 2) hx hb dL_law_753 (by decide) ?_
  refine q_iadd (v := nI (4 * i + 2)) hx hb dL_law_754 (nI_add _ _) ?_
  refine q_sld (v := xs (4 * i + 2)) hx hb hX hbl hbA hS (by omega) hL dL_law_755 rfl ?_
  have hr0 := va_recv hE.K hP (ci := 5) (q0 := 0) rfl rfl
  have hP := q_swP hP
  have hD := q_swD hD
  refine q_wrV (wr := (oW g oa (f) :: wC g ad mc M sig z)) (As := [.int (xs (4 * i + 1)), .int (xs (4 * i + 2))]) (rest := []) ⟨hx, hb, hml, hown, hts⟩ (cn_X4_hear_1 hV hR hx_) (cwV 2 hts gL_law_X4_hear rfl rfl rfl (by decide +kernel) ⟨Nat.le_of_ble_eq_true rfl, Nat.le_of_ble_eq_true rfl⟩) hE hP hD hS hA hr0 rfl hl.1 rfl (Nat.le_of_ble_eq_true rfl) dL_law_756 ⟨by show _ ≤ 601024; omega, by show _ ≤ 7293034; omega⟩ (fun _u H locs hP hD hS hE => ?_)
  have hP : va_P g.1 vwCl (wMo g am (nI 1) sa z ++ (oW g oa (f) :: wC g ad mc M sig z)) H := q_swP hP
  have hD : va_D (q_n s.heap) (wMo g am (nI 1) sa z ++ (oW g oa (f) :: wC g ad mc M sig z)) := q_swD hD
  refine lv_istore (lv' := [(6, .int (nI 0)), (5, .int (nI 1)), (4, .int (nI (4 * i))), (0, .ref b), (1, .ref (ad 0)), (2, .ref (am 0)), (3, .ref oa)]) hx hb dL_law_759 hl (by decide) rfl (fun ls hl => ?_)
  refine lv_aload_n hx hb dL_law_761 rfl (lv_at hl 5 rfl) ?_
  refine q_roV (As := []) (rest := []) ⟨hx, hb, hml, hown, hts⟩ (c_X4_thrown (am := am) (th := nI 1) (sa := sa) (z := z)) (cwV 0 hts gL_law_X4_thrown rfl rfl rfl (by decide +kernel) ⟨Nat.le_of_ble_eq_true rfl, Nat.le_of_ble_eq_true rfl⟩) hE (fun q h => hA q (Nat.le_trans hS.1 h)) (fun k q h => hP k q (q_apL h)) (va_recv hE.K hP (ci := 5) (q0 := 0) rfl rfl) rfl hl.1 rfl (Nat.le_of_ble_eq_true rfl) dL_law_762 ⟨by show _ ≤ 601024; omega, by show _ ≤ 7293034; omega⟩ ?_
  refine lv_iload hx hb dL_law_765 (lv_at hl 1 rfl) ?_
  refine q_icmp_eq (tgt := 772) hx hb (by omega) (by omega) dL_law_767 (by decide) (fun c_1 => ?_) (fun c_1 => ?_)
  · refine lv_iload hx hb dL_law_772 (lv_at hl 1 rfl) ?_
    refine q_if_ne (tgt := 789) hx hb (by omega) dL_law_774 (by decide) (fun c_2 => ?_) (fun c_2 => ?_)
    · refine lv_goto (tgt := 1379) hx hb dL_law_789 (by decide) ?_
      exact W.widen (k := cells + 3) (n := slots + 27) (by omega) (by omega) (kk (ad) (nI 1) (mc) (M) (sig) (sa) (z) (f) H locs _ (rfl) ⟨hIV, hP, hD, hS, hE⟩ (lv_sub hl [2, 3, 4, 5, 6] rfl))
    · exact absurd c_2 (by decide)
  · exact absurd rfl c_1
set_option maxHeartbeats 4000000 in
set_option maxRecDepth 100000 in
theorem lw_c9_2 {p : Program} {l : Launch} {e : Env} {s : State} {m : MethodId} {below : List Frame} {meth : Method} {c : Code} {H : Heap} {locs : List Loc} {Q : State → Prop} {ls : Array Slot} {g : gT} {am ad : Nat → Nat} {oa : Nat} {th mc : Int32} {M : Nat} {sig sa : Nat → Int32} {z : sT} {f : Nat → Int64} {b L i cells slots : Nat} {xs : Nat → Int32} (C : LC p l s m c b L xs) (D : LD g s am ad oa th mc M sig sa z f H locs) (hi : 4 * i + 4 ≤ L) (hc : cells + 3 ≤ 601024) (hs : slots + 27 ≤ 7293034) (hl : lv_has ls 9 (lL (4 * i) b (ad 0) (am 0) oa)) (kk : LK p l e s m below meth c g b am oa (ad 0) (4 * i) cells slots Q) {a : Nat} (ha_ : a < sL z) (hx_ : ¬ inR (xs (4 * i + 2)) (1000)) (e1 : xs (4 * i + 1) = nI a) : W p l e room_1 s m #[Value.ref b] below meth c H locs cells slots Q (F0 m 724 ls []) := by
  obtain ⟨hx, hb, hml, hown, hts, hl0, hX, hbl, hL⟩ := C
  obtain ⟨hIV, hP, hD, hS, hE⟩ := D
  have hV := hIV.1
  have hM := hIV.2.1
  have hR := hIV.2.2.1
  have hK := hIV.K
  have hn := hV.n
  have hbA : ¬ q_n s.heap b := Nat.not_le.mpr hbl
  have hA : ∀ q, s.heap.size ≤ q → q_n s.heap q := fun _ h => h
  refine lv_aload_n hx hb dL_law_724 rfl (lv_at hl 2 rfl) ?_
  refine lv_aload_n hx hb dL_law_725 rfl (lv_at hl 1 rfl) ?_
  refine lv_iload hx hb dL_law_726 (lv_at hl 0 rfl) ?_
  refine lv_iconst (v := nI 1) hx hb dL_law_728 (by decide) ?_
  refine q_iadd (v := nI (4 * i + 1)) hx hb dL_law_729 (nI_add _ _) ?_
  refine q_sld (v := nI a) hx hb hX hbl hbA hS (by omega) hL dL_law_730 e1 ?_
  refine lv_aload_n hx hb dL_law_731 rfl (lv_at hl 1 rfl) ?_
  refine lv_iload hx hb dL_law_732 (lv_at hl 0 rfl) ?_
  refine lv_iconst (v := nI 2) hx hb dL_law_734 (by decide) ?_
  refine q_iadd (v := nI (4 * i + 2)) hx hb dL_law_735 (nI_add _ _) ?_
  refine q_sld (v := xs (4 * i + 2)) hx hb hX hbl hbA hS (by omega) hL dL_law_736 rfl ?_
  refine lv_aload_n hx hb dL_law_737 rfl (lv_at hl 4 rfl) ?_
  refine q_wrSW (wr := wMo g am th sa z) (As := [.ref (ad 0), .int (nI a), .int (xs (4 * i + 2)), .ref oa]) (rest := []) ⟨hx, hb, hml, hown, hts⟩ (w_L_hear_2 hl0 hM hV ha_ hx_) (vx_cwSW 4 hts gL_law_L_hear rfl rfl rfl (by decide +kernel) ⟨Nat.le_of_ble_eq_true rfl, Nat.le_of_ble_eq_true rfl⟩) hE hP hD hS hA rfl hl.1 rfl (Nat.le_of_ble_eq_true rfl) dL_law_738 ⟨by show _ ≤ 601024; omega, by show _ ≤ 7293034; omega⟩ (fun _u H locs hP hD hS hE => ?_)
  have hP : va_P g.1 vwCl (wMo g am th sa z ++ (oW g oa (f) :: wC g ad mc M sig z)) H := hP
  have hD : va_D (q_n s.heap) (wMo g am th sa z ++ (oW g oa (f) :: wC g ad mc M sig z)) := hD
  refine lv_istore (lv' := [(5, .int (nI 2)), (4, .int (nI (4 * i))), (0, .ref b), (1, .ref (ad 0)), (2, .ref (am 0)), (3, .ref oa)]) hx hb dL_law_741 hl (by decide) rfl (fun ls hl => ?_)
  refine lv_aload_n hx hb dL_law_743 rfl (lv_at hl 4 rfl) ?_
  refine lv_aload_n hx hb dL_law_744 rfl (lv_at hl 2 rfl) ?_
  refine lv_iload hx hb dL_law_745 (lv_at hl 1 rfl) ?_
  refine lv_iconst (v := nI 1) hx hb dL_law_747 (by decide) ?_
  refine q_iadd (v := nI (4 * i + 1)) hx hb dL_law_748 (nI_add _ _) ?_
  refine q_sld (v := nI a) hx hb hX hbl hbA hS (by omega) hL dL_law_749 e1 ?_
  refine lv_aload_n hx hb dL_law_750 rfl (lv_at hl 2 rfl) ?_
  refine lv_iload hx hb dL_law_751 (lv_at hl 1 rfl) ?_
  refine lv_iconst (v := nI 2) hx hb dL_law_753 (by decide) ?_
  refine q_iadd (v := nI (4 * i + 2)) hx hb dL_law_754 (nI_add _ _) ?_
  refine q_sld (v := xs (4 * i + 2)) hx hb hX hbl hbA hS (by omega) hL dL_law_755 rfl ?_
  have hr0 := va_recv hE.K hP (ci := 5) (q0 := 0) rfl rfl
  have hP := q_swP hP
  have hD := q_swD hD
  refine q_wrV (wr := (oW g oa (f) :: wC g ad mc M sig z)) (As := [.int (nI a), .int (xs (4 * i + 2))]) (rest := []) ⟨hx, hb, hml, hown, hts⟩ (cn_X4_hear_2 hV hR ha_ hx_) (cwV 2 hts gL_law_X4_hear rfl rfl rfl (by decide +kernel) ⟨Nat.le_of_ble_eq_true rfl, Nat.le_of_ble_eq_true rfl⟩) hE hP hD hS hA hr0 rfl hl.1 rfl (Nat.le_of_ble_eq_true rfl) dL_law_756 ⟨by show _ ≤ 601024; omega, by show _ ≤ 7293034; omega⟩ (fun _u H locs hP hD hS hE => ?_)
  have hP : va_P g.1 vwCl (wMo g am (nI 2) sa z ++ (oW g oa (f) :: wC g ad mc M sig z)) H := q_swP hP
  have hD : va_D (q_n s.heap) (wMo g am (nI 2) sa z ++ (oW g oa (f) :: wC g ad mc M sig z)) := q_swD hD
  refine lv_istore (lv' := [(6, .int (nI 0)), (5, .int (nI 2)), (4, .int (nI (4 * i))), (0, .ref b), (1, .ref (ad 0)), (2, .ref (am 0)), (3, .ref oa)]) hx hb dL_law_759 hl (by decide) rfl (fun ls hl => ?_)
  refine lv_aload_n hx hb dL_law_761 rfl (lv_at hl 5 rfl) ?_
  refine q_roV (As := []) (rest := []) ⟨hx, hb, hml, hown, hts⟩ (c_X4_thrown (am := am) (th := nI 2) (sa := sa) (z := z)) (cwV 0 hts gL_law_X4_thrown rfl rfl rfl (by decide +kernel) ⟨Nat.le_of_ble_eq_true rfl, Nat.le_of_ble_eq_true rfl⟩) hE (fun q h => hA q (Nat.le_trans hS.1 h)) (fun k q h => hP k q (q_apL h)) (va_recv hE.K hP (ci := 5) (q0 := 0) rfl rfl) rfl hl.1 rfl (Nat.le_of_ble_eq_true rfl) dL_law_762 ⟨by show _ ≤ 601024; omega, by show _ ≤ 7293034; omega⟩ ?_
  refine lv_iload hx hb dL_law_765 (lv_at hl 1 rfl) ?_
  refine q_icmp_eq (tgt := 772) hx hb (by omega) (by omega) dL_law_767 (by decide) (fun c_1 => ?_) (fun c_1 => ?_)
  · refine lv_iload hx hb dL_law_772 (lv_at hl 1 rfl) ?_
    refine q_if_ne (tgt := 789) hx hb (by omega) dL_law_774 (by decide) (fun c_2 => ?_) (fun c_2 => ?_)
    · refine lv_goto (tgt := 1379) hx hb dL_law_789 (by decide) ?_
      exact W.widen (k := cells + 3) (n := slots + 27) (by omega) (by omega) (kk (ad) (nI 2) (mc) (M) (sig) (sa) (z) (f) H locs _ (rfl) ⟨hIV, hP, hD, hS, hE⟩ (lv_sub hl [2, 3, 4, 5, 6] rfl))
    · exact absurd c_2 (by decide)
  · exact absurd rfl c_1
set_option maxHeartbeats 4000000 in
set_option maxRecDepth 100000 in
theorem lw_c10 {p : Program} {l : Launch} {e : Env} {s : State} {m : MethodId} {below : List Frame} {meth : Method} {c : Code} {H : Heap} {locs : List Loc} {Q : State → Prop} {ls : Array Slot} {g : gT} {am ad : Nat → Nat} {oa : Nat} {th mc : Int32} {M : Nat} {sig sa : Nat → Int32} {z : sT} {f : Nat → Int64} {b L i cells slots : Nat} {xs : Nat → Int32} (C : LC p l s m c b L xs) (D : LD g s am ad oa th mc M sig sa z f H locs) (hi : 4 * i + 4 ≤ L) (hc : cells + 3 ≤ 601024) (hs : slots + 27 ≤ 7293034) (hl : lv_has ls 9 (lL (4 * i) b (ad 0) (am 0) oa)) (kk : LK p l e s m below meth c g b am oa (ad 0) (4 * i) cells slots Q) {k w q_ : Nat} (hk_ : k < sn z) (hw_ : w < ssd z k) (hq_ : q_ < 3) (e1 : xs (4 * i + 1) = nI k) (e2 : xs (4 * i + 2) = nI w) (e3 : xs (4 * i + 3) = nI q_) : W p l e room_1 s m #[Value.ref b] below meth c H locs cells slots Q (F0 m 792 ls []) := by
  obtain ⟨hx, hb, hml, hown, hts, hl0, hX, hbl, hL⟩ := C
  obtain ⟨hIV, hP, hD, hS, hE⟩ := D
  have hV := hIV.1
  have hM := hIV.2.1
  have hR := hIV.2.2.1
  have hK := hIV.K
  have hn := hV.n
  have hbA : ¬ q_n s.heap b := Nat.not_le.mpr hbl
  have hA : ∀ q, s.heap.size ≤ q → q_n s.heap q := fun _ h => h
  refine lv_aload_n hx hb dL_law_792 rfl (lv_at hl 2 rfl) ?_
  refine lv_aload_n hx hb dL_law_793 rfl (lv_at hl 1 rfl) ?_
  refine lv_iload hx hb dL_law_794 (lv_at hl 0 rfl) ?_
  refine lv_iconst (v := nI 1) hx hb dL_law_796 (by decide) ?_
  refine q_iadd (v := nI (4 * i + 1)) hx hb dL_law_797 (nI_add _ _) ?_
  refine q_sld (v := nI k) hx hb hX hbl hbA hS (by omega) hL dL_law_798 e1 ?_
  refine lv_aload_n hx hb dL_law_799 rfl (lv_at hl 1 rfl) ?_
  refine lv_iload hx hb dL_law_800 (lv_at hl 0 rfl) ?_
  refine lv_iconst (v := nI 2) hx hb dL_law_802 (by decide) ?_
  refine q_iadd (v := nI (4 * i + 2)) hx hb dL_law_803 (nI_add _ _) ?_
  refine q_sld (v := nI w) hx hb hX hbl hbA hS (by omega) hL dL_law_804 e2 ?_
  refine lv_aload_n hx hb dL_law_805 rfl (lv_at hl 1 rfl) ?_
  refine lv_iload hx hb dL_law_806 (lv_at hl 0 rfl) ?_
  refine lv_iconst (v := nI 3) hx hb dL_law_808 (by decide) ?_
  refine q_iadd (v := nI (4 * i + 3)) hx hb dL_law_809 (nI_add _ _) ?_
  refine q_sld (v := nI q_) hx hb hX hbl hbA hS (by omega) hL dL_law_810 e3 ?_
  refine lv_aload_n hx hb dL_law_811 rfl (lv_at hl 4 rfl) ?_
  refine q_wrSW (wr := wMo g am th sa z) (As := [.ref (ad 0), .int (nI k), .int (nI w), .int (nI q_), .ref oa]) (rest := []) ⟨hx, hb, hml, hown, hts⟩ (w_L_word hM hV hk_ hw_ hq_) (vx_cwSW 5 hts gL_law_L_word rfl rfl rfl (by decide +kernel) ⟨Nat.le_of_ble_eq_true rfl, Nat.le_of_ble_eq_true rfl⟩) hE hP hD hS hA rfl hl.1 rfl (Nat.le_of_ble_eq_true rfl) dL_law_812 ⟨by show _ ≤ 601024; omega, by show _ ≤ 7293034; omega⟩ (fun _u H locs hP hD hS hE => ?_)
  have hP : va_P g.1 vwCl (wMo g am th sa z ++ (oW g oa (vp_updL f 0 (wrdV z (atF (sst z) sig) k w q_).toInt64) :: wC g ad mc M sig z)) H := hP
  have hD : va_D (q_n s.heap) (wMo g am th sa z ++ (oW g oa (vp_updL f 0 (wrdV z (atF (sst z) sig) k w q_).toInt64) :: wC g ad mc M sig z)) := hD
  refine lv_istore (lv' := [(5, .int (nI 0)), (4, .int (nI (4 * i))), (0, .ref b), (1, .ref (ad 0)), (2, .ref (am 0)), (3, .ref oa)]) hx hb dL_law_815 hl (by decide) rfl (fun ls hl => ?_)
  refine lv_aload_n hx hb dL_law_817 rfl (lv_at hl 4 rfl) ?_
  refine lv_aload_n hx hb dL_law_818 rfl (lv_at hl 2 rfl) ?_
  refine lv_iload hx hb dL_law_819 (lv_at hl 1 rfl) ?_
  refine lv_iconst (v := nI 1) hx hb dL_law_821 (by decide) ?_
  refine q_iadd (v := nI (4 * i + 1)) hx hb dL_law_822 (nI_add _ _) ?_
  refine q_sld (v := nI k) hx hb hX hbl hbA hS (by omega) hL dL_law_823 e1 ?_
  refine lv_aload_n hx hb dL_law_824 rfl (lv_at hl 2 rfl) ?_
  refine lv_iload hx hb dL_law_825 (lv_at hl 1 rfl) ?_
  refine lv_iconst (v := nI 2) hx hb dL_law_827 (by decide) ?_
  refine q_iadd (v := nI (4 * i + 2)) hx hb dL_law_828 (nI_add _ _) ?_
  refine q_sld (v := nI w) hx hb hX hbl hbA hS (by omega) hL dL_law_829 e2 ?_
  refine lv_aload_n hx hb dL_law_830 rfl (lv_at hl 2 rfl) ?_
  refine lv_iload hx hb dL_law_831 (lv_at hl 1 rfl) ?_
  refine lv_iconst (v := nI 3) hx hb dL_law_833 (by decide) ?_
  refine q_iadd (v := nI (4 * i + 3)) hx hb dL_law_834 (nI_add _ _) ?_
  refine q_sld (v := nI q_) hx hb hX hbl hbA hS (by omega) hL dL_law_835 e3 ?_
  have hr0 := va_recv hE.K hP (ci := 5) (q0 := 0) rfl rfl
  have hP := q_swP hP
  have hD := q_swD hD
  refine q_wrV (wr := (oW g oa (vp_updL f 0 (wrdV z (atF (sst z) sig) k w q_).toInt64) :: wC g ad mc M sig z)) (As := [.int (nI k), .int (nI w), .int (nI q_)]) (rest := []) ⟨hx, hb, hml, hown, hts⟩ (c_X4_word hV hR hk_ hw_ hq_) (cwV 3 hts gL_law_X4_word rfl rfl rfl (by decide +kernel) ⟨Nat.le_of_ble_eq_true rfl, Nat.le_of_ble_eq_true rfl⟩) hE hP hD hS hA hr0 rfl hl.1 rfl (Nat.le_of_ble_eq_true rfl) dL_law_836 ⟨by show _ ≤ 601024; omega, by show _ ≤ 7293034; omega⟩ (fun _u H locs hP hD hS hE => ?_)
  have hP : va_P g.1 vwCl (wMo g am (nI 0) sa z ++ (oW g oa (vp_updL f 0 (wrdV z (atF (sst z) sig) k w q_).toInt64) :: wC g ad mc M sig z)) H := q_swP hP
  have hD : va_D (q_n s.heap) (wMo g am (nI 0) sa z ++ (oW g oa (vp_updL f 0 (wrdV z (atF (sst z) sig) k w q_).toInt64) :: wC g ad mc M sig z)) := q_swD hD
  refine lv_istore (lv' := [(6, .int (wrdV z (kM z) k w q_)), (5, .int (nI 0)), (4, .int (nI (4 * i))), (0, .ref b), (1, .ref (ad 0)), (2, .ref (am 0)), (3, .ref oa)]) hx hb dL_law_839 hl (by decide) rfl (fun ls hl => ?_)
  refine lv_aload_n hx hb dL_law_841 rfl (lv_at hl 5 rfl) ?_
  refine q_roV (As := []) (rest := []) ⟨hx, hb, hml, hown, hts⟩ (c_X4_thrown (am := am) (th := nI 0) (sa := sa) (z := z)) (cwV 0 hts gL_law_X4_thrown rfl rfl rfl (by decide +kernel) ⟨Nat.le_of_ble_eq_true rfl, Nat.le_of_ble_eq_true rfl⟩) hE (fun q h => hA q (Nat.le_trans hS.1 h)) (fun k q h => hP k q (q_apL h)) (va_recv hE.K hP (ci := 5) (q0 := 0) rfl rfl) rfl hl.1 rfl (Nat.le_of_ble_eq_true rfl) dL_law_842 ⟨by show _ ≤ 601024; omega, by show _ ≤ 7293034; omega⟩ ?_
  refine lv_iload hx hb dL_law_845 (lv_at hl 1 rfl) ?_
  refine q_icmp_eq (tgt := 852) hx hb (by omega) (by omega) dL_law_847 (by decide) (fun c_1 => ?_) (fun c_1 => ?_)
  · refine lv_iload hx hb dL_law_852 (lv_at hl 1 rfl) ?_
    refine q_if_ne (tgt := 869) hx hb (by omega) dL_law_854 (by decide) (fun c_2 => ?_) (fun c_2 => ?_)
    · exact absurd c_2 (by decide)
    · refine lv_aload_n hx hb dL_law_857 rfl (lv_at hl 6 rfl) ?_
      refine lv_iconst (v := nI 0) hx hb dL_law_858 (by decide) ?_
      refine q_lald (v := (wrdV z (kM z) k w q_).toInt64) (q0 := 7) hx hb hE hP rfl dL_law_859 (show (wrdV z (atF (sst z) sig) k w q_).toInt64 = (wrdV z (kM z) k w q_).toInt64 by rw [hK]) ?_
      refine lv_iload hx hb dL_law_860 (lv_at hl 0 rfl) ?_
      refine lv_i2l (v := (wrdV z (kM z) k w q_).toInt64) hx hb dL_law_862 rfl ?_
      refine q_lcmp hx hb dL_law_863 rfl ?_
      refine q_if_eq (tgt := 869) hx hb (by omega) dL_law_864 (by decide) (fun c_3 => ?_) (fun c_3 => ?_)
      · refine lv_goto (tgt := 1379) hx hb dL_law_869 (by decide) ?_
        exact W.widen (k := cells + 3) (n := slots + 27) (by omega) (by omega) (kk (ad) (nI 0) (mc) (M) (sig) (sa) (z) (vp_updL f 0 (wrdV z (atF (sst z) sig) k w q_).toInt64) H locs _ (rfl) ⟨hIV, hP, hD, hS, hE⟩ (lv_sub hl [2, 3, 4, 5, 6] rfl))
      · exact absurd c_3 (by omega)
  · exact absurd rfl c_1
set_option maxHeartbeats 4000000 in
set_option maxRecDepth 100000 in
theorem lw_c10_1 {p : Program} {l : Launch} {e : Env} {s : State} {m : MethodId} {below : List Frame} {meth : Method} {c : Code} {H : Heap} {locs : List Loc} {Q : State → Prop} {ls : Array Slot} {g : gT} {am ad : Nat → Nat} {oa : Nat} {th mc : Int32} {M : Nat} {sig sa : Nat → Int32} {z : sT} {f : Nat → Int64} {b L i cells slots : Nat} {xs : Nat → Int32} (C : LC p l s m c b L xs) (D : LD g s am ad oa th mc M sig sa z f H locs) (hi : 4 * i + 4 ≤ L) (hc : cells + 3 ≤ 601024) (hs : slots + 27 ≤ 7293034) (hl : lv_has ls 9 (lL (4 * i) b (ad 0) (am 0) oa)) (kk : LK p l e s m below meth c g b am oa (ad 0) (4 * i) cells slots Q) (hx_ : ¬ inR (xs (4 * i + 1)) (sn z)) : W p l e room_1 s m #[Value.ref b] below meth c H locs cells slots Q (F0 m 792 ls []) := by
  obtain ⟨hx, hb, hml, hown, hts, hl0, hX, hbl, hL⟩ := C
  obtain ⟨hIV, hP, hD, hS, hE⟩ := D
  have hV := hIV.1
  have hM := hIV.2.1
  have hR := hIV.2.2.1
  have hK := hIV.K
  have hn := hV.n
  have hbA : ¬ q_n s.heap b := Nat.not_le.mpr hbl
  have hA : ∀ q, s.heap.size ≤ q → q_n s.heap q := fun _ h => h
  refine lv_aload_n hx hb dL_law_792 rfl (lv_at hl 2 rfl) ?_
  refine lv_aload_n hx hb dL_law_793 rfl (lv_at hl 1 rfl) ?_
  refine lv_iload hx hb dL_law_794 (lv_at hl 0 rfl) ?_
  refine lv_iconst (v := nI 1) hx hb dL_law_796 (by decide) ?_
  refine q_iadd (v := nI (4 * i + 1)) hx hb dL_law_797 (nI_add _ _) ?_
  refine q_sld (v := xs (4 * i + 1)) hx hb hX hbl hbA hS (by omega) hL dL_law_798 rfl ?_
  refine lv_aload_n hx hb dL_law_799 rfl (lv_at hl 1 rfl) ?_
  refine lv_iload hx hb dL_law_800 (lv_at hl 0 rfl) ?_
  refine lv_iconst (v := nI 2) hx hb dL_law_802 (by decide) ?_
  refine q_iadd (v := nI (4 * i + 2)) hx hb dL_law_803 (nI_add _ _) ?_
  refine q_sld (v := xs (4 * i + 2)) hx hb hX hbl hbA hS (by omega) hL dL_law_804 rfl ?_
  refine lv_aload_n hx hb dL_law_805 rfl (lv_at hl 1 rfl) ?_
  refine lv_iload hx hb dL_law_806 (lv_at hl 0 rfl) ?_
  refine lv_iconst (v := nI 3) hx hb dL_law_808 (by decide) ?_
  refine q_iadd (v := nI (4 * i + 3)) hx hb dL_law_809 (nI_add _ _) ?_
  refine q_sld (v := xs (4 * i + 3)) hx hb hX hbl hbA hS (by omega) hL dL_law_810 rfl ?_
  refine lv_aload_n hx hb dL_law_811 rfl (lv_at hl 4 rfl) ?_
  refine q_wrSW (wr := wMo g am th sa z) (As := [.ref (ad 0), .int (xs (4 * i + 1)), .int (xs (4 * i + 2)), .int (xs (4 * i + 3)), .ref oa]) (rest := []) ⟨hx, hb, hml, hown, hts⟩ (w_L_word_1 hl0 hM hV hx_) (vx_cwSW 5 hts gL_law_L_word rfl rfl rfl (by decide +kernel) ⟨Nat.le_of_ble_eq_true rfl, Nat.le_of_ble_eq_true rfl⟩) hE hP hD hS hA rfl hl.1 rfl (Nat.le_of_ble_eq_true rfl) dL_law_812 ⟨by show _ ≤ 601024; omega, by show _ ≤ 7293034; omega⟩ (fun _u H locs hP hD hS hE => ?_)
  have hP : va_P g.1 vwCl (wMo g am th sa z ++ (oW g oa (f) :: wC g ad mc M sig z)) H := hP
  have hD : va_D (q_n s.heap) (wMo g am th sa z ++ (oW g oa (f) :: wC g ad mc M sig z)) := hD
  refine lv_istore (lv' := [(5, .int (nI 1)), (4, .int (nI (4 * i))), (0, .ref b), (1, .ref (ad 0)), (2, .ref (am 0)), (3, .ref oa)]) hx hb dL_law_815 hl (by decide) rfl (fun ls hl => ?_)
  refine lv_aload_n hx hb dL_law_817 rfl (lv_at hl 4 rfl) ?_
  refine lv_aload_n hx hb dL_law_818 rfl (lv_at hl 2 rfl) ?_
  refine lv_iload hx hb dL_law_819 (lv_at hl 1 rfl) ?_
  refine lv_iconst (v := nI 1) hx hb dL_law_821 (by decide) ?_
  refine q_iadd (v := nI (4 * i + 1)) hx hb dL_law_822 (nI_add _ _) ?_
  refine q_sld (v := xs (4 * i + 1)) hx hb hX hbl hbA hS (by omega) hL dL_law_823 rfl ?_
  refine lv_aload_n hx hb dL_law_824 rfl (lv_at hl 2 rfl) ?_
  refine lv_iload hx hb dL_law_825 (lv_at hl 1 rfl) ?_
  refine lv_iconst (v := nI 2) hx hb dL_law_827 (by decide) ?_
  refine q_iadd (v := nI (4 * i + 2)) hx hb dL_law_828 (nI_add _ _) ?_
  refine q_sld (v := xs (4 * i + 2)) hx hb hX hbl hbA hS (by omega) hL dL_law_829 rfl ?_
  refine lv_aload_n hx hb dL_law_830 rfl (lv_at hl 2 rfl) ?_
  refine lv_iload hx hb dL_law_831 (lv_at hl 1 rfl) ?_
  refine lv_iconst (v := nI 3) hx hb dL_law_833 (by decide) ?_
  refine q_iadd (v := nI (4 * i + 3)) hx hb dL_law_834 (nI_add _ _) ?_
  refine q_sld (v := xs (4 * i + 3)) hx hb hX hbl hbA hS (by omega) hL dL_law_835 rfl ?_
  have hr0 := va_recv hE.K hP (ci := 5) (q0 := 0) rfl rfl
  have hP := q_swP hP
  have hD := q_swD hD
  refine q_wrV (wr := (oW g oa (f) :: wC g ad mc M sig z)) (As := [.int (xs (4 * i + 1)), .int (xs (4 * i + 2)), .int (xs (4 * i + 3))]) (rest := []) ⟨hx, hb, hml, hown, hts⟩ (cn_X4_word_1 hV hR hx_) (cwV 3 hts gL_law_X4_word rfl rfl rfl (by decide +kernel) ⟨Nat.le_of_ble_eq_true rfl, Nat.le_of_ble_eq_true rfl⟩) hE hP hD hS hA hr0 rfl hl.1 rfl (Nat.le_of_ble_eq_true rfl) dL_law_836 ⟨by show _ ≤ 601024; omega, by show _ ≤ 7293034; omega⟩ (fun _u H locs hP hD hS hE => ?_)
  have hP : va_P g.1 vwCl (wMo g am (nI 1) sa z ++ (oW g oa (f) :: wC g ad mc M sig z)) H := q_swP hP
  have hD : va_D (q_n s.heap) (wMo g am (nI 1) sa z ++ (oW g oa (f) :: wC g ad mc M sig z)) := q_swD hD
  refine lv_istore (lv' := [(6, .int (nI 0)), (5, .int (nI 1)), (4, .int (nI (4 * i))), (0, .ref b), (1, .ref (ad 0)), (2, .ref (am 0)), (3, .ref oa)]) hx hb dL_law_839 hl (by decide) rfl (fun ls hl => ?_)
  refine lv_aload_n hx hb dL_law_841 rfl (lv_at hl 5 rfl) ?_
  refine q_roV (As := []) (rest := []) ⟨hx, hb, hml, hown, hts⟩ (c_X4_thrown (am := am) (th := nI 1) (sa := sa) (z := z)) (cwV 0 hts gL_law_X4_thrown rfl rfl rfl (by decide +kernel) ⟨Nat.le_of_ble_eq_true rfl, Nat.le_of_ble_eq_true rfl⟩) hE (fun q h => hA q (Nat.le_trans hS.1 h)) (fun k q h => hP k q (q_apL h)) (va_recv hE.K hP (ci := 5) (q0 := 0) rfl rfl) rfl hl.1 rfl (Nat.le_of_ble_eq_true rfl) dL_law_842 ⟨by show _ ≤ 601024; omega, by show _ ≤ 7293034; omega⟩ ?_
  refine lv_iload hx hb dL_law_845 (lv_at hl 1 rfl) ?_
  refine q_icmp_eq (tgt := 852) hx hb (by omega) (by omega) dL_law_847 (by decide) (fun c_1 => ?_) (fun c_1 => ?_)
  · refine lv_iload hx hb dL_law_852 (lv_at hl 1 rfl) ?_
    refine q_if_ne (tgt := 869) hx hb (by omega) dL_law_854 (by decide) (fun c_2 => ?_) (fun c_2 => ?_)
    · refine lv_goto (tgt := 1379) hx hb dL_law_869 (by decide) ?_
      exact W.widen (k := cells + 3) (n := slots + 27) (by omega) (by omega) (kk (ad) (nI 1) (mc) (M) (sig) (sa) (z) (f) H locs _ (rfl) ⟨hIV, hP, hD, hS, hE⟩ (lv_sub hl [2, 3, 4, 5, 6] rfl))
    · exact absurd c_2 (by decide)
  · exact absurd rfl c_1
set_option maxHeartbeats 4000000 in
set_option maxRecDepth 100000 in
theorem lw_c10_2 {p : Program} {l : Launch} {e : Env} {s : State} {m : MethodId} {below : List Frame} {meth : Method} {c : Code} {H : Heap} {locs : List Loc} {Q : State → Prop} {ls : Array Slot} {g : gT} {am ad : Nat → Nat} {oa : Nat} {th mc : Int32} {M : Nat} {sig sa : Nat → Int32} {z : sT} {f : Nat → Int64} {b L i cells slots : Nat} {xs : Nat → Int32} (C : LC p l s m c b L xs) (D : LD g s am ad oa th mc M sig sa z f H locs) (hi : 4 * i + 4 ≤ L) (hc : cells + 3 ≤ 601024) (hs : slots + 27 ≤ 7293034) (hl : lv_has ls 9 (lL (4 * i) b (ad 0) (am 0) oa)) (kk : LK p l e s m below meth c g b am oa (ad 0) (4 * i) cells slots Q) {k : Nat} (hk_ : k < sn z) (hx_ : ¬ inR (xs (4 * i + 2)) (ssd z k)) (e1 : xs (4 * i + 1) = nI k) : W p l e room_1 s m #[Value.ref b] below meth c H locs cells slots Q (F0 m 792 ls []) := by
  obtain ⟨hx, hb, hml, hown, hts, hl0, hX, hbl, hL⟩ := C
  obtain ⟨hIV, hP, hD, hS, hE⟩ := D
  have hV := hIV.1
  have hM := hIV.2.1
  have hR := hIV.2.2.1
  have hK := hIV.K
  have hn := hV.n
  have hbA : ¬ q_n s.heap b := Nat.not_le.mpr hbl
  have hA : ∀ q, s.heap.size ≤ q → q_n s.heap q := fun _ h => h
  refine lv_aload_n hx hb dL_law_792 rfl (lv_at hl 2 rfl) ?_
  refine lv_aload_n hx hb dL_law_793 rfl (lv_at hl 1 rfl) ?_
  refine lv_iload hx hb dL_law_794 (lv_at hl 0 rfl) ?_
  refine lv_iconst (v := nI 1) hx hb dL_law_796 (by decide) ?_
  refine q_iadd (v := nI (4 * i + 1)) hx hb dL_law_797 (nI_add _ _) ?_
  refine q_sld (v := nI k) hx hb hX hbl hbA hS (by omega) hL dL_law_798 e1 ?_
  refine lv_aload_n hx hb dL_law_799 rfl (lv_at hl 1 rfl) ?_
  refine lv_iload hx hb dL_law_800 (lv_at hl 0 rfl) ?_
  refine lv_iconst (v := nI 2) hx hb dL_law_802 (by decide) ?_
  refine q_iadd (v := nI (4 * i + 2)) hx hb dL_law_803 (nI_add _ _) ?_
  refine q_sld (v := xs (4 * i + 2)) hx hb hX hbl hbA hS (by omega) hL dL_law_804 rfl ?_
  refine lv_aload_n hx hb dL_law_805 rfl (lv_at hl 1 rfl) ?_
  refine lv_iload hx hb dL_law_806 (lv_at hl 0 rfl) ?_
  refine lv_iconst (v := nI 3) hx hb dL_law_808 (by decide) ?_
  refine q_iadd (v := nI (4 * i + 3)) hx hb dL_law_809 (nI_add _ _) ?_
  refine q_sld (v := xs (4 * i + 3)) hx hb hX hbl hbA hS (by omega) hL dL_law_810 rfl ?_
  refine lv_aload_n hx hb dL_law_811 rfl (lv_at hl 4 rfl) ?_
  refine q_wrSW (wr := wMo g am th sa z) (As := [.ref (ad 0), .int (nI k), .int (xs (4 * i + 2)), .int (xs (4 * i + 3)), .ref oa]) (rest := []) ⟨hx, hb, hml, hown, hts⟩ (w_L_word_2 hl0 hM hV hk_ hx_) (vx_cwSW 5 hts gL_law_L_word rfl rfl rfl (by decide +kernel) ⟨Nat.le_of_ble_eq_true rfl, Nat.le_of_ble_eq_true rfl⟩) hE hP hD hS hA rfl hl.1 rfl (Nat.le_of_ble_eq_true rfl) dL_law_812 ⟨by show _ ≤ 601024; omega, by show _ ≤ 7293034; omega⟩ (fun _u H locs hP hD hS hE => ?_)
  have hP : va_P g.1 vwCl (wMo g am th sa z ++ (oW g oa (f) :: wC g ad mc M sig z)) H := hP
  have hD : va_D (q_n s.heap) (wMo g am th sa z ++ (oW g oa (f) :: wC g ad mc M sig z)) := hD
  refine lv_istore (lv' := [(5, .int (nI 1)), (4, .int (nI (4 * i))), (0, .ref b), (1, .ref (ad 0)), (2, .ref (am 0)), (3, .ref oa)]) hx hb dL_law_815 hl (by decide) rfl (fun ls hl => ?_)
  refine lv_aload_n hx hb dL_law_817 rfl (lv_at hl 4 rfl) ?_
  refine lv_aload_n hx hb dL_law_818 rfl (lv_at hl 2 rfl) ?_
  refine lv_iload hx hb dL_law_819 (lv_at hl 1 rfl) ?_
  refine lv_iconst (v := nI 1) hx hb dL_law_821 (by decide) ?_
  refine q_iadd (v := nI (4 * i + 1)) hx hb dL_law_822 (nI_add _ _) ?_
  refine q_sld (v := nI k) hx hb hX hbl hbA hS (by omega) hL dL_law_823 e1 ?_
  refine lv_aload_n hx hb dL_law_824 rfl (lv_at hl 2 rfl) ?_
  refine lv_iload hx hb dL_law_825 (lv_at hl 1 rfl) ?_
  refine lv_iconst (v := nI 2) hx hb dL_law_827 (by decide) ?_
  refine q_iadd (v := nI (4 * i + 2)) hx hb dL_law_828 (nI_add _ _) ?_
  refine q_sld (v := xs (4 * i + 2)) hx hb hX hbl hbA hS (by omega) hL dL_law_829 rfl ?_
  refine lv_aload_n hx hb dL_law_830 rfl (lv_at hl 2 rfl) ?_
  refine lv_iload hx hb dL_law_831 (lv_at hl 1 rfl) ?_
  refine lv_iconst (v := nI 3) hx hb dL_law_833 (by decide) ?_
  refine q_iadd (v := nI (4 * i + 3)) hx hb dL_law_834 (nI_add _ _) ?_
  refine q_sld (v := xs (4 * i + 3)) hx hb hX hbl hbA hS (by omega) hL dL_law_835 rfl ?_
  have hr0 := va_recv hE.K hP (ci := 5) (q0 := 0) rfl rfl
  have hP := q_swP hP
  have hD := q_swD hD
  refine q_wrV (wr := (oW g oa (f) :: wC g ad mc M sig z)) (As := [.int (nI k), .int (xs (4 * i + 2)), .int (xs (4 * i + 3))]) (rest := []) ⟨hx, hb, hml, hown, hts⟩ (cn_X4_word_2 hV hR hk_ hx_) (cwV 3 hts gL_law_X4_word rfl rfl rfl (by decide +kernel) ⟨Nat.le_of_ble_eq_true rfl, Nat.le_of_ble_eq_true rfl⟩) hE hP hD hS hA hr0 rfl hl.1 rfl (Nat.le_of_ble_eq_true rfl) dL_law_836 ⟨by show _ ≤ 601024; omega, by show _ ≤ 7293034; omega⟩ (fun _u H locs hP hD hS hE => ?_)
  have hP : va_P g.1 vwCl (wMo g am (nI 1) sa z ++ (oW g oa (f) :: wC g ad mc M sig z)) H := q_swP hP
  have hD : va_D (q_n s.heap) (wMo g am (nI 1) sa z ++ (oW g oa (f) :: wC g ad mc M sig z)) := q_swD hD
  refine lv_istore (lv' := [(6, .int (nI 0)), (5, .int (nI 1)), (4, .int (nI (4 * i))), (0, .ref b), (1, .ref (ad 0)), (2, .ref (am 0)), (3, .ref oa)]) hx hb dL_law_839 hl (by decide) rfl (fun ls hl => ?_)
  refine lv_aload_n hx hb dL_law_841 rfl (lv_at hl 5 rfl) ?_
  refine q_roV (As := []) (rest := []) ⟨hx, hb, hml, hown, hts⟩ (c_X4_thrown (am := am) (th := nI 1) (sa := sa) (z := z)) (cwV 0 hts gL_law_X4_thrown rfl rfl rfl (by decide +kernel) ⟨Nat.le_of_ble_eq_true rfl, Nat.le_of_ble_eq_true rfl⟩) hE (fun q h => hA q (Nat.le_trans hS.1 h)) (fun k q h => hP k q (q_apL h)) (va_recv hE.K hP (ci := 5) (q0 := 0) rfl rfl) rfl hl.1 rfl (Nat.le_of_ble_eq_true rfl) dL_law_842 ⟨by show _ ≤ 601024; omega, by show _ ≤ 7293034; omega⟩ ?_
  refine lv_iload hx hb dL_law_845 (lv_at hl 1 rfl) ?_
  refine q_icmp_eq (tgt := 852) hx hb (by omega) (by omega) dL_law_847 (by decide) (fun c_1 => ?_) (fun c_1 => ?_)
  · refine lv_iload hx hb dL_law_852 (lv_at hl 1 rfl) ?_
    refine q_if_ne (tgt := 869) hx hb (by omega) dL_law_854 (by decide) (fun c_2 => ?_) (fun c_2 => ?_)
    · refine lv_goto (tgt := 1379) hx hb dL_law_869 (by decide) ?_
      exact W.widen (k := cells + 3) (n := slots + 27) (by omega) (by omega) (kk (ad) (nI 1) (mc) (M) (sig) (sa) (z) (f) H locs _ (rfl) ⟨hIV, hP, hD, hS, hE⟩ (lv_sub hl [2, 3, 4, 5, 6] rfl))
    · exact absurd c_2 (by decide)
  · exact absurd rfl c_1
set_option maxHeartbeats 4000000 in
set_option maxRecDepth 100000 in
theorem lw_c10_3 {p : Program} {l : Launch} {e : Env} {s : State} {m : MethodId} {below : List Frame} {meth : Method} {c : Code} {H : Heap} {locs : List Loc} {Q : State → Prop} {ls : Array Slot} {g : gT} {am ad : Nat → Nat} {oa : Nat} {th mc : Int32} {M : Nat} {sig sa : Nat → Int32} {z : sT} {f : Nat → Int64} {b L i cells slots : Nat} {xs : Nat → Int32} (C : LC p l s m c b L xs) (D : LD g s am ad oa th mc M sig sa z f H locs) (hi : 4 * i + 4 ≤ L) (hc : cells + 3 ≤ 601024) (hs : slots + 27 ≤ 7293034) (hl : lv_has ls 9 (lL (4 * i) b (ad 0) (am 0) oa)) (kk : LK p l e s m below meth c g b am oa (ad 0) (4 * i) cells slots Q) {k w : Nat} (hk_ : k < sn z) (hw_ : w < ssd z k) (hx_ : ¬ inR (xs (4 * i + 3)) (3)) (e1 : xs (4 * i + 1) = nI k) (e2 : xs (4 * i + 2) = nI w) : W p l e room_1 s m #[Value.ref b] below meth c H locs cells slots Q (F0 m 792 ls []) := by
  obtain ⟨hx, hb, hml, hown, hts, hl0, hX, hbl, hL⟩ := C
  obtain ⟨hIV, hP, hD, hS, hE⟩ := D
  have hV := hIV.1
  have hM := hIV.2.1
  have hR := hIV.2.2.1
  have hK := hIV.K
  have hn := hV.n
  have hbA : ¬ q_n s.heap b := Nat.not_le.mpr hbl
  have hA : ∀ q, s.heap.size ≤ q → q_n s.heap q := fun _ h => h
  refine lv_aload_n hx hb dL_law_792 rfl (lv_at hl 2 rfl) ?_
  refine lv_aload_n hx hb dL_law_793 rfl (lv_at hl 1 rfl) ?_
  refine lv_iload hx hb dL_law_794 (lv_at hl 0 rfl) ?_
  refine lv_iconst (v := nI 1) hx hb dL_law_796 (by decide) ?_
  refine q_iadd (v := nI (4 * i + 1)) hx hb dL_law_797 (nI_add _ _) ?_
  refine q_sld (v := nI k) hx hb hX hbl hbA hS (by omega) hL dL_law_798 e1 ?_
  refine lv_aload_n hx hb dL_law_799 rfl (lv_at hl 1 rfl) ?_
  refine lv_iload hx hb dL_law_800 (lv_at hl 0 rfl) ?_
  refine lv_iconst (v := nI 2) hx hb dL_law_802 (by decide) ?_
  refine q_iadd (v := nI (4 * i + 2)) hx hb dL_law_803 (nI_add _ _) ?_
  refine q_sld (v := nI w) hx hb hX hbl hbA hS (by omega) hL dL_law_804 e2 ?_
  refine lv_aload_n hx hb dL_law_805 rfl (lv_at hl 1 rfl) ?_
  refine lv_iload hx hb dL_law_806 (lv_at hl 0 rfl) ?_
  refine lv_iconst (v := nI 3) hx hb dL_law_808 (by decide) ?_
  refine q_iadd (v := nI (4 * i + 3)) hx hb dL_law_809 (nI_add _ _) ?_
  refine q_sld (v := xs (4 * i + 3)) hx hb hX hbl hbA hS (by omega) hL dL_law_810 rfl ?_
  refine lv_aload_n hx hb dL_law_811 rfl (lv_at hl 4 rfl) ?_
  refine q_wrSW (wr := wMo g am th sa z) (As := [.ref (ad 0), .int (nI k), .int (nI w), .int (xs (4 * i + 3)), .ref oa]) (rest := []) ⟨hx, hb, hml, hown, hts⟩ (w_L_word_3 hl0 hM hV hk_ hw_ hx_) (vx_cwSW 5 hts gL_law_L_word rfl rfl rfl (by decide +kernel) ⟨Nat.le_of_ble_eq_true rfl, Nat.le_of_ble_eq_true rfl⟩) hE hP hD hS hA rfl hl.1 rfl (Nat.le_of_ble_eq_true rfl) dL_law_812 ⟨by show _ ≤ 601024; omega, by show _ ≤ 7293034; omega⟩ (fun _u H locs hP hD hS hE => ?_)
  have hP : va_P g.1 vwCl (wMo g am th sa z ++ (oW g oa (f) :: wC g ad mc M sig z)) H := hP
  have hD : va_D (q_n s.heap) (wMo g am th sa z ++ (oW g oa (f) :: wC g ad mc M sig z)) := hD
  refine lv_istore (lv' := [(5, .int (nI 1)), (4, .int (nI (4 * i))), (0, .ref b), (1, .ref (ad 0)), (2, .ref (am 0)), (3, .ref oa)]) hx hb dL_law_815 hl (by decide) rfl (fun ls hl => ?_)
  refine lv_aload_n hx hb dL_law_817 rfl (lv_at hl 4 rfl) ?_
  refine lv_aload_n hx hb dL_law_818 rfl (lv_at hl 2 rfl) ?_
  refine lv_iload hx hb dL_law_819 (lv_at hl 1 rfl) ?_
  refine lv_iconst (v := nI 1) hx hb dL_law_821 (by decide) ?_
  refine q_iadd (v := nI (4 * i + 1)) hx hb dL_law_822 (nI_add _ _) ?_
  refine q_sld (v := nI k) hx hb hX hbl hbA hS (by omega) hL dL_law_823 e1 ?_
  refine lv_aload_n hx hb dL_law_824 rfl (lv_at hl 2 rfl) ?_
  refine lv_iload hx hb dL_law_825 (lv_at hl 1 rfl) ?_
  refine lv_iconst (v := nI 2) hx hb dL_law_827 (by decide) ?_
  refine q_iadd (v := nI (4 * i + 2)) hx hb dL_law_828 (nI_add _ _) ?_
  refine q_sld (v := nI w) hx hb hX hbl hbA hS (by omega) hL dL_law_829 e2 ?_
  refine lv_aload_n hx hb dL_law_830 rfl (lv_at hl 2 rfl) ?_
  refine lv_iload hx hb dL_law_831 (lv_at hl 1 rfl) ?_
  refine lv_iconst (v := nI 3) hx hb dL_law_833 (by decide) ?_
  refine q_iadd (v := nI (4 * i + 3)) hx hb dL_law_834 (nI_add _ _) ?_
  refine q_sld (v := xs (4 * i + 3)) hx hb hX hbl hbA hS (by omega) hL dL_law_835 rfl ?_
  have hr0 := va_recv hE.K hP (ci := 5) (q0 := 0) rfl rfl
  have hP := q_swP hP
  have hD := q_swD hD
  refine q_wrV (wr := (oW g oa (f) :: wC g ad mc M sig z)) (As := [.int (nI k), .int (nI w), .int (xs (4 * i + 3))]) (rest := []) ⟨hx, hb, hml, hown, hts⟩ (cn_X4_word_3 hV hR hk_ hw_ hx_) (cwV 3 hts gL_law_X4_word rfl rfl rfl (by decide +kernel) ⟨Nat.le_of_ble_eq_true rfl, Nat.le_of_ble_eq_true rfl⟩) hE hP hD hS hA hr0 rfl hl.1 rfl (Nat.le_of_ble_eq_true rfl) dL_law_836 ⟨by show _ ≤ 601024; omega, by show _ ≤ 7293034; omega⟩ (fun _u H locs hP hD hS hE => ?_)
  have hP : va_P g.1 vwCl (wMo g am (nI 1) sa z ++ (oW g oa (f) :: wC g ad mc M sig z)) H := q_swP hP
  have hD : va_D (q_n s.heap) (wMo g am (nI 1) sa z ++ (oW g oa (f) :: wC g ad mc M sig z)) := q_swD hD
  refine lv_istore (lv' := [(6, .int (nI 0)), (5, .int (nI 1)), (4, .int (nI (4 * i))), (0, .ref b), (1, .ref (ad 0)), (2, .ref (am 0)), (3, .ref oa)]) hx hb dL_law_839 hl (by decide) rfl (fun ls hl => ?_)
  refine lv_aload_n hx hb dL_law_841 rfl (lv_at hl 5 rfl) ?_
  refine q_roV (As := []) (rest := []) ⟨hx, hb, hml, hown, hts⟩ (c_X4_thrown (am := am) (th := nI 1) (sa := sa) (z := z)) (cwV 0 hts gL_law_X4_thrown rfl rfl rfl (by decide +kernel) ⟨Nat.le_of_ble_eq_true rfl, Nat.le_of_ble_eq_true rfl⟩) hE (fun q h => hA q (Nat.le_trans hS.1 h)) (fun k q h => hP k q (q_apL h)) (va_recv hE.K hP (ci := 5) (q0 := 0) rfl rfl) rfl hl.1 rfl (Nat.le_of_ble_eq_true rfl) dL_law_842 ⟨by show _ ≤ 601024; omega, by show _ ≤ 7293034; omega⟩ ?_
  refine lv_iload hx hb dL_law_845 (lv_at hl 1 rfl) ?_
  refine q_icmp_eq (tgt := 852) hx hb (by omega) (by omega) dL_law_847 (by decide) (fun c_1 => ?_) (fun c_1 => ?_)
  · refine lv_iload hx hb dL_law_852 (lv_at hl 1 rfl) ?_
    refine q_if_ne (tgt := 869) hx hb (by omega) dL_law_854 (by decide) (fun c_2 => ?_) (fun c_2 => ?_)
    · refine lv_goto (tgt := 1379) hx hb dL_law_869 (by decide) ?_
      exact W.widen (k := cells + 3) (n := slots + 27) (by omega) (by omega) (kk (ad) (nI 1) (mc) (M) (sig) (sa) (z) (f) H locs _ (rfl) ⟨hIV, hP, hD, hS, hE⟩ (lv_sub hl [2, 3, 4, 5, 6] rfl))
    · exact absurd c_2 (by decide)
  · exact absurd rfl c_1
set_option maxHeartbeats 4000000 in
set_option maxRecDepth 100000 in
theorem lw_c11 {p : Program} {l : Launch} {e : Env} {s : State} {m : MethodId} {below : List Frame} {meth : Method} {c : Code} {H : Heap} {locs : List Loc} {Q : State → Prop} {ls : Array Slot} {g : gT} {am ad : Nat → Nat} {oa : Nat} {th mc : Int32} {M : Nat} {sig sa : Nat → Int32} {z : sT} {f : Nat → Int64} {b L i cells slots : Nat} {xs : Nat → Int32} (C : LC p l s m c b L xs) (D : LD g s am ad oa th mc M sig sa z f H locs) (hi : 4 * i + 4 ≤ L) (hc : cells + 3 ≤ 601024) (hs : slots + 27 ≤ 7293034) (hl : lv_has ls 9 (lL (4 * i) b (ad 0) (am 0) oa)) (kk : LK p l e s m below meth c g b am oa (ad 0) (4 * i) cells slots Q) {k q_ : Nat} (hk_ : k < sn z) (hq_ : q_ < 7) (e1 : xs (4 * i + 1) = nI k) (e2 : xs (4 * i + 2) = nI q_) : W p l e room_1 s m #[Value.ref b] below meth c H locs cells slots Q (F0 m 872 ls []) := by
  obtain ⟨hx, hb, hml, hown, hts, hl0, hX, hbl, hL⟩ := C
  obtain ⟨hIV, hP, hD, hS, hE⟩ := D
  have hV := hIV.1
  have hM := hIV.2.1
  have hR := hIV.2.2.1
  have hK := hIV.K
  have hn := hV.n
  have hbA : ¬ q_n s.heap b := Nat.not_le.mpr hbl
  have hA : ∀ q, s.heap.size ≤ q → q_n s.heap q := fun _ h => h
  refine lv_aload_n hx hb dL_law_872 rfl (lv_at hl 2 rfl) ?_
  refine lv_aload_n hx hb dL_law_873 rfl (lv_at hl 1 rfl) ?_
  refine lv_iload hx hb dL_law_874 (lv_at hl 0 rfl) ?_
  refine lv_iconst (v := nI 1) hx hb dL_law_876 (by decide) ?_
  refine q_iadd (v := nI (4 * i + 1)) hx hb dL_law_877 (nI_add _ _) ?_
  refine q_sld (v := nI k) hx hb hX hbl hbA hS (by omega) hL dL_law_878 e1 ?_
  refine lv_aload_n hx hb dL_law_879 rfl (lv_at hl 1 rfl) ?_
  refine lv_iload hx hb dL_law_880 (lv_at hl 0 rfl) ?_
  refine lv_iconst (v := nI 2) hx hb dL_law_882 (by decide) ?_
  refine q_iadd (v := nI (4 * i + 2)) hx hb dL_law_883 (nI_add _ _) ?_
  refine q_sld (v := nI q_) hx hb hX hbl hbA hS (by omega) hL dL_law_884 e2 ?_
  refine lv_aload_n hx hb dL_law_885 rfl (lv_at hl 4 rfl) ?_
  refine q_wrSW (wr := wMo g am th sa z) (As := [.ref (ad 0), .int (nI k), .int (nI q_), .ref oa]) (rest := []) ⟨hx, hb, hml, hown, hts⟩ (w_L_about hM hV hk_ hq_) (vx_cwSW 4 hts gL_law_L_about rfl rfl rfl (by decide +kernel) ⟨Nat.le_of_ble_eq_true rfl, Nat.le_of_ble_eq_true rfl⟩) hE hP hD hS hA rfl hl.1 rfl (Nat.le_of_ble_eq_true rfl) dL_law_886 ⟨by show _ ≤ 601024; omega, by show _ ≤ 7293034; omega⟩ (fun _u H locs hP hD hS hE => ?_)
  have hP : va_P g.1 vwCl (wMo g am th sa z ++ (oW g oa (vp_updL f 0 (abtV z (atF (sst z) sig) k q_).toInt64) :: wC g ad mc M sig z)) H := hP
  have hD : va_D (q_n s.heap) (wMo g am th sa z ++ (oW g oa (vp_updL f 0 (abtV z (atF (sst z) sig) k q_).toInt64) :: wC g ad mc M sig z)) := hD
  refine lv_istore (lv' := [(5, .int (nI 0)), (4, .int (nI (4 * i))), (0, .ref b), (1, .ref (ad 0)), (2, .ref (am 0)), (3, .ref oa)]) hx hb dL_law_889 hl (by decide) rfl (fun ls hl => ?_)
  refine lv_aload_n hx hb dL_law_891 rfl (lv_at hl 4 rfl) ?_
  refine lv_aload_n hx hb dL_law_892 rfl (lv_at hl 2 rfl) ?_
  refine lv_iload hx hb dL_law_893 (lv_at hl 1 rfl) ?_
  refine lv_iconst (v := nI 1) hx hb dL_law_895 (by decide) ?_
  refine q_iadd (v := nI (4 * i + 1)) hx hb dL_law_896 (nI_add _ _) ?_
  refine q_sld (v := nI k) hx hb hX hbl hbA hS (by omega) hL dL_law_897 e1 ?_
  refine lv_aload_n hx hb dL_law_898 rfl (lv_at hl 2 rfl) ?_
  refine lv_iload hx hb dL_law_899 (lv_at hl 1 rfl) ?_
  refine lv_iconst (v := nI 2) hx hb dL_law_901 (by decide) ?_
  refine q_iadd (v := nI (4 * i + 2)) hx hb dL_law_902 (nI_add _ _) ?_
  refine q_sld (v := nI q_) hx hb hX hbl hbA hS (by omega) hL dL_law_903 e2 ?_
  have hr0 := va_recv hE.K hP (ci := 5) (q0 := 0) rfl rfl
  have hP := q_swP hP
  have hD := q_swD hD
  refine q_wrV (wr := (oW g oa (vp_updL f 0 (abtV z (atF (sst z) sig) k q_).toInt64) :: wC g ad mc M sig z)) (As := [.int (nI k), .int (nI q_)]) (rest := []) ⟨hx, hb, hml, hown, hts⟩ (c_X4_about hV hR hk_ hq_) (cwV 2 hts gL_law_X4_about rfl rfl rfl (by decide +kernel) ⟨Nat.le_of_ble_eq_true rfl, Nat.le_of_ble_eq_true rfl⟩) hE hP hD hS hA hr0 rfl hl.1 rfl (Nat.le_of_ble_eq_true rfl) dL_law_904 ⟨by show _ ≤ 601024; omega, by show _ ≤ 7293034; omega⟩ (fun _u H locs hP hD hS hE => ?_)
  have hP : va_P g.1 vwCl (wMo g am (nI 0) sa z ++ (oW g oa (vp_updL f 0 (abtV z (atF (sst z) sig) k q_).toInt64) :: wC g ad mc M sig z)) H := q_swP hP
  have hD : va_D (q_n s.heap) (wMo g am (nI 0) sa z ++ (oW g oa (vp_updL f 0 (abtV z (atF (sst z) sig) k q_).toInt64) :: wC g ad mc M sig z)) := q_swD hD
  refine lv_istore (lv' := [(6, .int (abtV z (kM z) k q_)), (5, .int (nI 0)), (4, .int (nI (4 * i))), (0, .ref b), (1, .ref (ad 0)), (2, .ref (am 0)), (3, .ref oa)]) hx hb dL_law_907 hl (by decide) rfl (fun ls hl => ?_)
  refine lv_aload_n hx hb dL_law_909 rfl (lv_at hl 5 rfl) ?_
  refine q_roV (As := []) (rest := []) ⟨hx, hb, hml, hown, hts⟩ (c_X4_thrown (am := am) (th := nI 0) (sa := sa) (z := z)) (cwV 0 hts gL_law_X4_thrown rfl rfl rfl (by decide +kernel) ⟨Nat.le_of_ble_eq_true rfl, Nat.le_of_ble_eq_true rfl⟩) hE (fun q h => hA q (Nat.le_trans hS.1 h)) (fun k q h => hP k q (q_apL h)) (va_recv hE.K hP (ci := 5) (q0 := 0) rfl rfl) rfl hl.1 rfl (Nat.le_of_ble_eq_true rfl) dL_law_910 ⟨by show _ ≤ 601024; omega, by show _ ≤ 7293034; omega⟩ ?_
  refine lv_iload hx hb dL_law_913 (lv_at hl 1 rfl) ?_
  refine q_icmp_eq (tgt := 920) hx hb (by omega) (by omega) dL_law_915 (by decide) (fun c_1 => ?_) (fun c_1 => ?_)
  · refine lv_iload hx hb dL_law_920 (lv_at hl 1 rfl) ?_
    refine q_if_ne (tgt := 937) hx hb (by omega) dL_law_922 (by decide) (fun c_2 => ?_) (fun c_2 => ?_)
    · exact absurd c_2 (by decide)
    · refine lv_aload_n hx hb dL_law_925 rfl (lv_at hl 6 rfl) ?_
      refine lv_iconst (v := nI 0) hx hb dL_law_926 (by decide) ?_
      refine q_lald (v := (abtV z (kM z) k q_).toInt64) (q0 := 7) hx hb hE hP rfl dL_law_927 (show (abtV z (atF (sst z) sig) k q_).toInt64 = (abtV z (kM z) k q_).toInt64 by rw [hK]) ?_
      refine lv_iload hx hb dL_law_928 (lv_at hl 0 rfl) ?_
      refine lv_i2l (v := (abtV z (kM z) k q_).toInt64) hx hb dL_law_930 rfl ?_
      refine q_lcmp hx hb dL_law_931 rfl ?_
      refine q_if_eq (tgt := 937) hx hb (by omega) dL_law_932 (by decide) (fun c_3 => ?_) (fun c_3 => ?_)
      · refine lv_goto (tgt := 1379) hx hb dL_law_937 (by decide) ?_
        exact W.widen (k := cells + 3) (n := slots + 27) (by omega) (by omega) (kk (ad) (nI 0) (mc) (M) (sig) (sa) (z) (vp_updL f 0 (abtV z (atF (sst z) sig) k q_).toInt64) H locs _ (rfl) ⟨hIV, hP, hD, hS, hE⟩ (lv_sub hl [2, 3, 4, 5, 6] rfl))
      · exact absurd c_3 (by omega)
  · exact absurd rfl c_1
set_option maxHeartbeats 4000000 in
set_option maxRecDepth 100000 in
theorem lw_c11_1 {p : Program} {l : Launch} {e : Env} {s : State} {m : MethodId} {below : List Frame} {meth : Method} {c : Code} {H : Heap} {locs : List Loc} {Q : State → Prop} {ls : Array Slot} {g : gT} {am ad : Nat → Nat} {oa : Nat} {th mc : Int32} {M : Nat} {sig sa : Nat → Int32} {z : sT} {f : Nat → Int64} {b L i cells slots : Nat} {xs : Nat → Int32} (C : LC p l s m c b L xs) (D : LD g s am ad oa th mc M sig sa z f H locs) (hi : 4 * i + 4 ≤ L) (hc : cells + 3 ≤ 601024) (hs : slots + 27 ≤ 7293034) (hl : lv_has ls 9 (lL (4 * i) b (ad 0) (am 0) oa)) (kk : LK p l e s m below meth c g b am oa (ad 0) (4 * i) cells slots Q) (hx_ : ¬ inR (xs (4 * i + 1)) (sn z)) : W p l e room_1 s m #[Value.ref b] below meth c H locs cells slots Q (F0 m 872 ls []) := by
  obtain ⟨hx, hb, hml, hown, hts, hl0, hX, hbl, hL⟩ := C
  obtain ⟨hIV, hP, hD, hS, hE⟩ := D
  have hV := hIV.1
  have hM := hIV.2.1
  have hR := hIV.2.2.1
  have hK := hIV.K
  have hn := hV.n
  have hbA : ¬ q_n s.heap b := Nat.not_le.mpr hbl
  have hA : ∀ q, s.heap.size ≤ q → q_n s.heap q := fun _ h => h
  refine lv_aload_n hx hb dL_law_872 rfl (lv_at hl 2 rfl) ?_
  refine lv_aload_n hx hb dL_law_873 rfl (lv_at hl 1 rfl) ?_
  refine lv_iload hx hb dL_law_874 (lv_at hl 0 rfl) ?_
  refine lv_iconst (v := nI 1) hx hb dL_law_876 (by decide) ?_
  refine q_iadd (v := nI (4 * i + 1)) hx hb dL_law_877 (nI_add _ _) ?_
  refine q_sld (v := xs (4 * i + 1)) hx hb hX hbl hbA hS (by omega) hL dL_law_878 rfl ?_
  refine lv_aload_n hx hb dL_law_879 rfl (lv_at hl 1 rfl) ?_
  refine lv_iload hx hb dL_law_880 (lv_at hl 0 rfl) ?_
  refine lv_iconst (v := nI 2) hx hb dL_law_882 (by decide) ?_
  refine q_iadd (v := nI (4 * i + 2)) hx hb dL_law_883 (nI_add _ _) ?_
  refine q_sld (v := xs (4 * i + 2)) hx hb hX hbl hbA hS (by omega) hL dL_law_884 rfl ?_
  refine lv_aload_n hx hb dL_law_885 rfl (lv_at hl 4 rfl) ?_
  refine q_wrSW (wr := wMo g am th sa z) (As := [.ref (ad 0), .int (xs (4 * i + 1)), .int (xs (4 * i + 2)), .ref oa]) (rest := []) ⟨hx, hb, hml, hown, hts⟩ (w_L_about_1 hl0 hM hV hx_) (vx_cwSW 4 hts gL_law_L_about rfl rfl rfl (by decide +kernel) ⟨Nat.le_of_ble_eq_true rfl, Nat.le_of_ble_eq_true rfl⟩) hE hP hD hS hA rfl hl.1 rfl (Nat.le_of_ble_eq_true rfl) dL_law_886 ⟨by show _ ≤ 601024; omega, by show _ ≤ 7293034; omega⟩ (fun _u H locs hP hD hS hE => ?_)
  have hP : va_P g.1 vwCl (wMo g am th sa z ++ (oW g oa (f) :: wC g ad mc M sig z)) H := hP
  have hD : va_D (q_n s.heap) (wMo g am th sa z ++ (oW g oa (f) :: wC g ad mc M sig z)) := hD
  refine lv_istore (lv' := [(5, .int (nI 1)), (4, .int (nI (4 * i))), (0, .ref b), (1, .ref (ad 0)), (2, .ref (am 0)), (3, .ref oa)]) hx hb dL_law_889 hl (by decide) rfl (fun ls hl => ?_)
  refine lv_aload_n hx hb dL_law_891 rfl (lv_at hl 4 rfl) ?_
  refine lv_aload_n hx hb dL_law_892 rfl (lv_at hl 2 rfl) ?_
  refine lv_iload hx hb dL_law_893 (lv_at hl 1 rfl) ?_
  refine lv_iconst (v := nI 1) hx hb dL_law_895 (by decide) ?_
  refine q_iadd (v := nI (4 * i + 1)) hx hb dL_law_896 (nI_add _ _) ?_
  refine q_sld (v := xs (4 * i + 1)) hx hb hX hbl hbA hS (by omega) hL dL_law_897 rfl ?_
  refine lv_aload_n hx hb dL_law_898 rfl (lv_at hl 2 rfl) ?_
  refine lv_iload hx hb dL_law_899 (lv_at hl 1 rfl) ?_
  refine lv_iconst (v := nI 2) hx hb dL_law_901 (by decide) ?_
  refine q_iadd (v := nI (4 * i + 2)) hx hb dL_law_902 (nI_add _ _) ?_
  refine q_sld (v := xs (4 * i + 2)) hx hb hX hbl hbA hS (by omega) hL dL_law_903 rfl ?_
  have hr0 := va_recv hE.K hP (ci := 5) (q0 := 0) rfl rfl
  have hP := q_swP hP
  have hD := q_swD hD
  refine q_wrV (wr := (oW g oa (f) :: wC g ad mc M sig z)) (As := [.int (xs (4 * i + 1)), .int (xs (4 * i + 2))]) (rest := []) ⟨hx, hb, hml, hown, hts⟩ (cn_X4_about_1 hV hR hx_) (cwV 2 hts gL_law_X4_about rfl rfl rfl (by decide +kernel) ⟨Nat.le_of_ble_eq_true rfl, Nat.le_of_ble_eq_true rfl⟩) hE hP hD hS hA hr0 rfl hl.1 rfl (Nat.le_of_ble_eq_true rfl) dL_law_904 ⟨by show _ ≤ 601024; omega, by show _ ≤ 7293034; omega⟩ (fun _u H locs hP hD hS hE => ?_)
  have hP : va_P g.1 vwCl (wMo g am (nI 1) sa z ++ (oW g oa (f) :: wC g ad mc M sig z)) H := q_swP hP
  have hD : va_D (q_n s.heap) (wMo g am (nI 1) sa z ++ (oW g oa (f) :: wC g ad mc M sig z)) := q_swD hD
  refine lv_istore (lv' := [(6, .int (nI 0)), (5, .int (nI 1)), (4, .int (nI (4 * i))), (0, .ref b), (1, .ref (ad 0)), (2, .ref (am 0)), (3, .ref oa)]) hx hb dL_law_907 hl (by decide) rfl (fun ls hl => ?_)
  refine lv_aload_n hx hb dL_law_909 rfl (lv_at hl 5 rfl) ?_
  refine q_roV (As := []) (rest := []) ⟨hx, hb, hml, hown, hts⟩ (c_X4_thrown (am := am) (th := nI 1) (sa := sa) (z := z)) (cwV 0 hts gL_law_X4_thrown rfl rfl rfl (by decide +kernel) ⟨Nat.le_of_ble_eq_true rfl, Nat.le_of_ble_eq_true rfl⟩) hE (fun q h => hA q (Nat.le_trans hS.1 h)) (fun k q h => hP k q (q_apL h)) (va_recv hE.K hP (ci := 5) (q0 := 0) rfl rfl) rfl hl.1 rfl (Nat.le_of_ble_eq_true rfl) dL_law_910 ⟨by show _ ≤ 601024; omega, by show _ ≤ 7293034; omega⟩ ?_
  refine lv_iload hx hb dL_law_913 (lv_at hl 1 rfl) ?_
  refine q_icmp_eq (tgt := 920) hx hb (by omega) (by omega) dL_law_915 (by decide) (fun c_1 => ?_) (fun c_1 => ?_)
  · refine lv_iload hx hb dL_law_920 (lv_at hl 1 rfl) ?_
    refine q_if_ne (tgt := 937) hx hb (by omega) dL_law_922 (by decide) (fun c_2 => ?_) (fun c_2 => ?_)
    · refine lv_goto (tgt := 1379) hx hb dL_law_937 (by decide) ?_
      exact W.widen (k := cells + 3) (n := slots + 27) (by omega) (by omega) (kk (ad) (nI 1) (mc) (M) (sig) (sa) (z) (f) H locs _ (rfl) ⟨hIV, hP, hD, hS, hE⟩ (lv_sub hl [2, 3, 4, 5, 6] rfl))
    · exact absurd c_2 (by decide)
  · exact absurd rfl c_1
set_option maxHeartbeats 4000000 in
set_option maxRecDepth 100000 in
theorem lw_c11_2 {p : Program} {l : Launch} {e : Env} {s : State} {m : MethodId} {below : List Frame} {meth : Method} {c : Code} {H : Heap} {locs : List Loc} {Q : State → Prop} {ls : Array Slot} {g : gT} {am ad : Nat → Nat} {oa : Nat} {th mc : Int32} {M : Nat} {sig sa : Nat → Int32} {z : sT} {f : Nat → Int64} {b L i cells slots : Nat} {xs : Nat → Int32} (C : LC p l s m c b L xs) (D : LD g s am ad oa th mc M sig sa z f H locs) (hi : 4 * i + 4 ≤ L) (hc : cells + 3 ≤ 601024) (hs : slots + 27 ≤ 7293034) (hl : lv_has ls 9 (lL (4 * i) b (ad 0) (am 0) oa)) (kk : LK p l e s m below meth c g b am oa (ad 0) (4 * i) cells slots Q) {k : Nat} (hk_ : k < sn z) (hx_ : ¬ inR (xs (4 * i + 2)) (7)) (e1 : xs (4 * i + 1) = nI k) : W p l e room_1 s m #[Value.ref b] below meth c H locs cells slots Q (F0 m 872 ls []) := by
  obtain ⟨hx, hb, hml, hown, hts, hl0, hX, hbl, hL⟩ := C
  obtain ⟨hIV, hP, hD, hS, hE⟩ := D
  have hV := hIV.1
  have hM := hIV.2.1
  have hR := hIV.2.2.1
  have hK := hIV.K
  have hn := hV.n
  have hbA : ¬ q_n s.heap b := Nat.not_le.mpr hbl
  have hA : ∀ q, s.heap.size ≤ q → q_n s.heap q := fun _ h => h
  refine lv_aload_n hx hb dL_law_872 rfl (lv_at hl 2 rfl) ?_
  refine lv_aload_n hx hb dL_law_873 rfl (lv_at hl 1 rfl) ?_
  refine lv_iload hx hb dL_law_874 (lv_at hl 0 rfl) ?_
  refine lv_iconst (v := nI 1) hx hb dL_law_876 (by decide) ?_
  refine q_iadd (v := nI (4 * i + 1)) hx hb dL_law_877 (nI_add _ _) ?_
  refine q_sld (v := nI k) hx hb hX hbl hbA hS (by omega) hL dL_law_878 e1 ?_
  refine lv_aload_n hx hb dL_law_879 rfl (lv_at hl 1 rfl) ?_
  refine lv_iload hx hb dL_law_880 (lv_at hl 0 rfl) ?_
  refine lv_iconst (v := nI 2) hx hb dL_law_882 (by decide) ?_
  refine q_iadd (v := nI (4 * i + 2)) hx hb dL_law_883 (nI_add _ _) ?_
  refine q_sld (v := xs (4 * i + 2)) hx hb hX hbl hbA hS (by omega) hL dL_law_884 rfl ?_
  refine lv_aload_n hx hb dL_law_885 rfl (lv_at hl 4 rfl) ?_
  refine q_wrSW (wr := wMo g am th sa z) (As := [.ref (ad 0), .int (nI k), .int (xs (4 * i + 2)), .ref oa]) (rest := []) ⟨hx, hb, hml, hown, hts⟩ (w_L_about_2 hl0 hM hV hk_ hx_) (vx_cwSW 4 hts gL_law_L_about rfl rfl rfl (by decide +kernel) ⟨Nat.le_of_ble_eq_true rfl, Nat.le_of_ble_eq_true rfl⟩) hE hP hD hS hA rfl hl.1 rfl (Nat.le_of_ble_eq_true rfl) dL_law_886 ⟨by show _ ≤ 601024; omega, by show _ ≤ 7293034; omega⟩ (fun _u H locs hP hD hS hE => ?_)
  have hP : va_P g.1 vwCl (wMo g am th sa z ++ (oW g oa (f) :: wC g ad mc M sig z)) H := hP
  have hD : va_D (q_n s.heap) (wMo g am th sa z ++ (oW g oa (f) :: wC g ad mc M sig z)) := hD
  refine lv_istore (lv' := [(5, .int (nI 1)), (4, .int (nI (4 * i))), (0, .ref b), (1, .ref (ad 0)), (2, .ref (am 0)), (3, .ref oa)]) hx hb dL_law_889 hl (by decide) rfl (fun ls hl => ?_)
  refine lv_aload_n hx hb dL_law_891 rfl (lv_at hl 4 rfl) ?_
  refine lv_aload_n hx hb dL_law_892 rfl (lv_at hl 2 rfl) ?_
  refine lv_iload hx hb dL_law_893 (lv_at hl 1 rfl) ?_
  refine lv_iconst (v := nI 1) hx hb dL_law_895 (by decide) ?_
  refine q_iadd (v := nI (4 * i + 1)) hx hb dL_law_896 (nI_add _ _) ?_
  refine q_sld (v := nI k) hx hb hX hbl hbA hS (by omega) hL dL_law_897 e1 ?_
  refine lv_aload_n hx hb dL_law_898 rfl (lv_at hl 2 rfl) ?_
  refine lv_iload hx hb dL_law_899 (lv_at hl 1 rfl) ?_
  refine lv_iconst (v := nI 2) hx hb dL_law_901 (by decide) ?_
  refine q_iadd (v := nI (4 * i + 2)) hx hb dL_law_902 (nI_add _ _) ?_
  refine q_sld (v := xs (4 * i + 2)) hx hb hX hbl hbA hS (by omega) hL dL_law_903 rfl ?_
  have hr0 := va_recv hE.K hP (ci := 5) (q0 := 0) rfl rfl
  have hP := q_swP hP
  have hD := q_swD hD
  refine q_wrV (wr := (oW g oa (f) :: wC g ad mc M sig z)) (As := [.int (nI k), .int (xs (4 * i + 2))]) (rest := []) ⟨hx, hb, hml, hown, hts⟩ (cn_X4_about_2 hV hR hk_ hx_) (cwV 2 hts gL_law_X4_about rfl rfl rfl (by decide +kernel) ⟨Nat.le_of_ble_eq_true rfl, Nat.le_of_ble_eq_true rfl⟩) hE hP hD hS hA hr0 rfl hl.1 rfl (Nat.le_of_ble_eq_true rfl) dL_law_904 ⟨by show _ ≤ 601024; omega, by show _ ≤ 7293034; omega⟩ (fun _u H locs hP hD hS hE => ?_)
  have hP : va_P g.1 vwCl (wMo g am (nI 1) sa z ++ (oW g oa (f) :: wC g ad mc M sig z)) H := q_swP hP
  have hD : va_D (q_n s.heap) (wMo g am (nI 1) sa z ++ (oW g oa (f) :: wC g ad mc M sig z)) := q_swD hD
  refine lv_istore (lv' := [(6, .int (nI 0)), (5, .int (nI 1)), (4, .int (nI (4 * i))), (0, .ref b), (1, .ref (ad 0)), (2, .ref (am 0)), (3, .ref oa)]) hx hb dL_law_907 hl (by decide) rfl (fun ls hl => ?_)
  refine lv_aload_n hx hb dL_law_909 rfl (lv_at hl 5 rfl) ?_
  refine q_roV (As := []) (rest := []) ⟨hx, hb, hml, hown, hts⟩ (c_X4_thrown (am := am) (th := nI 1) (sa := sa) (z := z)) (cwV 0 hts gL_law_X4_thrown rfl rfl rfl (by decide +kernel) ⟨Nat.le_of_ble_eq_true rfl, Nat.le_of_ble_eq_true rfl⟩) hE (fun q h => hA q (Nat.le_trans hS.1 h)) (fun k q h => hP k q (q_apL h)) (va_recv hE.K hP (ci := 5) (q0 := 0) rfl rfl) rfl hl.1 rfl (Nat.le_of_ble_eq_true rfl) dL_law_910 ⟨by show _ ≤ 601024; omega, by show _ ≤ 7293034; omega⟩ ?_
  refine lv_iload hx hb dL_law_913 (lv_at hl 1 rfl) ?_
  refine q_icmp_eq (tgt := 920) hx hb (by omega) (by omega) dL_law_915 (by decide) (fun c_1 => ?_) (fun c_1 => ?_)
  · refine lv_iload hx hb dL_law_920 (lv_at hl 1 rfl) ?_
    refine q_if_ne (tgt := 937) hx hb (by omega) dL_law_922 (by decide) (fun c_2 => ?_) (fun c_2 => ?_)
    · refine lv_goto (tgt := 1379) hx hb dL_law_937 (by decide) ?_
      exact W.widen (k := cells + 3) (n := slots + 27) (by omega) (by omega) (kk (ad) (nI 1) (mc) (M) (sig) (sa) (z) (f) H locs _ (rfl) ⟨hIV, hP, hD, hS, hE⟩ (lv_sub hl [2, 3, 4, 5, 6] rfl))
    · exact absurd c_2 (by decide)
  · exact absurd rfl c_1
set_option maxHeartbeats 4000000 in
set_option maxRecDepth 100000 in
theorem lw_c12 {p : Program} {l : Launch} {e : Env} {s : State} {m : MethodId} {below : List Frame} {meth : Method} {c : Code} {H : Heap} {locs : List Loc} {Q : State → Prop} {ls : Array Slot} {g : gT} {am ad : Nat → Nat} {oa : Nat} {th mc : Int32} {M : Nat} {sig sa : Nat → Int32} {z : sT} {f : Nat → Int64} {b L i cells slots : Nat} {xs : Nat → Int32} (C : LC p l s m c b L xs) (D : LD g s am ad oa th mc M sig sa z f H locs) (hi : 4 * i + 4 ≤ L) (hc : cells + 3 ≤ 601024) (hs : slots + 27 ≤ 7293034) (hl : lv_has ls 9 (lL (4 * i) b (ad 0) (am 0) oa)) (kk : LK p l e s m below meth c g b am oa (ad 0) (4 * i) cells slots Q) {q_ : Nat} (hq_ : q_ < 7) (e1 : xs (4 * i + 1) = nI q_) : W p l e room_1 s m #[Value.ref b] below meth c H locs cells slots Q (F0 m 940 ls []) := by
  obtain ⟨hx, hb, hml, hown, hts, hl0, hX, hbl, hL⟩ := C
  obtain ⟨hIV, hP, hD, hS, hE⟩ := D
  have hV := hIV.1
  have hM := hIV.2.1
  have hR := hIV.2.2.1
  have hK := hIV.K
  have hn := hV.n
  have hbA : ¬ q_n s.heap b := Nat.not_le.mpr hbl
  have hA : ∀ q, s.heap.size ≤ q → q_n s.heap q := fun _ h => h
  refine lv_aload_n hx hb dL_law_940 rfl (lv_at hl 2 rfl) ?_
  refine lv_aload_n hx hb dL_law_941 rfl (lv_at hl 1 rfl) ?_
  refine lv_iload hx hb dL_law_942 (lv_at hl 0 rfl) ?_
  refine lv_iconst (v := nI 1) hx hb dL_law_944 (by decide) ?_
  refine q_iadd (v := nI (4 * i + 1)) hx hb dL_law_945 (nI_add _ _) ?_
  refine q_sld (v := nI q_) hx hb hX hbl hbA hS (by omega) hL dL_law_946 e1 ?_
  refine lv_aload_n hx hb dL_law_947 rfl (lv_at hl 4 rfl) ?_
  refine q_wrSW (wr := wMo g am th sa z) (As := [.ref (ad 0), .int (nI q_), .ref oa]) (rest := []) ⟨hx, hb, hml, hown, hts⟩ (w_L_count hM hV hq_) (vx_cwSW 3 hts gL_law_L_count rfl rfl rfl (by decide +kernel) ⟨Nat.le_of_ble_eq_true rfl, Nat.le_of_ble_eq_true rfl⟩) hE hP hD hS hA rfl hl.1 rfl (Nat.le_of_ble_eq_true rfl) dL_law_948 ⟨by show _ ≤ 601024; omega, by show _ ≤ 7293034; omega⟩ (fun _u H locs hP hD hS hE => ?_)
  have hP : va_P g.1 vwCl (wMo g am th sa z ++ (oW g oa (vp_updL f 0 (cntV z (atF (sst z) sig) q_).toInt64) :: wC g ad mc M sig z)) H := hP
  have hD : va_D (q_n s.heap) (wMo g am th sa z ++ (oW g oa (vp_updL f 0 (cntV z (atF (sst z) sig) q_).toInt64) :: wC g ad mc M sig z)) := hD
  refine lv_istore (lv' := [(5, .int (nI 0)), (4, .int (nI (4 * i))), (0, .ref b), (1, .ref (ad 0)), (2, .ref (am 0)), (3, .ref oa)]) hx hb dL_law_951 hl (by decide) rfl (fun ls hl => ?_)
  refine lv_aload_n hx hb dL_law_953 rfl (lv_at hl 4 rfl) ?_
  refine lv_aload_n hx hb dL_law_954 rfl (lv_at hl 2 rfl) ?_
  refine lv_iload hx hb dL_law_955 (lv_at hl 1 rfl) ?_
  refine lv_iconst (v := nI 1) hx hb dL_law_957 (by decide) ?_
  refine q_iadd (v := nI (4 * i + 1)) hx hb dL_law_958 (nI_add _ _) ?_
  refine q_sld (v := nI q_) hx hb hX hbl hbA hS (by omega) hL dL_law_959 e1 ?_
  have hr0 := va_recv hE.K hP (ci := 5) (q0 := 0) rfl rfl
  have hP := q_swP hP
  have hD := q_swD hD
  refine q_wrV (wr := (oW g oa (vp_updL f 0 (cntV z (atF (sst z) sig) q_).toInt64) :: wC g ad mc M sig z)) (As := [.int (nI q_)]) (rest := []) ⟨hx, hb, hml, hown, hts⟩ (c_X4_count hV hR hq_) (cwV 1 hts gL_law_X4_count rfl rfl rfl (by decide +kernel) ⟨Nat.le_of_ble_eq_true rfl, Nat.le_of_ble_eq_true rfl⟩) hE hP hD hS hA hr0 rfl hl.1 rfl (Nat.le_of_ble_eq_true rfl) dL_law_960 ⟨by show _ ≤ 601024; omega, by show _ ≤ 7293034; omega⟩ (fun _u H locs hP hD hS hE => ?_)
  have hP : va_P g.1 vwCl (wMo g am (nI 0) sa z ++ (oW g oa (vp_updL f 0 (cntV z (atF (sst z) sig) q_).toInt64) :: wC g ad mc M sig z)) H := q_swP hP
  have hD : va_D (q_n s.heap) (wMo g am (nI 0) sa z ++ (oW g oa (vp_updL f 0 (cntV z (atF (sst z) sig) q_).toInt64) :: wC g ad mc M sig z)) := q_swD hD
  refine lv_istore (lv' := [(6, .int (cntV z (kM z) q_)), (5, .int (nI 0)), (4, .int (nI (4 * i))), (0, .ref b), (1, .ref (ad 0)), (2, .ref (am 0)), (3, .ref oa)]) hx hb dL_law_963 hl (by decide) rfl (fun ls hl => ?_)
  refine lv_aload_n hx hb dL_law_965 rfl (lv_at hl 5 rfl) ?_
  refine q_roV (As := []) (rest := []) ⟨hx, hb, hml, hown, hts⟩ (c_X4_thrown (am := am) (th := nI 0) (sa := sa) (z := z)) (cwV 0 hts gL_law_X4_thrown rfl rfl rfl (by decide +kernel) ⟨Nat.le_of_ble_eq_true rfl, Nat.le_of_ble_eq_true rfl⟩) hE (fun q h => hA q (Nat.le_trans hS.1 h)) (fun k q h => hP k q (q_apL h)) (va_recv hE.K hP (ci := 5) (q0 := 0) rfl rfl) rfl hl.1 rfl (Nat.le_of_ble_eq_true rfl) dL_law_966 ⟨by show _ ≤ 601024; omega, by show _ ≤ 7293034; omega⟩ ?_
  refine lv_iload hx hb dL_law_969 (lv_at hl 1 rfl) ?_
  refine q_icmp_eq (tgt := 976) hx hb (by omega) (by omega) dL_law_971 (by decide) (fun c_1 => ?_) (fun c_1 => ?_)
  · refine lv_iload hx hb dL_law_976 (lv_at hl 1 rfl) ?_
    refine q_if_ne (tgt := 993) hx hb (by omega) dL_law_978 (by decide) (fun c_2 => ?_) (fun c_2 => ?_)
    · exact absurd c_2 (by decide)
    · refine lv_aload_n hx hb dL_law_981 rfl (lv_at hl 6 rfl) ?_
      refine lv_iconst (v := nI 0) hx hb dL_law_982 (by decide) ?_
      refine q_lald (v := (cntV z (kM z) q_).toInt64) (q0 := 7) hx hb hE hP rfl dL_law_983 (show (cntV z (atF (sst z) sig) q_).toInt64 = (cntV z (kM z) q_).toInt64 by rw [hK]) ?_
      refine lv_iload hx hb dL_law_984 (lv_at hl 0 rfl) ?_
      refine lv_i2l (v := (cntV z (kM z) q_).toInt64) hx hb dL_law_986 rfl ?_
      refine q_lcmp hx hb dL_law_987 rfl ?_
      refine q_if_eq (tgt := 993) hx hb (by omega) dL_law_988 (by decide) (fun c_3 => ?_) (fun c_3 => ?_)
      · refine lv_goto (tgt := 1379) hx hb dL_law_993 (by decide) ?_
        exact W.widen (k := cells + 3) (n := slots + 27) (by omega) (by omega) (kk (ad) (nI 0) (mc) (M) (sig) (sa) (z) (vp_updL f 0 (cntV z (atF (sst z) sig) q_).toInt64) H locs _ (rfl) ⟨hIV, hP, hD, hS, hE⟩ (lv_sub hl [2, 3, 4, 5, 6] rfl))
      · exact absurd c_3 (by omega)
  · exact absurd rfl c_1
set_option maxHeartbeats 4000000 in
set_option maxRecDepth 100000 in
theorem lw_c12_1 {p : Program} {l : Launch} {e : Env} {s : State} {m : MethodId} {below : List Frame} {meth : Method} {c : Code} {H : Heap} {locs : List Loc} {Q : State → Prop} {ls : Array Slot} {g : gT} {am ad : Nat → Nat} {oa : Nat} {th mc : Int32} {M : Nat} {sig sa : Nat → Int32} {z : sT} {f : Nat → Int64} {b L i cells slots : Nat} {xs : Nat → Int32} (C : LC p l s m c b L xs) (D : LD g s am ad oa th mc M sig sa z f H locs) (hi : 4 * i + 4 ≤ L) (hc : cells + 3 ≤ 601024) (hs : slots + 27 ≤ 7293034) (hl : lv_has ls 9 (lL (4 * i) b (ad 0) (am 0) oa)) (kk : LK p l e s m below meth c g b am oa (ad 0) (4 * i) cells slots Q) (hx_ : ¬ inR (xs (4 * i + 1)) (7)) : W p l e room_1 s m #[Value.ref b] below meth c H locs cells slots Q (F0 m 940 ls []) := by
  obtain ⟨hx, hb, hml, hown, hts, hl0, hX, hbl, hL⟩ := C
  obtain ⟨hIV, hP, hD, hS, hE⟩ := D
  have hV := hIV.1
  have hM := hIV.2.1
  have hR := hIV.2.2.1
  have hK := hIV.K
  have hn := hV.n
  have hbA : ¬ q_n s.heap b := Nat.not_le.mpr hbl
  have hA : ∀ q, s.heap.size ≤ q → q_n s.heap q := fun _ h => h
  refine lv_aload_n hx hb dL_law_940 rfl (lv_at hl 2 rfl) ?_
  refine lv_aload_n hx hb dL_law_941 rfl (lv_at hl 1 rfl) ?_
  refine lv_iload hx hb dL_law_942 (lv_at hl 0 rfl) ?_
  refine lv_iconst (v := nI 1) hx hb dL_law_944 (by decide) ?_
  refine q_iadd (v := nI (4 * i + 1)) hx hb dL_law_945 (nI_add _ _) ?_
  refine q_sld (v := xs (4 * i + 1)) hx hb hX hbl hbA hS (by omega) hL dL_law_946 rfl ?_
  refine lv_aload_n hx hb dL_law_947 rfl (lv_at hl 4 rfl) ?_
  refine q_wrSW (wr := wMo g am th sa z) (As := [.ref (ad 0), .int (xs (4 * i + 1)), .ref oa]) (rest := []) ⟨hx, hb, hml, hown, hts⟩ (w_L_count_1 hl0 hM hV hx_) (vx_cwSW 3 hts gL_law_L_count rfl rfl rfl (by decide +kernel) ⟨Nat.le_of_ble_eq_true rfl, Nat.le_of_ble_eq_true rfl⟩) hE hP hD hS hA rfl hl.1 rfl (Nat.le_of_ble_eq_true rfl) dL_law_948 ⟨by show _ ≤ 601024; omega, by show _ ≤ 7293034; omega⟩ (fun _u H locs hP hD hS hE => ?_)
  have hP : va_P g.1 vwCl (wMo g am th sa z ++ (oW g oa (f) :: wC g ad mc M sig z)) H := hP
  have hD : va_D (q_n s.heap) (wMo g am th sa z ++ (oW g oa (f) :: wC g ad mc M sig z)) := hD
  refine lv_istore (lv' := [(5, .int (nI 1)), (4, .int (nI (4 * i))), (0, .ref b), (1, .ref (ad 0)), (2, .ref (am 0)), (3, .ref oa)]) hx hb dL_law_951 hl (by decide) rfl (fun ls hl => ?_)
  refine lv_aload_n hx hb dL_law_953 rfl (lv_at hl 4 rfl) ?_
  refine lv_aload_n hx hb dL_law_954 rfl (lv_at hl 2 rfl) ?_
  refine lv_iload hx hb dL_law_955 (lv_at hl 1 rfl) ?_
  refine lv_iconst (v := nI 1) hx hb dL_law_957 (by decide) ?_
  refine q_iadd (v := nI (4 * i + 1)) hx hb dL_law_958 (nI_add _ _) ?_
  refine q_sld (v := xs (4 * i + 1)) hx hb hX hbl hbA hS (by omega) hL dL_law_959 rfl ?_
  have hr0 := va_recv hE.K hP (ci := 5) (q0 := 0) rfl rfl
  have hP := q_swP hP
  have hD := q_swD hD
  refine q_wrV (wr := (oW g oa (f) :: wC g ad mc M sig z)) (As := [.int (xs (4 * i + 1))]) (rest := []) ⟨hx, hb, hml, hown, hts⟩ (cn_X4_count_1 hV hR hx_) (cwV 1 hts gL_law_X4_count rfl rfl rfl (by decide +kernel) ⟨Nat.le_of_ble_eq_true rfl, Nat.le_of_ble_eq_true rfl⟩) hE hP hD hS hA hr0 rfl hl.1 rfl (Nat.le_of_ble_eq_true rfl) dL_law_960 ⟨by show _ ≤ 601024; omega, by show _ ≤ 7293034; omega⟩ (fun _u H locs hP hD hS hE => ?_)
  have hP : va_P g.1 vwCl (wMo g am (nI 1) sa z ++ (oW g oa (f) :: wC g ad mc M sig z)) H := q_swP hP
  have hD : va_D (q_n s.heap) (wMo g am (nI 1) sa z ++ (oW g oa (f) :: wC g ad mc M sig z)) := q_swD hD
  refine lv_istore (lv' := [(6, .int (nI 0)), (5, .int (nI 1)), (4, .int (nI (4 * i))), (0, .ref b), (1, .ref (ad 0)), (2, .ref (am 0)), (3, .ref oa)]) hx hb dL_law_963 hl (by decide) rfl (fun ls hl => ?_)
  refine lv_aload_n hx hb dL_law_965 rfl (lv_at hl 5 rfl) ?_
  refine q_roV (As := []) (rest := []) ⟨hx, hb, hml, hown, hts⟩ (c_X4_thrown (am := am) (th := nI 1) (sa := sa) (z := z)) (cwV 0 hts gL_law_X4_thrown rfl rfl rfl (by decide +kernel) ⟨Nat.le_of_ble_eq_true rfl, Nat.le_of_ble_eq_true rfl⟩) hE (fun q h => hA q (Nat.le_trans hS.1 h)) (fun k q h => hP k q (q_apL h)) (va_recv hE.K hP (ci := 5) (q0 := 0) rfl rfl) rfl hl.1 rfl (Nat.le_of_ble_eq_true rfl) dL_law_966 ⟨by show _ ≤ 601024; omega, by show _ ≤ 7293034; omega⟩ ?_
  refine lv_iload hx hb dL_law_969 (lv_at hl 1 rfl) ?_
  refine q_icmp_eq (tgt := 976) hx hb (by omega) (by omega) dL_law_971 (by decide) (fun c_1 => ?_) (fun c_1 => ?_)
  · refine lv_iload hx hb dL_law_976 (lv_at hl 1 rfl) ?_
    refine q_if_ne (tgt := 993) hx hb (by omega) dL_law_978 (by decide) (fun c_2 => ?_) (fun c_2 => ?_)
    · refine lv_goto (tgt := 1379) hx hb dL_law_993 (by decide) ?_
      exact W.widen (k := cells + 3) (n := slots + 27) (by omega) (by omega) (kk (ad) (nI 1) (mc) (M) (sig) (sa) (z) (f) H locs _ (rfl) ⟨hIV, hP, hD, hS, hE⟩ (lv_sub hl [2, 3, 4, 5, 6] rfl))
    · exact absurd c_2 (by decide)
  · exact absurd rfl c_1
set_option maxHeartbeats 4000000 in
set_option maxRecDepth 100000 in
theorem lw_c13 {p : Program} {l : Launch} {e : Env} {s : State} {m : MethodId} {below : List Frame} {meth : Method} {c : Code} {H : Heap} {locs : List Loc} {Q : State → Prop} {ls : Array Slot} {g : gT} {am ad : Nat → Nat} {oa : Nat} {th mc : Int32} {M : Nat} {sig sa : Nat → Int32} {z : sT} {f : Nat → Int64} {b L i cells slots : Nat} {xs : Nat → Int32} (C : LC p l s m c b L xs) (D : LD g s am ad oa th mc M sig sa z f H locs) (hi : 4 * i + 4 ≤ L) (hc : cells + 3 ≤ 601024) (hs : slots + 27 ≤ 7293034) (hl : lv_has ls 9 (lL (4 * i) b (ad 0) (am 0) oa)) (kk : LK p l e s m below meth c g b am oa (ad 0) (4 * i) cells slots Q) {a b_ s_ : Nat} (ha_ : a < sL z) (hb_ : b_ < sL z) (hs_ : s_ < sL z) (e1 : xs (4 * i + 1) = nI a) (e2 : xs (4 * i + 2) = nI b_) (e3 : xs (4 * i + 3) = nI s_) : W p l e room_1 s m #[Value.ref b] below meth c H locs cells slots Q (F0 m 996 ls []) := by
  obtain ⟨hx, hb, hml, hown, hts, hl0, hX, hbl, hL⟩ := C
  obtain ⟨hIV, hP, hD, hS, hE⟩ := D
  have hV := hIV.1
  have hM := hIV.2.1
  have hR := hIV.2.2.1
  have hK := hIV.K
  have hn := hV.n
  have hbA : ¬ q_n s.heap b := Nat.not_le.mpr hbl
  have hA : ∀ q, s.heap.size ≤ q → q_n s.heap q := fun _ h => h
  refine lv_aload_n hx hb dL_law_996 rfl (lv_at hl 2 rfl) ?_
  refine lv_aload_n hx hb dL_law_997 rfl (lv_at hl 1 rfl) ?_
  refine lv_iload hx hb dL_law_998 (lv_at hl 0 rfl) ?_
  refine lv_iconst (v := nI 1) hx hb dL_law_1000 (by decide) ?_
  refine q_iadd (v := nI (4 * i + 1)) hx hb dL_law_1001 (nI_add _ _) ?_
  refine q_sld (v := nI a) hx hb hX hbl hbA hS (by omega) hL dL_law_1002 e1 ?_
  refine lv_aload_n hx hb dL_law_1003 rfl (lv_at hl 1 rfl) ?_
  refine lv_iload hx hb dL_law_1004 (lv_at hl 0 rfl) ?_
  refine lv_iconst (v := nI 2) hx hb dL_law_1006 (by decide) ?_
  refine q_iadd (v := nI (4 * i + 2)) hx hb dL_law_1007 (nI_add _ _) ?_
  refine q_sld (v := nI b_) hx hb hX hbl hbA hS (by omega) hL dL_law_1008 e2 ?_
  refine lv_aload_n hx hb dL_law_1009 rfl (lv_at hl 1 rfl) ?_
  refine lv_iload hx hb dL_law_1010 (lv_at hl 0 rfl) ?_
  refine lv_iconst (v := nI 3) hx hb dL_law_1012 (by decide) ?_
  refine q_iadd (v := nI (4 * i + 3)) hx hb dL_law_1013 (nI_add _ _) ?_
  refine q_sld (v := nI s_) hx hb hX hbl hbA hS (by omega) hL dL_law_1014 e3 ?_
  refine lv_aload_n hx hb dL_law_1015 rfl (lv_at hl 4 rfl) ?_
  refine q_wrSW (wr := wMo g am th sa z) (As := [.ref (ad 0), .int (nI a), .int (nI b_), .int (nI s_), .ref oa]) (rest := []) ⟨hx, hb, hml, hown, hts⟩ (w_L_alike hM hV ha_ hb_ hs_) (vx_cwSW 5 hts gL_law_L_alike rfl rfl rfl (by decide +kernel) ⟨Nat.le_of_ble_eq_true rfl, Nat.le_of_ble_eq_true rfl⟩) hE hP hD hS hA rfl hl.1 rfl (Nat.le_of_ble_eq_true rfl) dL_law_1016 ⟨by show _ ≤ 601024; omega, by show _ ≤ 7293034; omega⟩ (fun _u H locs hP hD hS hE => ?_)
  have hP : va_P g.1 vwCl (wMo g am th sa z ++ (oW g oa (vp_updL f 0 (likF (sL z) a b_ s_).toInt64) :: wC g ad mc M sig z)) H := hP
  have hD : va_D (q_n s.heap) (wMo g am th sa z ++ (oW g oa (vp_updL f 0 (likF (sL z) a b_ s_).toInt64) :: wC g ad mc M sig z)) := hD
  refine lv_istore (lv' := [(5, .int (nI 0)), (4, .int (nI (4 * i))), (0, .ref b), (1, .ref (ad 0)), (2, .ref (am 0)), (3, .ref oa)]) hx hb dL_law_1019 hl (by decide) rfl (fun ls hl => ?_)
  refine lv_aload_n hx hb dL_law_1021 rfl (lv_at hl 4 rfl) ?_
  refine lv_aload_n hx hb dL_law_1022 rfl (lv_at hl 2 rfl) ?_
  refine lv_iload hx hb dL_law_1023 (lv_at hl 1 rfl) ?_
  refine lv_iconst (v := nI 1) hx hb dL_law_1025 (by decide) ?_
  refine q_iadd (v := nI (4 * i + 1)) hx hb dL_law_1026 (nI_add _ _) ?_
  refine q_sld (v := nI a) hx hb hX hbl hbA hS (by omega) hL dL_law_1027 e1 ?_
  refine lv_aload_n hx hb dL_law_1028 rfl (lv_at hl 2 rfl) ?_
  refine lv_iload hx hb dL_law_1029 (lv_at hl 1 rfl) ?_
  refine lv_iconst (v := nI 2) hx hb dL_law_1031 (by decide) ?_
  refine q_iadd (v := nI (4 * i + 2)) hx hb dL_law_1032 (nI_add _ _) ?_
  refine q_sld (v := nI b_) hx hb hX hbl hbA hS (by omega) hL dL_law_1033 e2 ?_
  refine lv_aload_n hx hb dL_law_1034 rfl (lv_at hl 2 rfl) ?_
  refine lv_iload hx hb dL_law_1035 (lv_at hl 1 rfl) ?_
  refine lv_iconst (v := nI 3) hx hb dL_law_1037 (by decide) ?_
  refine q_iadd (v := nI (4 * i + 3)) hx hb dL_law_1038 (nI_add _ _) ?_
  refine q_sld (v := nI s_) hx hb hX hbl hbA hS (by omega) hL dL_law_1039 e3 ?_
  have hr0 := va_recv hE.K hP (ci := 5) (q0 := 0) rfl rfl
  have hP := q_swP hP
  have hD := q_swD hD
  refine q_wrV (wr := (oW g oa (vp_updL f 0 (likF (sL z) a b_ s_).toInt64) :: wC g ad mc M sig z)) (As := [.int (nI a), .int (nI b_), .int (nI s_)]) (rest := []) ⟨hx, hb, hml, hown, hts⟩ (c_X4_alike hV hR ha_ hb_ hs_) (cwV 3 hts gL_law_X4_alike rfl rfl rfl (by decide +kernel) ⟨Nat.le_of_ble_eq_true rfl, Nat.le_of_ble_eq_true rfl⟩) hE hP hD hS hA hr0 rfl hl.1 rfl (Nat.le_of_ble_eq_true rfl) dL_law_1040 ⟨by show _ ≤ 601024; omega, by show _ ≤ 7293034; omega⟩ (fun _u H locs hP hD hS hE => ?_)
  have hP : va_P g.1 vwCl (wMo g am (nI 0) sa z ++ (oW g oa (vp_updL f 0 (likF (sL z) a b_ s_).toInt64) :: wC g ad mc M sig z)) H := q_swP hP
  have hD : va_D (q_n s.heap) (wMo g am (nI 0) sa z ++ (oW g oa (vp_updL f 0 (likF (sL z) a b_ s_).toInt64) :: wC g ad mc M sig z)) := q_swD hD
  refine lv_istore (lv' := [(6, .int (likF (sL z) a b_ s_)), (5, .int (nI 0)), (4, .int (nI (4 * i))), (0, .ref b), (1, .ref (ad 0)), (2, .ref (am 0)), (3, .ref oa)]) hx hb dL_law_1043 hl (by decide) rfl (fun ls hl => ?_)
  refine lv_aload_n hx hb dL_law_1045 rfl (lv_at hl 5 rfl) ?_
  refine q_roV (As := []) (rest := []) ⟨hx, hb, hml, hown, hts⟩ (c_X4_thrown (am := am) (th := nI 0) (sa := sa) (z := z)) (cwV 0 hts gL_law_X4_thrown rfl rfl rfl (by decide +kernel) ⟨Nat.le_of_ble_eq_true rfl, Nat.le_of_ble_eq_true rfl⟩) hE (fun q h => hA q (Nat.le_trans hS.1 h)) (fun k q h => hP k q (q_apL h)) (va_recv hE.K hP (ci := 5) (q0 := 0) rfl rfl) rfl hl.1 rfl (Nat.le_of_ble_eq_true rfl) dL_law_1046 ⟨by show _ ≤ 601024; omega, by show _ ≤ 7293034; omega⟩ ?_
  refine lv_iload hx hb dL_law_1049 (lv_at hl 1 rfl) ?_
  refine q_icmp_eq (tgt := 1056) hx hb (by omega) (by omega) dL_law_1051 (by decide) (fun c_1 => ?_) (fun c_1 => ?_)
  · refine lv_iload hx hb dL_law_1056 (lv_at hl 1 rfl) ?_
    refine q_if_ne (tgt := 1073) hx hb (by omega) dL_law_1058 (by decide) (fun c_2 => ?_) (fun c_2 => ?_)
    · exact absurd c_2 (by decide)
    · refine lv_aload_n hx hb dL_law_1061 rfl (lv_at hl 6 rfl) ?_
      refine lv_iconst (v := nI 0) hx hb dL_law_1062 (by decide) ?_
      refine q_lald (v := (likF (sL z) a b_ s_).toInt64) (q0 := 7) hx hb hE hP rfl dL_law_1063 (rfl) ?_
      refine lv_iload hx hb dL_law_1064 (lv_at hl 0 rfl) ?_
      refine lv_i2l (v := (likF (sL z) a b_ s_).toInt64) hx hb dL_law_1066 rfl ?_
      refine q_lcmp hx hb dL_law_1067 rfl ?_
      refine q_if_eq (tgt := 1073) hx hb (by omega) dL_law_1068 (by decide) (fun c_3 => ?_) (fun c_3 => ?_)
      · refine lv_goto (tgt := 1379) hx hb dL_law_1073 (by decide) ?_
        exact W.widen (k := cells + 3) (n := slots + 27) (by omega) (by omega) (kk (ad) (nI 0) (mc) (M) (sig) (sa) (z) (vp_updL f 0 (likF (sL z) a b_ s_).toInt64) H locs _ (rfl) ⟨hIV, hP, hD, hS, hE⟩ (lv_sub hl [2, 3, 4, 5, 6] rfl))
      · exact absurd c_3 (by omega)
  · exact absurd rfl c_1
set_option maxHeartbeats 4000000 in
set_option maxRecDepth 100000 in
theorem lw_c13_1 {p : Program} {l : Launch} {e : Env} {s : State} {m : MethodId} {below : List Frame} {meth : Method} {c : Code} {H : Heap} {locs : List Loc} {Q : State → Prop} {ls : Array Slot} {g : gT} {am ad : Nat → Nat} {oa : Nat} {th mc : Int32} {M : Nat} {sig sa : Nat → Int32} {z : sT} {f : Nat → Int64} {b L i cells slots : Nat} {xs : Nat → Int32} (C : LC p l s m c b L xs) (D : LD g s am ad oa th mc M sig sa z f H locs) (hi : 4 * i + 4 ≤ L) (hc : cells + 3 ≤ 601024) (hs : slots + 27 ≤ 7293034) (hl : lv_has ls 9 (lL (4 * i) b (ad 0) (am 0) oa)) (kk : LK p l e s m below meth c g b am oa (ad 0) (4 * i) cells slots Q) (hx_ : ¬ inR (xs (4 * i + 1)) (sL z)) : W p l e room_1 s m #[Value.ref b] below meth c H locs cells slots Q (F0 m 996 ls []) := by
  obtain ⟨hx, hb, hml, hown, hts, hl0, hX, hbl, hL⟩ := C
  obtain ⟨hIV, hP, hD, hS, hE⟩ := D
  have hV := hIV.1
  have hM := hIV.2.1
  have hR := hIV.2.2.1
  have hK := hIV.K
  have hn := hV.n
  have hbA : ¬ q_n s.heap b := Nat.not_le.mpr hbl
  have hA : ∀ q, s.heap.size ≤ q → q_n s.heap q := fun _ h => h
  refine lv_aload_n hx hb dL_law_996 rfl (lv_at hl 2 rfl) ?_
  refine lv_aload_n hx hb dL_law_997 rfl (lv_at hl 1 rfl) ?_
  refine lv_iload hx hb dL_law_998 (lv_at hl 0 rfl) ?_
  refine lv_iconst (v := nI 1) hx hb dL_law_1000 (by decide) ?_
  refine q_iadd (v := nI (4 * i + 1)) hx hb dL_law_1001 (nI_add _ _) ?_
  refine q_sld (v := xs (4 * i + 1)) hx hb hX hbl hbA hS (by omega) hL dL_law_1002 rfl ?_
  refine lv_aload_n hx hb dL_law_1003 rfl (lv_at hl 1 rfl) ?_
  refine lv_iload hx hb dL_law_1004 (lv_at hl 0 rfl) ?_
  refine lv_iconst (v := nI 2) hx hb dL_law_1006 (by decide) ?_
  refine q_iadd (v := nI (4 * i + 2)) hx hb dL_law_1007 (nI_add _ _) ?_
  refine q_sld (v := xs (4 * i + 2)) hx hb hX hbl hbA hS (by omega) hL dL_law_1008 rfl ?_
  refine lv_aload_n hx hb dL_law_1009 rfl (lv_at hl 1 rfl) ?_
  refine lv_iload hx hb dL_law_1010 (lv_at hl 0 rfl) ?_
  refine lv_iconst (v := nI 3) hx hb dL_law_1012 (by decide) ?_
  refine q_iadd (v := nI (4 * i + 3)) hx hb dL_law_1013 (nI_add _ _) ?_
  refine q_sld (v := xs (4 * i + 3)) hx hb hX hbl hbA hS (by omega) hL dL_law_1014 rfl ?_
  refine lv_aload_n hx hb dL_law_1015 rfl (lv_at hl 4 rfl) ?_
  refine q_wrSW (wr := wMo g am th sa z) (As := [.ref (ad 0), .int (xs (4 * i + 1)), .int (xs (4 * i + 2)), .int (xs (4 * i + 3)), .ref oa]) (rest := []) ⟨hx, hb, hml, hown, hts⟩ (w_L_alike_1 hl0 hM hV hx_) (vx_cwSW 5 hts gL_law_L_alike rfl rfl rfl (by decide +kernel) ⟨Nat.le_of_ble_eq_true rfl, Nat.le_of_ble_eq_true rfl⟩) hE hP hD hS hA rfl hl.1 rfl (Nat.le_of_ble_eq_true rfl) dL_law_1016 ⟨by show _ ≤ 601024; omega, by show _ ≤ 7293034; omega⟩ (fun _u H locs hP hD hS hE => ?_)
  have hP : va_P g.1 vwCl (wMo g am th sa z ++ (oW g oa (f) :: wC g ad mc M sig z)) H := hP
  have hD : va_D (q_n s.heap) (wMo g am th sa z ++ (oW g oa (f) :: wC g ad mc M sig z)) := hD
  refine lv_istore (lv' := [(5, .int (nI 1)), (4, .int (nI (4 * i))), (0, .ref b), (1, .ref (ad 0)), (2, .ref (am 0)), (3, .ref oa)]) hx hb dL_law_1019 hl (by decide) rfl (fun ls hl => ?_)
  refine lv_aload_n hx hb dL_law_1021 rfl (lv_at hl 4 rfl) ?_
  refine lv_aload_n hx hb dL_law_1022 rfl (lv_at hl 2 rfl) ?_
  refine lv_iload hx hb dL_law_1023 (lv_at hl 1 rfl) ?_
  refine lv_iconst (v := nI 1) hx hb dL_law_1025 (by decide) ?_
  refine q_iadd (v := nI (4 * i + 1)) hx hb dL_law_1026 (nI_add _ _) ?_
  refine q_sld (v := xs (4 * i + 1)) hx hb hX hbl hbA hS (by omega) hL dL_law_1027 rfl ?_
  refine lv_aload_n hx hb dL_law_1028 rfl (lv_at hl 2 rfl) ?_
  refine lv_iload hx hb dL_law_1029 (lv_at hl 1 rfl) ?_
  refine lv_iconst (v := nI 2) hx hb dL_law_1031 (by decide) ?_
  refine q_iadd (v := nI (4 * i + 2)) hx hb dL_law_1032 (nI_add _ _) ?_
  refine q_sld (v := xs (4 * i + 2)) hx hb hX hbl hbA hS (by omega) hL dL_law_1033 rfl ?_
  refine lv_aload_n hx hb dL_law_1034 rfl (lv_at hl 2 rfl) ?_
  refine lv_iload hx hb dL_law_1035 (lv_at hl 1 rfl) ?_
  refine lv_iconst (v := nI 3) hx hb dL_law_1037 (by decide) ?_
  refine q_iadd (v := nI (4 * i + 3)) hx hb dL_law_1038 (nI_add _ _) ?_
  refine q_sld (v := xs (4 * i + 3)) hx hb hX hbl hbA hS (by omega) hL dL_law_1039 rfl ?_
  have hr0 := va_recv hE.K hP (ci := 5) (q0 := 0) rfl rfl
  have hP := q_swP hP
  have hD := q_swD hD
  refine q_wrV (wr := (oW g oa (f) :: wC g ad mc M sig z)) (As := [.int (xs (4 * i + 1)), .int (xs (4 * i + 2)), .int (xs (4 * i + 3))]) (rest := []) ⟨hx, hb, hml, hown, hts⟩ (cn_X4_alike_1 hV hR hx_) (cwV 3 hts gL_law_X4_alike rfl rfl rfl (by decide +kernel) ⟨Nat.le_of_ble_eq_true rfl, Nat.le_of_ble_eq_true rfl⟩) hE hP hD hS hA hr0 rfl hl.1 rfl (Nat.le_of_ble_eq_true rfl) dL_law_1040 ⟨by show _ ≤ 601024; omega, by show _ ≤ 7293034; omega⟩ (fun _u H locs hP hD hS hE => ?_)
  have hP : va_P g.1 vwCl (wMo g am (nI 1) sa z ++ (oW g oa (f) :: wC g ad mc M sig z)) H := q_swP hP
  have hD : va_D (q_n s.heap) (wMo g am (nI 1) sa z ++ (oW g oa (f) :: wC g ad mc M sig z)) := q_swD hD
  refine lv_istore (lv' := [(6, .int (nI 0)), (5, .int (nI 1)), (4, .int (nI (4 * i))), (0, .ref b), (1, .ref (ad 0)), (2, .ref (am 0)), (3, .ref oa)]) hx hb dL_law_1043 hl (by decide) rfl (fun ls hl => ?_)
  refine lv_aload_n hx hb dL_law_1045 rfl (lv_at hl 5 rfl) ?_
  refine q_roV (As := []) (rest := []) ⟨hx, hb, hml, hown, hts⟩ (c_X4_thrown (am := am) (th := nI 1) (sa := sa) (z := z)) (cwV 0 hts gL_law_X4_thrown rfl rfl rfl (by decide +kernel) ⟨Nat.le_of_ble_eq_true rfl, Nat.le_of_ble_eq_true rfl⟩) hE (fun q h => hA q (Nat.le_trans hS.1 h)) (fun k q h => hP k q (q_apL h)) (va_recv hE.K hP (ci := 5) (q0 := 0) rfl rfl) rfl hl.1 rfl (Nat.le_of_ble_eq_true rfl) dL_law_1046 ⟨by show _ ≤ 601024; omega, by show _ ≤ 7293034; omega⟩ ?_
  refine lv_iload hx hb dL_law_1049 (lv_at hl 1 rfl) ?_
  refine q_icmp_eq (tgt := 1056) hx hb (by omega) (by omega) dL_law_1051 (by decide) (fun c_1 => ?_) (fun c_1 => ?_)
  · refine lv_iload hx hb dL_law_1056 (lv_at hl 1 rfl) ?_
    refine q_if_ne (tgt := 1073) hx hb (by omega) dL_law_1058 (by decide) (fun c_2 => ?_) (fun c_2 => ?_)
    · refine lv_goto (tgt := 1379) hx hb dL_law_1073 (by decide) ?_
      exact W.widen (k := cells + 3) (n := slots + 27) (by omega) (by omega) (kk (ad) (nI 1) (mc) (M) (sig) (sa) (z) (f) H locs _ (rfl) ⟨hIV, hP, hD, hS, hE⟩ (lv_sub hl [2, 3, 4, 5, 6] rfl))
    · exact absurd c_2 (by decide)
  · exact absurd rfl c_1
set_option maxHeartbeats 4000000 in
set_option maxRecDepth 100000 in
theorem lw_c13_2 {p : Program} {l : Launch} {e : Env} {s : State} {m : MethodId} {below : List Frame} {meth : Method} {c : Code} {H : Heap} {locs : List Loc} {Q : State → Prop} {ls : Array Slot} {g : gT} {am ad : Nat → Nat} {oa : Nat} {th mc : Int32} {M : Nat} {sig sa : Nat → Int32} {z : sT} {f : Nat → Int64} {b L i cells slots : Nat} {xs : Nat → Int32} (C : LC p l s m c b L xs) (D : LD g s am ad oa th mc M sig sa z f H locs) (hi : 4 * i + 4 ≤ L) (hc : cells + 3 ≤ 601024) (hs : slots + 27 ≤ 7293034) (hl : lv_has ls 9 (lL (4 * i) b (ad 0) (am 0) oa)) (kk : LK p l e s m below meth c g b am oa (ad 0) (4 * i) cells slots Q) {a : Nat} (ha_ : a < sL z) (hx_ : ¬ inR (xs (4 * i + 2)) (sL z)) (e1 : xs (4 * i + 1) = nI a) : W p l e room_1 s m #[Value.ref b] below meth c H locs cells slots Q (F0 m 996 ls []) := by
  obtain ⟨hx, hb, hml, hown, hts, hl0, hX, hbl, hL⟩ := C
  obtain ⟨hIV, hP, hD, hS, hE⟩ := D
  have hV := hIV.1
  have hM := hIV.2.1
  have hR := hIV.2.2.1
  have hK := hIV.K
  have hn := hV.n
  have hbA : ¬ q_n s.heap b := Nat.not_le.mpr hbl
  have hA : ∀ q, s.heap.size ≤ q → q_n s.heap q := fun _ h => h
  refine lv_aload_n hx hb dL_law_996 rfl (lv_at hl 2 rfl) ?_
  refine lv_aload_n hx hb dL_law_997 rfl (lv_at hl 1 rfl) ?_
  refine lv_iload hx hb dL_law_998 (lv_at hl 0 rfl) ?_
  refine lv_iconst (v := nI 1) hx hb dL_law_1000 (by decide) ?_
  refine q_iadd (v := nI (4 * i + 1)) hx hb dL_law_1001 (nI_add _ _) ?_
  refine q_sld (v := nI a) hx hb hX hbl hbA hS (by omega) hL dL_law_1002 e1 ?_
  refine lv_aload_n hx hb dL_law_1003 rfl (lv_at hl 1 rfl) ?_
  refine lv_iload hx hb dL_law_1004 (lv_at hl 0 rfl) ?_
  refine lv_iconst (v := nI 2) hx hb dL_law_1006 (by decide) ?_
  refine q_iadd (v := nI (4 * i + 2)) hx hb dL_law_1007 (nI_add _ _) ?_
  refine q_sld (v := xs (4 * i + 2)) hx hb hX hbl hbA hS (by omega) hL dL_law_1008 rfl ?_
  refine lv_aload_n hx hb dL_law_1009 rfl (lv_at hl 1 rfl) ?_
  refine lv_iload hx hb dL_law_1010 (lv_at hl 0 rfl) ?_
  refine lv_iconst (v := nI 3) hx hb dL_law_1012 (by decide) ?_
  refine q_iadd (v := nI (4 * i + 3)) hx hb dL_law_1013 (nI_add _ _) ?_
  refine q_sld (v := xs (4 * i + 3)) hx hb hX hbl hbA hS (by omega) hL dL_law_1014 rfl ?_
  refine lv_aload_n hx hb dL_law_1015 rfl (lv_at hl 4 rfl) ?_
  refine q_wrSW (wr := wMo g am th sa z) (As := [.ref (ad 0), .int (nI a), .int (xs (4 * i + 2)), .int (xs (4 * i + 3)), .ref oa]) (rest := []) ⟨hx, hb, hml, hown, hts⟩ (w_L_alike_2 hl0 hM hV ha_ hx_) (vx_cwSW 5 hts gL_law_L_alike rfl rfl rfl (by decide +kernel) ⟨Nat.le_of_ble_eq_true rfl, Nat.le_of_ble_eq_true rfl⟩) hE hP hD hS hA rfl hl.1 rfl (Nat.le_of_ble_eq_true rfl) dL_law_1016 ⟨by show _ ≤ 601024; omega, by show _ ≤ 7293034; omega⟩ (fun _u H locs hP hD hS hE => ?_)
  have hP : va_P g.1 vwCl (wMo g am th sa z ++ (oW g oa (f) :: wC g ad mc M sig z)) H := hP
  have hD : va_D (q_n s.heap) (wMo g am th sa z ++ (oW g oa (f) :: wC g ad mc M sig z)) := hD
  refine lv_istore (lv' := [(5, .int (nI 1)), (4, .int (nI (4 * i))), (0, .ref b), (1, .ref (ad 0)), (2, .ref (am 0)), (3, .ref oa)]) hx hb dL_law_1019 hl (by decide) rfl (fun ls hl => ?_)
  refine lv_aload_n hx hb dL_law_1021 rfl (lv_at hl 4 rfl) ?_
  refine lv_aload_n hx hb dL_law_1022 rfl (lv_at hl 2 rfl) ?_
  refine lv_iload hx hb dL_law_1023 (lv_at hl 1 rfl) ?_
  refine lv_iconst (v := nI 1) hx hb dL_law_1025 (by decide) ?_
  refine q_iadd (v := nI (4 * i + 1)) hx hb dL_law_1026 (nI_add _ _) ?_
  refine q_sld (v := nI a) hx hb hX hbl hbA hS (by omega) hL dL_law_1027 e1 ?_
  refine lv_aload_n hx hb dL_law_1028 rfl (lv_at hl 2 rfl) ?_
  refine lv_iload hx hb dL_law_1029 (lv_at hl 1 rfl) ?_
  refine lv_iconst (v := nI 2) hx hb dL_law_1031 (by decide) ?_
  refine q_iadd (v := nI (4 * i + 2)) hx hb dL_law_1032 (nI_add _ _) ?_
  refine q_sld (v := xs (4 * i + 2)) hx hb hX hbl hbA hS (by omega) hL dL_law_1033 rfl ?_
  refine lv_aload_n hx hb dL_law_1034 rfl (lv_at hl 2 rfl) ?_
  refine lv_iload hx hb dL_law_1035 (lv_at hl 1 rfl) ?_
  refine lv_iconst (v := nI 3) hx hb dL_law_1037 (by decide) ?_
  refine q_iadd (v := nI (4 * i + 3)) hx hb dL_law_1038 (nI_add _ _) ?_
  refine q_sld (v := xs (4 * i + 3)) hx hb hX hbl hbA hS (by omega) hL dL_law_1039 rfl ?_
  have hr0 := va_recv hE.K hP (ci := 5) (q0 := 0) rfl rfl
  have hP := q_swP hP
  have hD := q_swD hD
  refine q_wrV (wr := (oW g oa (f) :: wC g ad mc M sig z)) (As := [.int (nI a), .int (xs (4 * i + 2)), .int (xs (4 * i + 3))]) (rest := []) ⟨hx, hb, hml, hown, hts⟩ (cn_X4_alike_2 hV hR ha_ hx_) (cwV 3 hts gL_law_X4_alike rfl rfl rfl (by decide +kernel) ⟨Nat.le_of_ble_eq_true rfl, Nat.le_of_ble_eq_true rfl⟩) hE hP hD hS hA hr0 rfl hl.1 rfl (Nat.le_of_ble_eq_true rfl) dL_law_1040 ⟨by show _ ≤ 601024; omega, by show _ ≤ 7293034; omega⟩ (fun _u H locs hP hD hS hE => ?_)
  have hP : va_P g.1 vwCl (wMo g am (nI 1) sa z ++ (oW g oa (f) :: wC g ad mc M sig z)) H := q_swP hP
  have hD : va_D (q_n s.heap) (wMo g am (nI 1) sa z ++ (oW g oa (f) :: wC g ad mc M sig z)) := q_swD hD
  refine lv_istore (lv' := [(6, .int (nI 0)), (5, .int (nI 1)), (4, .int (nI (4 * i))), (0, .ref b), (1, .ref (ad 0)), (2, .ref (am 0)), (3, .ref oa)]) hx hb dL_law_1043 hl (by decide) rfl (fun ls hl => ?_)
  refine lv_aload_n hx hb dL_law_1045 rfl (lv_at hl 5 rfl) ?_
  refine q_roV (As := []) (rest := []) ⟨hx, hb, hml, hown, hts⟩ (c_X4_thrown (am := am) (th := nI 1) (sa := sa) (z := z)) (cwV 0 hts gL_law_X4_thrown rfl rfl rfl (by decide +kernel) ⟨Nat.le_of_ble_eq_true rfl, Nat.le_of_ble_eq_true rfl⟩) hE (fun q h => hA q (Nat.le_trans hS.1 h)) (fun k q h => hP k q (q_apL h)) (va_recv hE.K hP (ci := 5) (q0 := 0) rfl rfl) rfl hl.1 rfl (Nat.le_of_ble_eq_true rfl) dL_law_1046 ⟨by show _ ≤ 601024; omega, by show _ ≤ 7293034; omega⟩ ?_
  refine lv_iload hx hb dL_law_1049 (lv_at hl 1 rfl) ?_
  refine q_icmp_eq (tgt := 1056) hx hb (by omega) (by omega) dL_law_1051 (by decide) (fun c_1 => ?_) (fun c_1 => ?_)
  · refine lv_iload hx hb dL_law_1056 (lv_at hl 1 rfl) ?_
    refine q_if_ne (tgt := 1073) hx hb (by omega) dL_law_1058 (by decide) (fun c_2 => ?_) (fun c_2 => ?_)
    · refine lv_goto (tgt := 1379) hx hb dL_law_1073 (by decide) ?_
      exact W.widen (k := cells + 3) (n := slots + 27) (by omega) (by omega) (kk (ad) (nI 1) (mc) (M) (sig) (sa) (z) (f) H locs _ (rfl) ⟨hIV, hP, hD, hS, hE⟩ (lv_sub hl [2, 3, 4, 5, 6] rfl))
    · exact absurd c_2 (by decide)
  · exact absurd rfl c_1
set_option maxHeartbeats 4000000 in
set_option maxRecDepth 100000 in
theorem lw_c13_3 {p : Program} {l : Launch} {e : Env} {s : State} {m : MethodId} {below : List Frame} {meth : Method} {c : Code} {H : Heap} {locs : List Loc} {Q : State → Prop} {ls : Array Slot} {g : gT} {am ad : Nat → Nat} {oa : Nat} {th mc : Int32} {M : Nat} {sig sa : Nat → Int32} {z : sT} {f : Nat → Int64} {b L i cells slots : Nat} {xs : Nat → Int32} (C : LC p l s m c b L xs) (D : LD g s am ad oa th mc M sig sa z f H locs) (hi : 4 * i + 4 ≤ L) (hc : cells + 3 ≤ 601024) (hs : slots + 27 ≤ 7293034) (hl : lv_has ls 9 (lL (4 * i) b (ad 0) (am 0) oa)) (kk : LK p l e s m below meth c g b am oa (ad 0) (4 * i) cells slots Q) {a b_ : Nat} (ha_ : a < sL z) (hb_ : b_ < sL z) (hx_ : ¬ inR (xs (4 * i + 3)) (sL z)) (e1 : xs (4 * i + 1) = nI a) (e2 : xs (4 * i + 2) = nI b_) : W p l e room_1 s m #[Value.ref b] below meth c H locs cells slots Q (F0 m 996 ls []) := by
  obtain ⟨hx, hb, hml, hown, hts, hl0, hX, hbl, hL⟩ := C
  obtain ⟨hIV, hP, hD, hS, hE⟩ := D
  have hV := hIV.1
  have hM := hIV.2.1
  have hR := hIV.2.2.1
  have hK := hIV.K
  have hn := hV.n
  have hbA : ¬ q_n s.heap b := Nat.not_le.mpr hbl
  have hA : ∀ q, s.heap.size ≤ q → q_n s.heap q := fun _ h => h
  refine lv_aload_n hx hb dL_law_996 rfl (lv_at hl 2 rfl) ?_
  refine lv_aload_n hx hb dL_law_997 rfl (lv_at hl 1 rfl) ?_
  refine lv_iload hx hb dL_law_998 (lv_at hl 0 rfl) ?_
  refine lv_iconst (v := nI 1) hx hb dL_law_1000 (by decide) ?_
  refine q_iadd (v := nI (4 * i + 1)) hx hb dL_law_1001 (nI_add _ _) ?_
  refine q_sld (v := nI a) hx hb hX hbl hbA hS (by omega) hL dL_law_1002 e1 ?_
  refine lv_aload_n hx hb dL_law_1003 rfl (lv_at hl 1 rfl) ?_
  refine lv_iload hx hb dL_law_1004 (lv_at hl 0 rfl) ?_
  refine lv_iconst (v := nI 2) hx hb dL_law_1006 (by decide) ?_
  refine q_iadd (v := nI (4 * i + 2)) hx hb dL_law_1007 (nI_add _ _) ?_
  refine q_sld (v := nI b_) hx hb hX hbl hbA hS (by omega) hL dL_law_1008 e2 ?_
  refine lv_aload_n hx hb dL_law_1009 rfl (lv_at hl 1 rfl) ?_
  refine lv_iload hx hb dL_law_1010 (lv_at hl 0 rfl) ?_
  refine lv_iconst (v := nI 3) hx hb dL_law_1012 (by decide) ?_
  refine q_iadd (v := nI (4 * i + 3)) hx hb dL_law_1013 (nI_add _ _) ?_
  refine q_sld (v := xs (4 * i + 3)) hx hb hX hbl hbA hS (by omega) hL dL_law_1014 rfl ?_
  refine lv_aload_n hx hb dL_law_1015 rfl (lv_at hl 4 rfl) ?_
  refine q_wrSW (wr := wMo g am th sa z) (As := [.ref (ad 0), .int (nI a), .int (nI b_), .int (xs (4 * i + 3)), .ref oa]) (rest := []) ⟨hx, hb, hml, hown, hts⟩ (w_L_alike_3 hl0 hM hV ha_ hb_ hx_) (vx_cwSW 5 hts gL_law_L_alike rfl rfl rfl (by decide +kernel) ⟨Nat.le_of_ble_eq_true rfl, Nat.le_of_ble_eq_true rfl⟩) hE hP hD hS hA rfl hl.1 rfl (Nat.le_of_ble_eq_true rfl) dL_law_1016 ⟨by show _ ≤ 601024; omega, by show _ ≤ 7293034; omega⟩ (fun _u H locs hP hD hS hE => ?_)
  have hP : va_P g.1 vwCl (wMo g am th sa z ++ (oW g oa (f) :: wC g ad mc M sig z)) H := hP
  have hD : va_D (q_n s.heap) (wMo g am th sa z ++ (oW g oa (f) :: wC g ad mc M sig z)) := hD
  refine lv_istore (lv' := [(5, .int (nI 2)), (4, .int (nI (4 * i))), (0, .ref b), (1, .ref (ad 0)), (2, .ref (am 0)), (3, .ref oa)]) hx hb dL_law_1019 hl (by decide) rfl (fun ls hl => ?_)
  refine lv_aload_n hx hb dL_law_1021 rfl (lv_at hl 4 rfl) ?_
  refine lv_aload_n hx hb dL_law_1022 rfl (lv_at hl 2 rfl) ?_
  refine lv_iload hx hb dL_law_1023 (lv_at hl 1 rfl) ?_
  refine lv_iconst (v := nI 1) hx hb dL_law_1025 (by decide) ?_
  refine q_iadd (v := nI (4 * i + 1)) hx hb dL_law_1026 (nI_add _ _) ?_
  refine q_sld (v := nI a) hx hb hX hbl hbA hS (by omega) hL dL_law_1027 e1 ?_
  refine lv_aload_n hx hb dL_law_1028 rfl (lv_at hl 2 rfl) ?_
  refine lv_iload hx hb dL_law_1029 (lv_at hl 1 rfl) ?_
  refine lv_iconst (v := nI 2) hx hb dL_law_1031 (by decide) ?_
  refine q_iadd (v := nI (4 * i + 2)) hx hb dL_law_1032 (nI_add _ _) ?_
  refine q_sld (v := nI b_) hx hb hX hbl hbA hS (by omega) hL dL_law_1033 e2 ?_
  refine lv_aload_n hx hb dL_law_1034 rfl (lv_at hl 2 rfl) ?_
  refine lv_iload hx hb dL_law_1035 (lv_at hl 1 rfl) ?_
  refine lv_iconst (v := nI 3) hx hb dL_law_1037 (by decide) ?_
  refine q_iadd (v := nI (4 * i + 3)) hx hb dL_law_1038 (nI_add _ _) ?_
  refine q_sld (v := xs (4 * i + 3)) hx hb hX hbl hbA hS (by omega) hL dL_law_1039 rfl ?_
  have hr0 := va_recv hE.K hP (ci := 5) (q0 := 0) rfl rfl
  have hP := q_swP hP
  have hD := q_swD hD
  refine q_wrV (wr := (oW g oa (f) :: wC g ad mc M sig z)) (As := [.int (nI a), .int (nI b_), .int (xs (4 * i + 3))]) (rest := []) ⟨hx, hb, hml, hown, hts⟩ (cn_X4_alike_3 hV hR ha_ hb_ hx_) (cwV 3 hts gL_law_X4_alike rfl rfl rfl (by decide +kernel) ⟨Nat.le_of_ble_eq_true rfl, Nat.le_of_ble_eq_true rfl⟩) hE hP hD hS hA hr0 rfl hl.1 rfl (Nat.le_of_ble_eq_true rfl) dL_law_1040 ⟨by show _ ≤ 601024; omega, by show _ ≤ 7293034; omega⟩ (fun _u H locs hP hD hS hE => ?_)
  have hP : va_P g.1 vwCl (wMo g am (nI 2) sa z ++ (oW g oa (f) :: wC g ad mc M sig z)) H := q_swP hP
  have hD : va_D (q_n s.heap) (wMo g am (nI 2) sa z ++ (oW g oa (f) :: wC g ad mc M sig z)) := q_swD hD
  refine lv_istore (lv' := [(6, .int (nI 0)), (5, .int (nI 2)), (4, .int (nI (4 * i))), (0, .ref b), (1, .ref (ad 0)), (2, .ref (am 0)), (3, .ref oa)]) hx hb dL_law_1043 hl (by decide) rfl (fun ls hl => ?_)
  refine lv_aload_n hx hb dL_law_1045 rfl (lv_at hl 5 rfl) ?_
  refine q_roV (As := []) (rest := []) ⟨hx, hb, hml, hown, hts⟩ (c_X4_thrown (am := am) (th := nI 2) (sa := sa) (z := z)) (cwV 0 hts gL_law_X4_thrown rfl rfl rfl (by decide +kernel) ⟨Nat.le_of_ble_eq_true rfl, Nat.le_of_ble_eq_true rfl⟩) hE (fun q h => hA q (Nat.le_trans hS.1 h)) (fun k q h => hP k q (q_apL h)) (va_recv hE.K hP (ci := 5) (q0 := 0) rfl rfl) rfl hl.1 rfl (Nat.le_of_ble_eq_true rfl) dL_law_1046 ⟨by show _ ≤ 601024; omega, by show _ ≤ 7293034; omega⟩ ?_
  refine lv_iload hx hb dL_law_1049 (lv_at hl 1 rfl) ?_
  refine q_icmp_eq (tgt := 1056) hx hb (by omega) (by omega) dL_law_1051 (by decide) (fun c_1 => ?_) (fun c_1 => ?_)
  · refine lv_iload hx hb dL_law_1056 (lv_at hl 1 rfl) ?_
    refine q_if_ne (tgt := 1073) hx hb (by omega) dL_law_1058 (by decide) (fun c_2 => ?_) (fun c_2 => ?_)
    · refine lv_goto (tgt := 1379) hx hb dL_law_1073 (by decide) ?_
      exact W.widen (k := cells + 3) (n := slots + 27) (by omega) (by omega) (kk (ad) (nI 2) (mc) (M) (sig) (sa) (z) (f) H locs _ (rfl) ⟨hIV, hP, hD, hS, hE⟩ (lv_sub hl [2, 3, 4, 5, 6] rfl))
    · exact absurd c_2 (by decide)
  · exact absurd rfl c_1
set_option maxHeartbeats 4000000 in
set_option maxRecDepth 100000 in
theorem lw_c14 {p : Program} {l : Launch} {e : Env} {s : State} {m : MethodId} {below : List Frame} {meth : Method} {c : Code} {H : Heap} {locs : List Loc} {Q : State → Prop} {ls : Array Slot} {g : gT} {am ad : Nat → Nat} {oa : Nat} {th mc : Int32} {M : Nat} {sig sa : Nat → Int32} {z : sT} {f : Nat → Int64} {b L i cells slots : Nat} {xs : Nat → Int32} (C : LC p l s m c b L xs) (D : LD g s am ad oa th mc M sig sa z f H locs) (hi : 4 * i + 4 ≤ L) (hc : cells + 3 ≤ 601024) (hs : slots + 27 ≤ 7293034) (hl : lv_has ls 9 (lL (4 * i) b (ad 0) (am 0) oa)) (kk : LK p l e s m below meth c g b am oa (ad 0) (4 * i) cells slots Q) {a b_ : Nat} (ha_ : a < sL z) (hb_ : b_ < sL z) (e1 : xs (4 * i + 1) = nI a) (e2 : xs (4 * i + 2) = nI b_) : W p l e room_1 s m #[Value.ref b] below meth c H locs cells slots Q (F0 m 1076 ls []) := by
  obtain ⟨hx, hb, hml, hown, hts, hl0, hX, hbl, hL⟩ := C
  obtain ⟨hIV, hP, hD, hS, hE⟩ := D
  have hV := hIV.1
  have hM := hIV.2.1
  have hR := hIV.2.2.1
  have hK := hIV.K
  have hn := hV.n
  have hbA : ¬ q_n s.heap b := Nat.not_le.mpr hbl
  have hA : ∀ q, s.heap.size ≤ q → q_n s.heap q := fun _ h => h
  refine lv_aload_n hx hb dL_law_1076 rfl (lv_at hl 2 rfl) ?_
  refine lv_aload_n hx hb dL_law_1077 rfl (lv_at hl 1 rfl) ?_
  refine lv_iload hx hb dL_law_1078 (lv_at hl 0 rfl) ?_
  refine lv_iconst (v := nI 1) hx hb dL_law_1080 (by decide) ?_
  refine q_iadd (v := nI (4 * i + 1)) hx hb dL_law_1081 (nI_add _ _) ?_
  refine q_sld (v := nI a) hx hb hX hbl hbA hS (by omega) hL dL_law_1082 e1 ?_
  refine lv_aload_n hx hb dL_law_1083 rfl (lv_at hl 1 rfl) ?_
  refine lv_iload hx hb dL_law_1084 (lv_at hl 0 rfl) ?_
  refine lv_iconst (v := nI 2) hx hb dL_law_1086 (by decide) ?_
  refine q_iadd (v := nI (4 * i + 2)) hx hb dL_law_1087 (nI_add _ _) ?_
  refine q_sld (v := nI b_) hx hb hX hbl hbA hS (by omega) hL dL_law_1088 e2 ?_
  refine lv_aload_n hx hb dL_law_1089 rfl (lv_at hl 4 rfl) ?_
  refine q_wrSW (wr := wMo g am th sa z) (As := [.ref (ad 0), .int (nI a), .int (nI b_), .ref oa]) (rest := []) ⟨hx, hb, hml, hown, hts⟩ (w_L_shift hM hV ha_ hb_) (vx_cwSW 4 hts gL_law_L_shift rfl rfl rfl (by decide +kernel) ⟨Nat.le_of_ble_eq_true rfl, Nat.le_of_ble_eq_true rfl⟩) hE hP hD hS hA rfl hl.1 rfl (Nat.le_of_ble_eq_true rfl) dL_law_1090 ⟨by show _ ≤ 601024; omega, by show _ ≤ 7293034; omega⟩ (fun _u H locs hP hD hS hE => ?_)
  have hP : va_P g.1 vwCl (wMo g am th sa z ++ (oW g oa (vp_updL f 0 (nI (shB (sL z) a b_ (sL z - 1))).toInt64) :: wC g ad mc M sig z)) H := hP
  have hD : va_D (q_n s.heap) (wMo g am th sa z ++ (oW g oa (vp_updL f 0 (nI (shB (sL z) a b_ (sL z - 1))).toInt64) :: wC g ad mc M sig z)) := hD
  refine lv_istore (lv' := [(5, .int (nI 0)), (4, .int (nI (4 * i))), (0, .ref b), (1, .ref (ad 0)), (2, .ref (am 0)), (3, .ref oa)]) hx hb dL_law_1093 hl (by decide) rfl (fun ls hl => ?_)
  refine lv_aload_n hx hb dL_law_1095 rfl (lv_at hl 4 rfl) ?_
  refine lv_aload_n hx hb dL_law_1096 rfl (lv_at hl 2 rfl) ?_
  refine lv_iload hx hb dL_law_1097 (lv_at hl 1 rfl) ?_
  refine lv_iconst (v := nI 1) hx hb dL_law_1099 (by decide) ?_
  refine q_iadd (v := nI (4 * i + 1)) hx hb dL_law_1100 (nI_add _ _) ?_
  refine q_sld (v := nI a) hx hb hX hbl hbA hS (by omega) hL dL_law_1101 e1 ?_
  refine lv_aload_n hx hb dL_law_1102 rfl (lv_at hl 2 rfl) ?_
  refine lv_iload hx hb dL_law_1103 (lv_at hl 1 rfl) ?_
  refine lv_iconst (v := nI 2) hx hb dL_law_1105 (by decide) ?_
  refine q_iadd (v := nI (4 * i + 2)) hx hb dL_law_1106 (nI_add _ _) ?_
  refine q_sld (v := nI b_) hx hb hX hbl hbA hS (by omega) hL dL_law_1107 e2 ?_
  have hr0 := va_recv hE.K hP (ci := 5) (q0 := 0) rfl rfl
  have hP := q_swP hP
  have hD := q_swD hD
  refine q_wrV (wr := (oW g oa (vp_updL f 0 (nI (shB (sL z) a b_ (sL z - 1))).toInt64) :: wC g ad mc M sig z)) (As := [.int (nI a), .int (nI b_)]) (rest := []) ⟨hx, hb, hml, hown, hts⟩ (c_X4_shift hV hR ha_ hb_) (cwV 2 hts gL_law_X4_shift rfl rfl rfl (by decide +kernel) ⟨Nat.le_of_ble_eq_true rfl, Nat.le_of_ble_eq_true rfl⟩) hE hP hD hS hA hr0 rfl hl.1 rfl (Nat.le_of_ble_eq_true rfl) dL_law_1108 ⟨by show _ ≤ 601024; omega, by show _ ≤ 7293034; omega⟩ (fun _u H locs hP hD hS hE => ?_)
  have hP : va_P g.1 vwCl (wMo g am (nI 0) sa z ++ (oW g oa (vp_updL f 0 (nI (shB (sL z) a b_ (sL z - 1))).toInt64) :: wC g ad mc M sig z)) H := q_swP hP
  have hD : va_D (q_n s.heap) (wMo g am (nI 0) sa z ++ (oW g oa (vp_updL f 0 (nI (shB (sL z) a b_ (sL z - 1))).toInt64) :: wC g ad mc M sig z)) := q_swD hD
  refine lv_istore (lv' := [(6, .int (nI (shB (sL z) a b_ (sL z - 1)))), (5, .int (nI 0)), (4, .int (nI (4 * i))), (0, .ref b), (1, .ref (ad 0)), (2, .ref (am 0)), (3, .ref oa)]) hx hb dL_law_1111 hl (by decide) rfl (fun ls hl => ?_)
  refine lv_aload_n hx hb dL_law_1113 rfl (lv_at hl 5 rfl) ?_
  refine q_roV (As := []) (rest := []) ⟨hx, hb, hml, hown, hts⟩ (c_X4_thrown (am := am) (th := nI 0) (sa := sa) (z := z)) (cwV 0 hts gL_law_X4_thrown rfl rfl rfl (by decide +kernel) ⟨Nat.le_of_ble_eq_true rfl, Nat.le_of_ble_eq_true rfl⟩) hE (fun q h => hA q (Nat.le_trans hS.1 h)) (fun k q h => hP k q (q_apL h)) (va_recv hE.K hP (ci := 5) (q0 := 0) rfl rfl) rfl hl.1 rfl (Nat.le_of_ble_eq_true rfl) dL_law_1114 ⟨by show _ ≤ 601024; omega, by show _ ≤ 7293034; omega⟩ ?_
  refine lv_iload hx hb dL_law_1117 (lv_at hl 1 rfl) ?_
  refine q_icmp_eq (tgt := 1124) hx hb (by omega) (by omega) dL_law_1119 (by decide) (fun c_1 => ?_) (fun c_1 => ?_)
  · refine lv_iload hx hb dL_law_1124 (lv_at hl 1 rfl) ?_
    refine q_if_ne (tgt := 1141) hx hb (by omega) dL_law_1126 (by decide) (fun c_2 => ?_) (fun c_2 => ?_)
    · exact absurd c_2 (by decide)
    · refine lv_aload_n hx hb dL_law_1129 rfl (lv_at hl 6 rfl) ?_
      refine lv_iconst (v := nI 0) hx hb dL_law_1130 (by decide) ?_
      refine q_lald (v := (nI (shB (sL z) a b_ (sL z - 1))).toInt64) (q0 := 7) hx hb hE hP rfl dL_law_1131 (rfl) ?_
      refine lv_iload hx hb dL_law_1132 (lv_at hl 0 rfl) ?_
      refine lv_i2l (v := (nI (shB (sL z) a b_ (sL z - 1))).toInt64) hx hb dL_law_1134 rfl ?_
      refine q_lcmp hx hb dL_law_1135 rfl ?_
      refine q_if_eq (tgt := 1141) hx hb (by omega) dL_law_1136 (by decide) (fun c_3 => ?_) (fun c_3 => ?_)
      · refine lv_goto (tgt := 1379) hx hb dL_law_1141 (by decide) ?_
        exact W.widen (k := cells + 3) (n := slots + 27) (by omega) (by omega) (kk (ad) (nI 0) (mc) (M) (sig) (sa) (z) (vp_updL f 0 (nI (shB (sL z) a b_ (sL z - 1))).toInt64) H locs _ (rfl) ⟨hIV, hP, hD, hS, hE⟩ (lv_sub hl [2, 3, 4, 5, 6] rfl))
      · exact absurd c_3 (by omega)
  · exact absurd rfl c_1
set_option maxHeartbeats 4000000 in
set_option maxRecDepth 100000 in
theorem lw_c14_1 {p : Program} {l : Launch} {e : Env} {s : State} {m : MethodId} {below : List Frame} {meth : Method} {c : Code} {H : Heap} {locs : List Loc} {Q : State → Prop} {ls : Array Slot} {g : gT} {am ad : Nat → Nat} {oa : Nat} {th mc : Int32} {M : Nat} {sig sa : Nat → Int32} {z : sT} {f : Nat → Int64} {b L i cells slots : Nat} {xs : Nat → Int32} (C : LC p l s m c b L xs) (D : LD g s am ad oa th mc M sig sa z f H locs) (hi : 4 * i + 4 ≤ L) (hc : cells + 3 ≤ 601024) (hs : slots + 27 ≤ 7293034) (hl : lv_has ls 9 (lL (4 * i) b (ad 0) (am 0) oa)) (kk : LK p l e s m below meth c g b am oa (ad 0) (4 * i) cells slots Q) (hx_ : ¬ inR (xs (4 * i + 1)) (sL z)) : W p l e room_1 s m #[Value.ref b] below meth c H locs cells slots Q (F0 m 1076 ls []) := by
  obtain ⟨hx, hb, hml, hown, hts, hl0, hX, hbl, hL⟩ := C
  obtain ⟨hIV, hP, hD, hS, hE⟩ := D
  have hV := hIV.1
  have hM := hIV.2.1
  have hR := hIV.2.2.1
  have hK := hIV.K
  have hn := hV.n
  have hbA : ¬ q_n s.heap b := Nat.not_le.mpr hbl
  have hA : ∀ q, s.heap.size ≤ q → q_n s.heap q := fun _ h => h
  refine lv_aload_n hx hb dL_law_1076 rfl (lv_at hl 2 rfl) ?_
  refine lv_aload_n hx hb dL_law_1077 rfl (lv_at hl 1 rfl) ?_
  refine lv_iload hx hb dL_law_1078 (lv_at hl 0 rfl) ?_
  refine lv_iconst (v := nI 1) hx hb dL_law_1080 (by decide) ?_
  refine q_iadd (v := nI (4 * i + 1)) hx hb dL_law_1081 (nI_add _ _) ?_
  refine q_sld (v := xs (4 * i + 1)) hx hb hX hbl hbA hS (by omega) hL dL_law_1082 rfl ?_
  refine lv_aload_n hx hb dL_law_1083 rfl (lv_at hl 1 rfl) ?_
  refine lv_iload hx hb dL_law_1084 (lv_at hl 0 rfl) ?_
  refine lv_iconst (v := nI 2) hx hb dL_law_1086 (by decide) ?_
  refine q_iadd (v := nI (4 * i + 2)) hx hb dL_law_1087 (nI_add _ _) ?_
  refine q_sld (v := xs (4 * i + 2)) hx hb hX hbl hbA hS (by omega) hL dL_law_1088 rfl ?_
  refine lv_aload_n hx hb dL_law_1089 rfl (lv_at hl 4 rfl) ?_
  refine q_wrSW (wr := wMo g am th sa z) (As := [.ref (ad 0), .int (xs (4 * i + 1)), .int (xs (4 * i + 2)), .ref oa]) (rest := []) ⟨hx, hb, hml, hown, hts⟩ (w_L_shift_1 hl0 hM hV hx_) (vx_cwSW 4 hts gL_law_L_shift rfl rfl rfl (by decide +kernel) ⟨Nat.le_of_ble_eq_true rfl, Nat.le_of_ble_eq_true rfl⟩) hE hP hD hS hA rfl hl.1 rfl (Nat.le_of_ble_eq_true rfl) dL_law_1090 ⟨by show _ ≤ 601024; omega, by show _ ≤ 7293034; omega⟩ (fun _u H locs hP hD hS hE => ?_)
  have hP : va_P g.1 vwCl (wMo g am th sa z ++ (oW g oa (f) :: wC g ad mc M sig z)) H := hP
  have hD : va_D (q_n s.heap) (wMo g am th sa z ++ (oW g oa (f) :: wC g ad mc M sig z)) := hD
  refine lv_istore (lv' := [(5, .int (nI 1)), (4, .int (nI (4 * i))), (0, .ref b), (1, .ref (ad 0)), (2, .ref (am 0)), (3, .ref oa)]) hx hb dL_law_1093 hl (by decide) rfl (fun ls hl => ?_)
  refine lv_aload_n hx hb dL_law_1095 rfl (lv_at hl 4 rfl) ?_
  refine lv_aload_n hx hb dL_law_1096 rfl (lv_at hl 2 rfl) ?_
  refine lv_iload hx hb dL_law_1097 (lv_at hl 1 rfl) ?_
  refine lv_iconst (v := nI 1) hx hb dL_law_1099 (by decide) ?_
  refine q_iadd (v := nI (4 * i + 1)) hx hb dL_law_1100 (nI_add _ _) ?_
  refine q_sld (v := xs (4 * i + 1)) hx hb hX hbl hbA hS (by omega) hL dL_law_1101 rfl ?_
  refine lv_aload_n hx hb dL_law_1102 rfl (lv_at hl 2 rfl) ?_
  refine lv_iload hx hb dL_law_1103 (lv_at hl 1 rfl) ?_
  refine lv_iconst (v := nI 2) hx hb dL_law_1105 (by decide) ?_
  refine q_iadd (v := nI (4 * i + 2)) hx hb dL_law_1106 (nI_add _ _) ?_
  refine q_sld (v := xs (4 * i + 2)) hx hb hX hbl hbA hS (by omega) hL dL_law_1107 rfl ?_
  have hr0 := va_recv hE.K hP (ci := 5) (q0 := 0) rfl rfl
  have hP := q_swP hP
  have hD := q_swD hD
  refine q_wrV (wr := (oW g oa (f) :: wC g ad mc M sig z)) (As := [.int (xs (4 * i + 1)), .int (xs (4 * i + 2))]) (rest := []) ⟨hx, hb, hml, hown, hts⟩ (cn_X4_shift_1 hV hR hx_) (cwV 2 hts gL_law_X4_shift rfl rfl rfl (by decide +kernel) ⟨Nat.le_of_ble_eq_true rfl, Nat.le_of_ble_eq_true rfl⟩) hE hP hD hS hA hr0 rfl hl.1 rfl (Nat.le_of_ble_eq_true rfl) dL_law_1108 ⟨by show _ ≤ 601024; omega, by show _ ≤ 7293034; omega⟩ (fun _u H locs hP hD hS hE => ?_)
  have hP : va_P g.1 vwCl (wMo g am (nI 1) sa z ++ (oW g oa (f) :: wC g ad mc M sig z)) H := q_swP hP
  have hD : va_D (q_n s.heap) (wMo g am (nI 1) sa z ++ (oW g oa (f) :: wC g ad mc M sig z)) := q_swD hD
  refine lv_istore (lv' := [(6, .int (nI 0)), (5, .int (nI 1)), (4, .int (nI (4 * i))), (0, .ref b), (1, .ref (ad 0)), (2, .ref (am 0)), (3, .ref oa)]) hx hb dL_law_1111 hl (by decide) rfl (fun ls hl => ?_)
  refine lv_aload_n hx hb dL_law_1113 rfl (lv_at hl 5 rfl) ?_
  refine q_roV (As := []) (rest := []) ⟨hx, hb, hml, hown, hts⟩ (c_X4_thrown (am := am) (th := nI 1) (sa := sa) (z := z)) (cwV 0 hts gL_law_X4_thrown rfl rfl rfl (by decide +kernel) ⟨Nat.le_of_ble_eq_true rfl, Nat.le_of_ble_eq_true rfl⟩) hE (fun q h => hA q (Nat.le_trans hS.1 h)) (fun k q h => hP k q (q_apL h)) (va_recv hE.K hP (ci := 5) (q0 := 0) rfl rfl) rfl hl.1 rfl (Nat.le_of_ble_eq_true rfl) dL_law_1114 ⟨by show _ ≤ 601024; omega, by show _ ≤ 7293034; omega⟩ ?_
  refine lv_iload hx hb dL_law_1117 (lv_at hl 1 rfl) ?_
  refine q_icmp_eq (tgt := 1124) hx hb (by omega) (by omega) dL_law_1119 (by decide) (fun c_1 => ?_) (fun c_1 => ?_)
  · refine lv_iload hx hb dL_law_1124 (lv_at hl 1 rfl) ?_
    refine q_if_ne (tgt := 1141) hx hb (by omega) dL_law_1126 (by decide) (fun c_2 => ?_) (fun c_2 => ?_)
    · refine lv_goto (tgt := 1379) hx hb dL_law_1141 (by decide) ?_
      exact W.widen (k := cells + 3) (n := slots + 27) (by omega) (by omega) (kk (ad) (nI 1) (mc) (M) (sig) (sa) (z) (f) H locs _ (rfl) ⟨hIV, hP, hD, hS, hE⟩ (lv_sub hl [2, 3, 4, 5, 6] rfl))
    · exact absurd c_2 (by decide)
  · exact absurd rfl c_1
set_option maxHeartbeats 4000000 in
set_option maxRecDepth 100000 in
theorem lw_c14_2 {p : Program} {l : Launch} {e : Env} {s : State} {m : MethodId} {below : List Frame} {meth : Method} {c : Code} {H : Heap} {locs : List Loc} {Q : State → Prop} {ls : Array Slot} {g : gT} {am ad : Nat → Nat} {oa : Nat} {th mc : Int32} {M : Nat} {sig sa : Nat → Int32} {z : sT} {f : Nat → Int64} {b L i cells slots : Nat} {xs : Nat → Int32} (C : LC p l s m c b L xs) (D : LD g s am ad oa th mc M sig sa z f H locs) (hi : 4 * i + 4 ≤ L) (hc : cells + 3 ≤ 601024) (hs : slots + 27 ≤ 7293034) (hl : lv_has ls 9 (lL (4 * i) b (ad 0) (am 0) oa)) (kk : LK p l e s m below meth c g b am oa (ad 0) (4 * i) cells slots Q) {a : Nat} (ha_ : a < sL z) (hx_ : ¬ inR (xs (4 * i + 2)) (sL z)) (e1 : xs (4 * i + 1) = nI a) : W p l e room_1 s m #[Value.ref b] below meth c H locs cells slots Q (F0 m 1076 ls []) := by
  obtain ⟨hx, hb, hml, hown, hts, hl0, hX, hbl, hL⟩ := C
  obtain ⟨hIV, hP, hD, hS, hE⟩ := D
  have hV := hIV.1
  have hM := hIV.2.1
  have hR := hIV.2.2.1
  have hK := hIV.K
  have hn := hV.n
  have hbA : ¬ q_n s.heap b := Nat.not_le.mpr hbl
  have hA : ∀ q, s.heap.size ≤ q → q_n s.heap q := fun _ h => h
  refine lv_aload_n hx hb dL_law_1076 rfl (lv_at hl 2 rfl) ?_
  refine lv_aload_n hx hb dL_law_1077 rfl (lv_at hl 1 rfl) ?_
  refine lv_iload hx hb dL_law_1078 (lv_at hl 0 rfl) ?_
  refine lv_iconst (v := nI 1) hx hb dL_law_1080 (by decide) ?_
  refine q_iadd (v := nI (4 * i + 1)) hx hb dL_law_1081 (nI_add _ _) ?_
  refine q_sld (v := nI a) hx hb hX hbl hbA hS (by omega) hL dL_law_1082 e1 ?_
  refine lv_aload_n hx hb dL_law_1083 rfl (lv_at hl 1 rfl) ?_
  refine lv_iload hx hb dL_law_1084 (lv_at hl 0 rfl) ?_
  refine lv_iconst (v := nI 2) hx hb dL_law_1086 (by decide) ?_
  refine q_iadd (v := nI (4 * i + 2)) hx hb dL_law_1087 (nI_add _ _) ?_
  refine q_sld (v := xs (4 * i + 2)) hx hb hX hbl hbA hS (by omega) hL dL_law_1088 rfl ?_
  refine lv_aload_n hx hb dL_law_1089 rfl (lv_at hl 4 rfl) ?_
  refine q_wrSW (wr := wMo g am th sa z) (As := [.ref (ad 0), .int (nI a), .int (xs (4 * i + 2)), .ref oa]) (rest := []) ⟨hx, hb, hml, hown, hts⟩ (w_L_shift_2 hl0 hM hV ha_ hx_) (vx_cwSW 4 hts gL_law_L_shift rfl rfl rfl (by decide +kernel) ⟨Nat.le_of_ble_eq_true rfl, Nat.le_of_ble_eq_true rfl⟩) hE hP hD hS hA rfl hl.1 rfl (Nat.le_of_ble_eq_true rfl) dL_law_1090 ⟨by show _ ≤ 601024; omega, by show _ ≤ 7293034; omega⟩ (fun _u H locs hP hD hS hE => ?_)
  have hP : va_P g.1 vwCl (wMo g am th sa z ++ (oW g oa (f) :: wC g ad mc M sig z)) H := hP
  have hD : va_D (q_n s.heap) (wMo g am th sa z ++ (oW g oa (f) :: wC g ad mc M sig z)) := hD
  refine lv_istore (lv' := [(5, .int (nI 1)), (4, .int (nI (4 * i))), (0, .ref b), (1, .ref (ad 0)), (2, .ref (am 0)), (3, .ref oa)]) hx hb dL_law_1093 hl (by decide) rfl (fun ls hl => ?_)
  refine lv_aload_n hx hb dL_law_1095 rfl (lv_at hl 4 rfl) ?_
  refine lv_aload_n hx hb dL_law_1096 rfl (lv_at hl 2 rfl) ?_
  refine lv_iload hx hb dL_law_1097 (lv_at hl 1 rfl) ?_
  refine lv_iconst (v := nI 1) hx hb dL_law_1099 (by decide) ?_
  refine q_iadd (v := nI (4 * i + 1)) hx hb dL_law_1100 (nI_add _ _) ?_
  refine q_sld (v := nI a) hx hb hX hbl hbA hS (by omega) hL dL_law_1101 e1 ?_
  refine lv_aload_n hx hb dL_law_1102 rfl (lv_at hl 2 rfl) ?_
  refine lv_iload hx hb dL_law_1103 (lv_at hl 1 rfl) ?_
  refine lv_iconst (v := nI 2) hx hb dL_law_1105 (by decide) ?_
  refine q_iadd (v := nI (4 * i + 2)) hx hb dL_law_1106 (nI_add _ _) ?_
  refine q_sld (v := xs (4 * i + 2)) hx hb hX hbl hbA hS (by omega) hL dL_law_1107 rfl ?_
  have hr0 := va_recv hE.K hP (ci := 5) (q0 := 0) rfl rfl
  have hP := q_swP hP
  have hD := q_swD hD
  refine q_wrV (wr := (oW g oa (f) :: wC g ad mc M sig z)) (As := [.int (nI a), .int (xs (4 * i + 2))]) (rest := []) ⟨hx, hb, hml, hown, hts⟩ (cn_X4_shift_2 hV hR ha_ hx_) (cwV 2 hts gL_law_X4_shift rfl rfl rfl (by decide +kernel) ⟨Nat.le_of_ble_eq_true rfl, Nat.le_of_ble_eq_true rfl⟩) hE hP hD hS hA hr0 rfl hl.1 rfl (Nat.le_of_ble_eq_true rfl) dL_law_1108 ⟨by show _ ≤ 601024; omega, by show _ ≤ 7293034; omega⟩ (fun _u H locs hP hD hS hE => ?_)
  have hP : va_P g.1 vwCl (wMo g am (nI 1) sa z ++ (oW g oa (f) :: wC g ad mc M sig z)) H := q_swP hP
  have hD : va_D (q_n s.heap) (wMo g am (nI 1) sa z ++ (oW g oa (f) :: wC g ad mc M sig z)) := q_swD hD
  refine lv_istore (lv' := [(6, .int (nI 0)), (5, .int (nI 1)), (4, .int (nI (4 * i))), (0, .ref b), (1, .ref (ad 0)), (2, .ref (am 0)), (3, .ref oa)]) hx hb dL_law_1111 hl (by decide) rfl (fun ls hl => ?_)
  refine lv_aload_n hx hb dL_law_1113 rfl (lv_at hl 5 rfl) ?_
  refine q_roV (As := []) (rest := []) ⟨hx, hb, hml, hown, hts⟩ (c_X4_thrown (am := am) (th := nI 1) (sa := sa) (z := z)) (cwV 0 hts gL_law_X4_thrown rfl rfl rfl (by decide +kernel) ⟨Nat.le_of_ble_eq_true rfl, Nat.le_of_ble_eq_true rfl⟩) hE (fun q h => hA q (Nat.le_trans hS.1 h)) (fun k q h => hP k q (q_apL h)) (va_recv hE.K hP (ci := 5) (q0 := 0) rfl rfl) rfl hl.1 rfl (Nat.le_of_ble_eq_true rfl) dL_law_1114 ⟨by show _ ≤ 601024; omega, by show _ ≤ 7293034; omega⟩ ?_
  refine lv_iload hx hb dL_law_1117 (lv_at hl 1 rfl) ?_
  refine q_icmp_eq (tgt := 1124) hx hb (by omega) (by omega) dL_law_1119 (by decide) (fun c_1 => ?_) (fun c_1 => ?_)
  · refine lv_iload hx hb dL_law_1124 (lv_at hl 1 rfl) ?_
    refine q_if_ne (tgt := 1141) hx hb (by omega) dL_law_1126 (by decide) (fun c_2 => ?_) (fun c_2 => ?_)
    · refine lv_goto (tgt := 1379) hx hb dL_law_1141 (by decide) ?_
      exact W.widen (k := cells + 3) (n := slots + 27) (by omega) (by omega) (kk (ad) (nI 1) (mc) (M) (sig) (sa) (z) (f) H locs _ (rfl) ⟨hIV, hP, hD, hS, hE⟩ (lv_sub hl [2, 3, 4, 5, 6] rfl))
    · exact absurd c_2 (by decide)
  · exact absurd rfl c_1
set_option maxHeartbeats 4000000 in
set_option maxRecDepth 100000 in
theorem lw_c15 {p : Program} {l : Launch} {e : Env} {s : State} {m : MethodId} {below : List Frame} {meth : Method} {c : Code} {H : Heap} {locs : List Loc} {Q : State → Prop} {ls : Array Slot} {g : gT} {am ad : Nat → Nat} {oa : Nat} {th mc : Int32} {M : Nat} {sig sa : Nat → Int32} {z : sT} {f : Nat → Int64} {b L i cells slots : Nat} {xs : Nat → Int32} (C : LC p l s m c b L xs) (D : LD g s am ad oa th mc M sig sa z f H locs) (hi : 4 * i + 4 ≤ L) (hc : cells + 3 ≤ 601024) (hs : slots + 27 ≤ 7293034) (hl : lv_has ls 9 (lL (4 * i) b (ad 0) (am 0) oa)) (kk : LK p l e s m below meth c g b am oa (ad 0) (4 * i) cells slots Q) {b_ : Nat} (hb_ : b_ < sL z) (e1 : xs (4 * i + 1) = nI b_) : W p l e room_1 s m #[Value.ref b] below meth c H locs cells slots Q (F0 m 1144 ls []) := by
  obtain ⟨hx, hb, hml, hown, hts, hl0, hX, hbl, hL⟩ := C
  obtain ⟨hIV, hP, hD, hS, hE⟩ := D
  have hV := hIV.1
  have hM := hIV.2.1
  have hR := hIV.2.2.1
  have hK := hIV.K
  have hn := hV.n
  have hbA : ¬ q_n s.heap b := Nat.not_le.mpr hbl
  have hA : ∀ q, s.heap.size ≤ q → q_n s.heap q := fun _ h => h
  refine lv_aload_n hx hb dL_law_1144 rfl (lv_at hl 2 rfl) ?_
  refine lv_aload_n hx hb dL_law_1145 rfl (lv_at hl 1 rfl) ?_
  refine lv_iload hx hb dL_law_1146 (lv_at hl 0 rfl) ?_
  refine lv_iconst (v := nI 1) hx hb dL_law_1148 (by decide) ?_
  refine q_iadd (v := nI (4 * i + 1)) hx hb dL_law_1149 (nI_add _ _) ?_
  refine q_sld (v := nI b_) hx hb hX hbl hbA hS (by omega) hL dL_law_1150 e1 ?_
  refine lv_aload_n hx hb dL_law_1151 rfl (lv_at hl 4 rfl) ?_
  refine q_wrSW (wr := wMo g am th sa z) (As := [.ref (ad 0), .int (nI b_), .ref oa]) (rest := []) ⟨hx, hb, hml, hown, hts⟩ (w_L_advise hM hV hb_) (vx_cwSW 3 hts gL_law_L_advise rfl rfl rfl (by decide +kernel) ⟨Nat.le_of_ble_eq_true rfl, Nat.le_of_ble_eq_true rfl⟩) hE hP hD hS hA rfl hl.1 rfl (Nat.le_of_ble_eq_true rfl) dL_law_1152 ⟨by show _ ≤ 601024; omega, by show _ ≤ 7293034; omega⟩ (fun _u H locs hP hD hS hE => ?_)
  have hP : va_P g.1 vwCl (wMo g am th sa z ++ (oW g oa (vp_updL f 0 ((advS z b_ (sL z)).1).toInt64) :: wC g ad mc M sig z)) H := hP
  have hD : va_D (q_n s.heap) (wMo g am th sa z ++ (oW g oa (vp_updL f 0 ((advS z b_ (sL z)).1).toInt64) :: wC g ad mc M sig z)) := hD
  refine lv_istore (lv' := [(5, .int (nI 0)), (4, .int (nI (4 * i))), (0, .ref b), (1, .ref (ad 0)), (2, .ref (am 0)), (3, .ref oa)]) hx hb dL_law_1155 hl (by decide) rfl (fun ls hl => ?_)
  refine lv_aload_n hx hb dL_law_1157 rfl (lv_at hl 4 rfl) ?_
  refine lv_aload_n hx hb dL_law_1158 rfl (lv_at hl 2 rfl) ?_
  refine lv_iload hx hb dL_law_1159 (lv_at hl 1 rfl) ?_
  refine lv_iconst (v := nI 1) hx hb dL_law_1161 (by decide) ?_
  refine q_iadd (v := nI (4 * i + 1)) hx hb dL_law_1162 (nI_add _ _) ?_
  refine q_sld (v := nI b_) hx hb hX hbl hbA hS (by omega) hL dL_law_1163 e1 ?_
  have hr0 := va_recv hE.K hP (ci := 5) (q0 := 0) rfl rfl
  have hP := q_swP hP
  have hD := q_swD hD
  refine q_wrV (wr := (oW g oa (vp_updL f 0 ((advS z b_ (sL z)).1).toInt64) :: wC g ad mc M sig z)) (As := [.int (nI b_)]) (rest := []) ⟨hx, hb, hml, hown, hts⟩ (c_X4_advise hV hR hb_) (cwV 1 hts gL_law_X4_advise rfl rfl rfl (by decide +kernel) ⟨Nat.le_of_ble_eq_true rfl, Nat.le_of_ble_eq_true rfl⟩) hE hP hD hS hA hr0 rfl hl.1 rfl (Nat.le_of_ble_eq_true rfl) dL_law_1164 ⟨by show _ ≤ 601024; omega, by show _ ≤ 7293034; omega⟩ (fun _u H locs hP hD hS hE => ?_)
  have hP : va_P g.1 vwCl (wMo g am (nI 0) sa z ++ (oW g oa (vp_updL f 0 ((advS z b_ (sL z)).1).toInt64) :: wC g ad mc M sig z)) H := q_swP hP
  have hD : va_D (q_n s.heap) (wMo g am (nI 0) sa z ++ (oW g oa (vp_updL f 0 ((advS z b_ (sL z)).1).toInt64) :: wC g ad mc M sig z)) := q_swD hD
  refine lv_istore (lv' := [(6, .int ((advS z b_ (sL z)).1)), (5, .int (nI 0)), (4, .int (nI (4 * i))), (0, .ref b), (1, .ref (ad 0)), (2, .ref (am 0)), (3, .ref oa)]) hx hb dL_law_1167 hl (by decide) rfl (fun ls hl => ?_)
  refine lv_aload_n hx hb dL_law_1169 rfl (lv_at hl 5 rfl) ?_
  refine q_roV (As := []) (rest := []) ⟨hx, hb, hml, hown, hts⟩ (c_X4_thrown (am := am) (th := nI 0) (sa := sa) (z := z)) (cwV 0 hts gL_law_X4_thrown rfl rfl rfl (by decide +kernel) ⟨Nat.le_of_ble_eq_true rfl, Nat.le_of_ble_eq_true rfl⟩) hE (fun q h => hA q (Nat.le_trans hS.1 h)) (fun k q h => hP k q (q_apL h)) (va_recv hE.K hP (ci := 5) (q0 := 0) rfl rfl) rfl hl.1 rfl (Nat.le_of_ble_eq_true rfl) dL_law_1170 ⟨by show _ ≤ 601024; omega, by show _ ≤ 7293034; omega⟩ ?_
  refine lv_iload hx hb dL_law_1173 (lv_at hl 1 rfl) ?_
  refine q_icmp_eq (tgt := 1180) hx hb (by omega) (by omega) dL_law_1175 (by decide) (fun c_1 => ?_) (fun c_1 => ?_)
  · refine lv_iload hx hb dL_law_1180 (lv_at hl 1 rfl) ?_
    refine q_if_ne (tgt := 1197) hx hb (by omega) dL_law_1182 (by decide) (fun c_2 => ?_) (fun c_2 => ?_)
    · exact absurd c_2 (by decide)
    · refine lv_aload_n hx hb dL_law_1185 rfl (lv_at hl 6 rfl) ?_
      refine lv_iconst (v := nI 0) hx hb dL_law_1186 (by decide) ?_
      refine q_lald (v := ((advS z b_ (sL z)).1).toInt64) (q0 := 7) hx hb hE hP rfl dL_law_1187 (rfl) ?_
      refine lv_iload hx hb dL_law_1188 (lv_at hl 0 rfl) ?_
      refine lv_i2l (v := ((advS z b_ (sL z)).1).toInt64) hx hb dL_law_1190 rfl ?_
      refine q_lcmp hx hb dL_law_1191 rfl ?_
      refine q_if_eq (tgt := 1197) hx hb (by omega) dL_law_1192 (by decide) (fun c_3 => ?_) (fun c_3 => ?_)
      · refine lv_goto (tgt := 1379) hx hb dL_law_1197 (by decide) ?_
        exact W.widen (k := cells + 3) (n := slots + 27) (by omega) (by omega) (kk (ad) (nI 0) (mc) (M) (sig) (sa) (z) (vp_updL f 0 ((advS z b_ (sL z)).1).toInt64) H locs _ (rfl) ⟨hIV, hP, hD, hS, hE⟩ (lv_sub hl [2, 3, 4, 5, 6] rfl))
      · exact absurd c_3 (by omega)
  · exact absurd rfl c_1
set_option maxHeartbeats 4000000 in
set_option maxRecDepth 100000 in
theorem lw_c15_1 {p : Program} {l : Launch} {e : Env} {s : State} {m : MethodId} {below : List Frame} {meth : Method} {c : Code} {H : Heap} {locs : List Loc} {Q : State → Prop} {ls : Array Slot} {g : gT} {am ad : Nat → Nat} {oa : Nat} {th mc : Int32} {M : Nat} {sig sa : Nat → Int32} {z : sT} {f : Nat → Int64} {b L i cells slots : Nat} {xs : Nat → Int32} (C : LC p l s m c b L xs) (D : LD g s am ad oa th mc M sig sa z f H locs) (hi : 4 * i + 4 ≤ L) (hc : cells + 3 ≤ 601024) (hs : slots + 27 ≤ 7293034) (hl : lv_has ls 9 (lL (4 * i) b (ad 0) (am 0) oa)) (kk : LK p l e s m below meth c g b am oa (ad 0) (4 * i) cells slots Q) (hx_ : ¬ inR (xs (4 * i + 1)) (sL z)) : W p l e room_1 s m #[Value.ref b] below meth c H locs cells slots Q (F0 m 1144 ls []) := by
  obtain ⟨hx, hb, hml, hown, hts, hl0, hX, hbl, hL⟩ := C
  obtain ⟨hIV, hP, hD, hS, hE⟩ := D
  have hV := hIV.1
  have hM := hIV.2.1
  have hR := hIV.2.2.1
  have hK := hIV.K
  have hn := hV.n
  have hbA : ¬ q_n s.heap b := Nat.not_le.mpr hbl
  have hA : ∀ q, s.heap.size ≤ q → q_n s.heap q := fun _ h => h
  refine lv_aload_n hx hb dL_law_1144 rfl (lv_at hl 2 rfl) ?_
  refine lv_aload_n hx hb dL_law_1145 rfl (lv_at hl 1 rfl) ?_
  refine lv_iload hx hb dL_law_1146 (lv_at hl 0 rfl) ?_
  refine lv_iconst (v := nI 1) hx hb dL_law_1148 (by decide) ?_
  refine q_iadd (v := nI (4 * i + 1)) hx hb dL_law_1149 (nI_add _ _) ?_
  refine q_sld (v := xs (4 * i + 1)) hx hb hX hbl hbA hS (by omega) hL dL_law_1150 rfl ?_
  refine lv_aload_n hx hb dL_law_1151 rfl (lv_at hl 4 rfl) ?_
  refine q_wrSW (wr := wMo g am th sa z) (As := [.ref (ad 0), .int (xs (4 * i + 1)), .ref oa]) (rest := []) ⟨hx, hb, hml, hown, hts⟩ (w_L_advise_1 hl0 hM hV hx_) (vx_cwSW 3 hts gL_law_L_advise rfl rfl rfl (by decide +kernel) ⟨Nat.le_of_ble_eq_true rfl, Nat.le_of_ble_eq_true rfl⟩) hE hP hD hS hA rfl hl.1 rfl (Nat.le_of_ble_eq_true rfl) dL_law_1152 ⟨by show _ ≤ 601024; omega, by show _ ≤ 7293034; omega⟩ (fun _u H locs hP hD hS hE => ?_)
  have hP : va_P g.1 vwCl (wMo g am th sa z ++ (oW g oa (f) :: wC g ad mc M sig z)) H := hP
  have hD : va_D (q_n s.heap) (wMo g am th sa z ++ (oW g oa (f) :: wC g ad mc M sig z)) := hD
  refine lv_istore (lv' := [(5, .int (nI 1)), (4, .int (nI (4 * i))), (0, .ref b), (1, .ref (ad 0)), (2, .ref (am 0)), (3, .ref oa)]) hx hb dL_law_1155 hl (by decide) rfl (fun ls hl => ?_)
  refine lv_aload_n hx hb dL_law_1157 rfl (lv_at hl 4 rfl) ?_
  refine lv_aload_n hx hb dL_law_1158 rfl (lv_at hl 2 rfl) ?_
  refine lv_iload hx hb dL_law_1159 (lv_at hl 1 rfl) ?_
  refine lv_iconst (v := nI 1) hx hb dL_law_1161 (by decide) ?_
  refine q_iadd (v := nI (4 * i + 1)) hx hb dL_law_1162 (nI_add _ _) ?_
  refine q_sld (v := xs (4 * i + 1)) hx hb hX hbl hbA hS (by omega) hL dL_law_1163 rfl ?_
  have hr0 := va_recv hE.K hP (ci := 5) (q0 := 0) rfl rfl
  have hP := q_swP hP
  have hD := q_swD hD
  refine q_wrV (wr := (oW g oa (f) :: wC g ad mc M sig z)) (As := [.int (xs (4 * i + 1))]) (rest := []) ⟨hx, hb, hml, hown, hts⟩ (cn_X4_advise_1 hV hR hx_) (cwV 1 hts gL_law_X4_advise rfl rfl rfl (by decide +kernel) ⟨Nat.le_of_ble_eq_true rfl, Nat.le_of_ble_eq_true rfl⟩) hE hP hD hS hA hr0 rfl hl.1 rfl (Nat.le_of_ble_eq_true rfl) dL_law_1164 ⟨by show _ ≤ 601024; omega, by show _ ≤ 7293034; omega⟩ (fun _u H locs hP hD hS hE => ?_)
  have hP : va_P g.1 vwCl (wMo g am (nI 1) sa z ++ (oW g oa (f) :: wC g ad mc M sig z)) H := q_swP hP
  have hD : va_D (q_n s.heap) (wMo g am (nI 1) sa z ++ (oW g oa (f) :: wC g ad mc M sig z)) := q_swD hD
  refine lv_istore (lv' := [(6, .int (nI 0)), (5, .int (nI 1)), (4, .int (nI (4 * i))), (0, .ref b), (1, .ref (ad 0)), (2, .ref (am 0)), (3, .ref oa)]) hx hb dL_law_1167 hl (by decide) rfl (fun ls hl => ?_)
  refine lv_aload_n hx hb dL_law_1169 rfl (lv_at hl 5 rfl) ?_
  refine q_roV (As := []) (rest := []) ⟨hx, hb, hml, hown, hts⟩ (c_X4_thrown (am := am) (th := nI 1) (sa := sa) (z := z)) (cwV 0 hts gL_law_X4_thrown rfl rfl rfl (by decide +kernel) ⟨Nat.le_of_ble_eq_true rfl, Nat.le_of_ble_eq_true rfl⟩) hE (fun q h => hA q (Nat.le_trans hS.1 h)) (fun k q h => hP k q (q_apL h)) (va_recv hE.K hP (ci := 5) (q0 := 0) rfl rfl) rfl hl.1 rfl (Nat.le_of_ble_eq_true rfl) dL_law_1170 ⟨by show _ ≤ 601024; omega, by show _ ≤ 7293034; omega⟩ ?_
  refine lv_iload hx hb dL_law_1173 (lv_at hl 1 rfl) ?_
  refine q_icmp_eq (tgt := 1180) hx hb (by omega) (by omega) dL_law_1175 (by decide) (fun c_1 => ?_) (fun c_1 => ?_)
  · refine lv_iload hx hb dL_law_1180 (lv_at hl 1 rfl) ?_
    refine q_if_ne (tgt := 1197) hx hb (by omega) dL_law_1182 (by decide) (fun c_2 => ?_) (fun c_2 => ?_)
    · refine lv_goto (tgt := 1379) hx hb dL_law_1197 (by decide) ?_
      exact W.widen (k := cells + 3) (n := slots + 27) (by omega) (by omega) (kk (ad) (nI 1) (mc) (M) (sig) (sa) (z) (f) H locs _ (rfl) ⟨hIV, hP, hD, hS, hE⟩ (lv_sub hl [2, 3, 4, 5, 6] rfl))
    · exact absurd c_2 (by decide)
  · exact absurd rfl c_1
set_option maxHeartbeats 4000000 in
set_option maxRecDepth 100000 in
theorem lw_c16 {p : Program} {l : Launch} {e : Env} {s : State} {m : MethodId} {below : List Frame} {meth : Method} {c : Code} {H : Heap} {locs : List Loc} {Q : State → Prop} {ls : Array Slot} {g : gT} {am ad : Nat → Nat} {oa : Nat} {th mc : Int32} {M : Nat} {sig sa : Nat → Int32} {z : sT} {f : Nat → Int64} {b L i cells slots : Nat} {xs : Nat → Int32} (C : LC p l s m c b L xs) (D : LD g s am ad oa th mc M sig sa z f H locs) (hi : 4 * i + 4 ≤ L) (hc : cells + 3 ≤ 601024) (hs : slots + 27 ≤ 7293034) (hl : lv_has ls 9 (lL (4 * i) b (ad 0) (am 0) oa)) (kk : LK p l e s m below meth c g b am oa (ad 0) (4 * i) cells slots Q) {k s_ : Nat} (hk_ : k < sn z) (h1_ : 1 ≤ s_) (h9_ : s_ ≤ 9) (e1 : xs (4 * i + 1) = nI k) (e2 : xs (4 * i + 2) = nI s_) : W p l e room_1 s m #[Value.ref b] below meth c H locs cells slots Q (F0 m 1200 ls []) := by
  obtain ⟨hx, hb, hml, hown, hts, hl0, hX, hbl, hL⟩ := C
  obtain ⟨hIV, hP, hD, hS, hE⟩ := D
  have hV := hIV.1
  have hM := hIV.2.1
  have hR := hIV.2.2.1
  have hK := hIV.K
  have hn := hV.n
  have hbA : ¬ q_n s.heap b := Nat.not_le.mpr hbl
  have hA : ∀ q, s.heap.size ≤ q → q_n s.heap q := fun _ h => h
  refine lv_aload_n hx hb dL_law_1200 rfl (lv_at hl 2 rfl) ?_
  refine lv_aload_n hx hb dL_law_1201 rfl (lv_at hl 1 rfl) ?_
  refine lv_iload hx hb dL_law_1202 (lv_at hl 0 rfl) ?_
  refine lv_iconst (v := nI 1) hx hb dL_law_1204 (by decide) ?_
  refine q_iadd (v := nI (4 * i + 1)) hx hb dL_law_1205 (nI_add _ _) ?_
  refine q_sld (v := nI k) hx hb hX hbl hbA hS (by omega) hL dL_law_1206 e1 ?_
  refine lv_aload_n hx hb dL_law_1207 rfl (lv_at hl 1 rfl) ?_
  refine lv_iload hx hb dL_law_1208 (lv_at hl 0 rfl) ?_
  refine lv_iconst (v := nI 2) hx hb dL_law_1210 (by decide) ?_
  refine q_iadd (v := nI (4 * i + 2)) hx hb dL_law_1211 (nI_add _ _) ?_
  refine q_sld (v := nI s_) hx hb hX hbl hbA hS (by omega) hL dL_law_1212 e2 ?_
  refine lv_aload_n hx hb dL_law_1213 rfl (lv_at hl 4 rfl) ?_
  refine q_wrSW (wr := wMo g am th sa z) (As := [.ref (ad 0), .int (nI k), .int (nI s_), .ref oa]) (rest := []) ⟨hx, hb, hml, hown, hts⟩ (w_L_would hM hV hk_ h1_ h9_) (vx_cwSW 4 hts gL_law_L_would rfl rfl rfl (by decide +kernel) ⟨Nat.le_of_ble_eq_true rfl, Nat.le_of_ble_eq_true rfl⟩) hE hP hD hS hA rfl hl.1 rfl (Nat.le_of_ble_eq_true rfl) dL_law_1214 ⟨by show _ ≤ 601024; omega, by show _ ≤ 7293034; omega⟩ (fun _u H locs hP hD hS hE => ?_)
  have hP : va_P g.1 vwCl (wMo g am th sa z ++ (oW g oa (vp_updL f 0 (nI (wwF z sig k s_)).toInt64) :: wC g ad mc M sig z)) H := hP
  have hD : va_D (q_n s.heap) (wMo g am th sa z ++ (oW g oa (vp_updL f 0 (nI (wwF z sig k s_)).toInt64) :: wC g ad mc M sig z)) := hD
  refine lv_istore (lv' := [(5, .int (nI 0)), (4, .int (nI (4 * i))), (0, .ref b), (1, .ref (ad 0)), (2, .ref (am 0)), (3, .ref oa)]) hx hb dL_law_1217 hl (by decide) rfl (fun ls hl => ?_)
  refine lv_aload_n hx hb dL_law_1219 rfl (lv_at hl 4 rfl) ?_
  refine lv_aload_n hx hb dL_law_1220 rfl (lv_at hl 2 rfl) ?_
  refine lv_iload hx hb dL_law_1221 (lv_at hl 1 rfl) ?_
  refine lv_iconst (v := nI 1) hx hb dL_law_1223 (by decide) ?_
  refine q_iadd (v := nI (4 * i + 1)) hx hb dL_law_1224 (nI_add _ _) ?_
  refine q_sld (v := nI k) hx hb hX hbl hbA hS (by omega) hL dL_law_1225 e1 ?_
  refine lv_aload_n hx hb dL_law_1226 rfl (lv_at hl 2 rfl) ?_
  refine lv_iload hx hb dL_law_1227 (lv_at hl 1 rfl) ?_
  refine lv_iconst (v := nI 2) hx hb dL_law_1229 (by decide) ?_
  refine q_iadd (v := nI (4 * i + 2)) hx hb dL_law_1230 (nI_add _ _) ?_
  refine q_sld (v := nI s_) hx hb hX hbl hbA hS (by omega) hL dL_law_1231 e2 ?_
  have hr0 := va_recv hE.K hP (ci := 5) (q0 := 0) rfl rfl
  have hP := q_swP hP
  have hD := q_swD hD
  refine q_wrV (wr := (oW g oa (vp_updL f 0 (nI (wwF z sig k s_)).toInt64) :: wC g ad mc M sig z)) (As := [.int (nI k), .int (nI s_)]) (rest := []) ⟨hx, hb, hml, hown, hts⟩ (c_X4_would hV hR hk_ h1_ h9_) (cwV 2 hts gL_law_X4_would rfl rfl rfl (by decide +kernel) ⟨Nat.le_of_ble_eq_true rfl, Nat.le_of_ble_eq_true rfl⟩) hE hP hD hS hA hr0 rfl hl.1 rfl (Nat.le_of_ble_eq_true rfl) dL_law_1232 ⟨by show _ ≤ 601024; omega, by show _ ≤ 7293034; omega⟩ (fun _u H locs hP hD hS hE => ?_)
  have hP : va_P g.1 vwCl (wMo g am (nI 0) sa z ++ (oW g oa (vp_updL f 0 (nI (wwF z sig k s_)).toInt64) :: wC g ad mc M sig z)) H := q_swP hP
  have hD : va_D (q_n s.heap) (wMo g am (nI 0) sa z ++ (oW g oa (vp_updL f 0 (nI (wwF z sig k s_)).toInt64) :: wC g ad mc M sig z)) := q_swD hD
  refine lv_istore (lv' := [(6, .int (nI (wwM z k s_))), (5, .int (nI 0)), (4, .int (nI (4 * i))), (0, .ref b), (1, .ref (ad 0)), (2, .ref (am 0)), (3, .ref oa)]) hx hb dL_law_1235 hl (by decide) rfl (fun ls hl => ?_)
  refine lv_aload_n hx hb dL_law_1237 rfl (lv_at hl 5 rfl) ?_
  refine q_roV (As := []) (rest := []) ⟨hx, hb, hml, hown, hts⟩ (c_X4_thrown (am := am) (th := nI 0) (sa := sa) (z := z)) (cwV 0 hts gL_law_X4_thrown rfl rfl rfl (by decide +kernel) ⟨Nat.le_of_ble_eq_true rfl, Nat.le_of_ble_eq_true rfl⟩) hE (fun q h => hA q (Nat.le_trans hS.1 h)) (fun k q h => hP k q (q_apL h)) (va_recv hE.K hP (ci := 5) (q0 := 0) rfl rfl) rfl hl.1 rfl (Nat.le_of_ble_eq_true rfl) dL_law_1238 ⟨by show _ ≤ 601024; omega, by show _ ≤ 7293034; omega⟩ ?_
  refine lv_iload hx hb dL_law_1241 (lv_at hl 1 rfl) ?_
  refine q_icmp_eq (tgt := 1248) hx hb (by omega) (by omega) dL_law_1243 (by decide) (fun c_1 => ?_) (fun c_1 => ?_)
  · refine lv_iload hx hb dL_law_1248 (lv_at hl 1 rfl) ?_
    refine q_if_ne (tgt := 1265) hx hb (by omega) dL_law_1250 (by decide) (fun c_2 => ?_) (fun c_2 => ?_)
    · exact absurd c_2 (by decide)
    · refine lv_aload_n hx hb dL_law_1253 rfl (lv_at hl 6 rfl) ?_
      refine lv_iconst (v := nI 0) hx hb dL_law_1254 (by decide) ?_
      refine q_lald (v := (nI (wwM z k s_)).toInt64) (q0 := 7) hx hb hE hP rfl dL_law_1255 (show (nI (wwF z sig k s_)).toInt64 = (nI (wwM z k s_)).toInt64 by rw [hIV.ww hk_ h1_ h9_]) ?_
      refine lv_iload hx hb dL_law_1256 (lv_at hl 0 rfl) ?_
      refine lv_i2l (v := (nI (wwM z k s_)).toInt64) hx hb dL_law_1258 rfl ?_
      refine q_lcmp hx hb dL_law_1259 rfl ?_
      refine q_if_eq (tgt := 1265) hx hb (by omega) dL_law_1260 (by decide) (fun c_3 => ?_) (fun c_3 => ?_)
      · refine lv_goto (tgt := 1379) hx hb dL_law_1265 (by decide) ?_
        exact W.widen (k := cells + 3) (n := slots + 27) (by omega) (by omega) (kk (ad) (nI 0) (mc) (M) (sig) (sa) (z) (vp_updL f 0 (nI (wwF z sig k s_)).toInt64) H locs _ (rfl) ⟨hIV, hP, hD, hS, hE⟩ (lv_sub hl [2, 3, 4, 5, 6] rfl))
      · exact absurd c_3 (by omega)
  · exact absurd rfl c_1
set_option maxHeartbeats 4000000 in
set_option maxRecDepth 100000 in
theorem lw_c16_1 {p : Program} {l : Launch} {e : Env} {s : State} {m : MethodId} {below : List Frame} {meth : Method} {c : Code} {H : Heap} {locs : List Loc} {Q : State → Prop} {ls : Array Slot} {g : gT} {am ad : Nat → Nat} {oa : Nat} {th mc : Int32} {M : Nat} {sig sa : Nat → Int32} {z : sT} {f : Nat → Int64} {b L i cells slots : Nat} {xs : Nat → Int32} (C : LC p l s m c b L xs) (D : LD g s am ad oa th mc M sig sa z f H locs) (hi : 4 * i + 4 ≤ L) (hc : cells + 3 ≤ 601024) (hs : slots + 27 ≤ 7293034) (hl : lv_has ls 9 (lL (4 * i) b (ad 0) (am 0) oa)) (kk : LK p l e s m below meth c g b am oa (ad 0) (4 * i) cells slots Q) (hx_ : ¬ inR (xs (4 * i + 1)) (sn z)) : W p l e room_1 s m #[Value.ref b] below meth c H locs cells slots Q (F0 m 1200 ls []) := by
  obtain ⟨hx, hb, hml, hown, hts, hl0, hX, hbl, hL⟩ := C
  obtain ⟨hIV, hP, hD, hS, hE⟩ := D
  have hV := hIV.1
  have hM := hIV.2.1
  have hR := hIV.2.2.1
  have hK := hIV.K
  have hn := hV.n
  have hbA : ¬ q_n s.heap b := Nat.not_le.mpr hbl
  have hA : ∀ q, s.heap.size ≤ q → q_n s.heap q := fun _ h => h
  refine lv_aload_n hx hb dL_law_1200 rfl (lv_at hl 2 rfl) ?_
  refine lv_aload_n hx hb dL_law_1201 rfl (lv_at hl 1 rfl) ?_
  refine lv_iload hx hb dL_law_1202 (lv_at hl 0 rfl) ?_
  refine lv_iconst (v := nI 1) hx hb dL_law_1204 (by decide) ?_
  refine q_iadd (v := nI (4 * i + 1)) hx hb dL_law_1205 (nI_add _ _) ?_
  refine q_sld (v := xs (4 * i + 1)) hx hb hX hbl hbA hS (by omega) hL dL_law_1206 rfl ?_
  refine lv_aload_n hx hb dL_law_1207 rfl (lv_at hl 1 rfl) ?_
  refine lv_iload hx hb dL_law_1208 (lv_at hl 0 rfl) ?_
  refine lv_iconst (v := nI 2) hx hb dL_law_1210 (by decide) ?_
  refine q_iadd (v := nI (4 * i + 2)) hx hb dL_law_1211 (nI_add _ _) ?_
  refine q_sld (v := xs (4 * i + 2)) hx hb hX hbl hbA hS (by omega) hL dL_law_1212 rfl ?_
  refine lv_aload_n hx hb dL_law_1213 rfl (lv_at hl 4 rfl) ?_
  refine q_wrSW (wr := wMo g am th sa z) (As := [.ref (ad 0), .int (xs (4 * i + 1)), .int (xs (4 * i + 2)), .ref oa]) (rest := []) ⟨hx, hb, hml, hown, hts⟩ (w_L_would_1 hl0 hM hV hx_) (vx_cwSW 4 hts gL_law_L_would rfl rfl rfl (by decide +kernel) ⟨Nat.le_of_ble_eq_true rfl, Nat.le_of_ble_eq_true rfl⟩) hE hP hD hS hA rfl hl.1 rfl (Nat.le_of_ble_eq_true rfl) dL_law_1214 ⟨by show _ ≤ 601024; omega, by show _ ≤ 7293034; omega⟩ (fun _u H locs hP hD hS hE => ?_)
  have hP : va_P g.1 vwCl (wMo g am th sa z ++ (oW g oa (f) :: wC g ad mc M sig z)) H := hP
  have hD : va_D (q_n s.heap) (wMo g am th sa z ++ (oW g oa (f) :: wC g ad mc M sig z)) := hD
  refine lv_istore (lv' := [(5, .int (nI 1)), (4, .int (nI (4 * i))), (0, .ref b), (1, .ref (ad 0)), (2, .ref (am 0)), (3, .ref oa)]) hx hb dL_law_1217 hl (by decide) rfl (fun ls hl => ?_)
  refine lv_aload_n hx hb dL_law_1219 rfl (lv_at hl 4 rfl) ?_
  refine lv_aload_n hx hb dL_law_1220 rfl (lv_at hl 2 rfl) ?_
  refine lv_iload hx hb dL_law_1221 (lv_at hl 1 rfl) ?_
  refine lv_iconst (v := nI 1) hx hb dL_law_1223 (by decide) ?_
  refine q_iadd (v := nI (4 * i + 1)) hx hb dL_law_1224 (nI_add _ _) ?_
  refine q_sld (v := xs (4 * i + 1)) hx hb hX hbl hbA hS (by omega) hL dL_law_1225 rfl ?_
  refine lv_aload_n hx hb dL_law_1226 rfl (lv_at hl 2 rfl) ?_
  refine lv_iload hx hb dL_law_1227 (lv_at hl 1 rfl) ?_
  refine lv_iconst (v := nI 2) hx hb dL_law_1229 (by decide) ?_
  refine q_iadd (v := nI (4 * i + 2)) hx hb dL_law_1230 (nI_add _ _) ?_
  refine q_sld (v := xs (4 * i + 2)) hx hb hX hbl hbA hS (by omega) hL dL_law_1231 rfl ?_
  have hr0 := va_recv hE.K hP (ci := 5) (q0 := 0) rfl rfl
  have hP := q_swP hP
  have hD := q_swD hD
  refine q_wrV (wr := (oW g oa (f) :: wC g ad mc M sig z)) (As := [.int (xs (4 * i + 1)), .int (xs (4 * i + 2))]) (rest := []) ⟨hx, hb, hml, hown, hts⟩ (cn_X4_would_1 hV hR hx_) (cwV 2 hts gL_law_X4_would rfl rfl rfl (by decide +kernel) ⟨Nat.le_of_ble_eq_true rfl, Nat.le_of_ble_eq_true rfl⟩) hE hP hD hS hA hr0 rfl hl.1 rfl (Nat.le_of_ble_eq_true rfl) dL_law_1232 ⟨by show _ ≤ 601024; omega, by show _ ≤ 7293034; omega⟩ (fun _u H locs hP hD hS hE => ?_)
  have hP : va_P g.1 vwCl (wMo g am (nI 1) sa z ++ (oW g oa (f) :: wC g ad mc M sig z)) H := q_swP hP
  have hD : va_D (q_n s.heap) (wMo g am (nI 1) sa z ++ (oW g oa (f) :: wC g ad mc M sig z)) := q_swD hD
  refine lv_istore (lv' := [(6, .int (nI 0)), (5, .int (nI 1)), (4, .int (nI (4 * i))), (0, .ref b), (1, .ref (ad 0)), (2, .ref (am 0)), (3, .ref oa)]) hx hb dL_law_1235 hl (by decide) rfl (fun ls hl => ?_)
  refine lv_aload_n hx hb dL_law_1237 rfl (lv_at hl 5 rfl) ?_
  refine q_roV (As := []) (rest := []) ⟨hx, hb, hml, hown, hts⟩ (c_X4_thrown (am := am) (th := nI 1) (sa := sa) (z := z)) (cwV 0 hts gL_law_X4_thrown rfl rfl rfl (by decide +kernel) ⟨Nat.le_of_ble_eq_true rfl, Nat.le_of_ble_eq_true rfl⟩) hE (fun q h => hA q (Nat.le_trans hS.1 h)) (fun k q h => hP k q (q_apL h)) (va_recv hE.K hP (ci := 5) (q0 := 0) rfl rfl) rfl hl.1 rfl (Nat.le_of_ble_eq_true rfl) dL_law_1238 ⟨by show _ ≤ 601024; omega, by show _ ≤ 7293034; omega⟩ ?_
  refine lv_iload hx hb dL_law_1241 (lv_at hl 1 rfl) ?_
  refine q_icmp_eq (tgt := 1248) hx hb (by omega) (by omega) dL_law_1243 (by decide) (fun c_1 => ?_) (fun c_1 => ?_)
  · refine lv_iload hx hb dL_law_1248 (lv_at hl 1 rfl) ?_
    refine q_if_ne (tgt := 1265) hx hb (by omega) dL_law_1250 (by decide) (fun c_2 => ?_) (fun c_2 => ?_)
    · refine lv_goto (tgt := 1379) hx hb dL_law_1265 (by decide) ?_
      exact W.widen (k := cells + 3) (n := slots + 27) (by omega) (by omega) (kk (ad) (nI 1) (mc) (M) (sig) (sa) (z) (f) H locs _ (rfl) ⟨hIV, hP, hD, hS, hE⟩ (lv_sub hl [2, 3, 4, 5, 6] rfl))
    · exact absurd c_2 (by decide)
  · exact absurd rfl c_1
set_option maxHeartbeats 4000000 in
set_option maxRecDepth 100000 in
theorem lw_c16_2 {p : Program} {l : Launch} {e : Env} {s : State} {m : MethodId} {below : List Frame} {meth : Method} {c : Code} {H : Heap} {locs : List Loc} {Q : State → Prop} {ls : Array Slot} {g : gT} {am ad : Nat → Nat} {oa : Nat} {th mc : Int32} {M : Nat} {sig sa : Nat → Int32} {z : sT} {f : Nat → Int64} {b L i cells slots : Nat} {xs : Nat → Int32} (C : LC p l s m c b L xs) (D : LD g s am ad oa th mc M sig sa z f H locs) (hi : 4 * i + 4 ≤ L) (hc : cells + 3 ≤ 601024) (hs : slots + 27 ≤ 7293034) (hl : lv_has ls 9 (lL (4 * i) b (ad 0) (am 0) oa)) (kk : LK p l e s m below meth c g b am oa (ad 0) (4 * i) cells slots Q) {k : Nat} (hk_ : k < sn z) (hx_ : ¬ inB (xs (4 * i + 2)) 1 9) (e1 : xs (4 * i + 1) = nI k) : W p l e room_1 s m #[Value.ref b] below meth c H locs cells slots Q (F0 m 1200 ls []) := by
  obtain ⟨hx, hb, hml, hown, hts, hl0, hX, hbl, hL⟩ := C
  obtain ⟨hIV, hP, hD, hS, hE⟩ := D
  have hV := hIV.1
  have hM := hIV.2.1
  have hR := hIV.2.2.1
  have hK := hIV.K
  have hn := hV.n
  have hbA : ¬ q_n s.heap b := Nat.not_le.mpr hbl
  have hA : ∀ q, s.heap.size ≤ q → q_n s.heap q := fun _ h => h
  refine lv_aload_n hx hb dL_law_1200 rfl (lv_at hl 2 rfl) ?_
  refine lv_aload_n hx hb dL_law_1201 rfl (lv_at hl 1 rfl) ?_
  refine lv_iload hx hb dL_law_1202 (lv_at hl 0 rfl) ?_
  refine lv_iconst (v := nI 1) hx hb dL_law_1204 (by decide) ?_
  refine q_iadd (v := nI (4 * i + 1)) hx hb dL_law_1205 (nI_add _ _) ?_
  refine q_sld (v := nI k) hx hb hX hbl hbA hS (by omega) hL dL_law_1206 e1 ?_
  refine lv_aload_n hx hb dL_law_1207 rfl (lv_at hl 1 rfl) ?_
  refine lv_iload hx hb dL_law_1208 (lv_at hl 0 rfl) ?_
  refine lv_iconst (v := nI 2) hx hb dL_law_1210 (by decide) ?_
  refine q_iadd (v := nI (4 * i + 2)) hx hb dL_law_1211 (nI_add _ _) ?_
  refine q_sld (v := xs (4 * i + 2)) hx hb hX hbl hbA hS (by omega) hL dL_law_1212 rfl ?_
  refine lv_aload_n hx hb dL_law_1213 rfl (lv_at hl 4 rfl) ?_
  refine q_wrSW (wr := wMo g am th sa z) (As := [.ref (ad 0), .int (nI k), .int (xs (4 * i + 2)), .ref oa]) (rest := []) ⟨hx, hb, hml, hown, hts⟩ (w_L_would_2 hl0 hM hV hk_ hx_) (vx_cwSW 4 hts gL_law_L_would rfl rfl rfl (by decide +kernel) ⟨Nat.le_of_ble_eq_true rfl, Nat.le_of_ble_eq_true rfl⟩) hE hP hD hS hA rfl hl.1 rfl (Nat.le_of_ble_eq_true rfl) dL_law_1214 ⟨by show _ ≤ 601024; omega, by show _ ≤ 7293034; omega⟩ (fun _u H locs hP hD hS hE => ?_)
  have hP : va_P g.1 vwCl (wMo g am th sa z ++ (oW g oa (f) :: wC g ad mc M sig z)) H := hP
  have hD : va_D (q_n s.heap) (wMo g am th sa z ++ (oW g oa (f) :: wC g ad mc M sig z)) := hD
  refine lv_istore (lv' := [(5, .int (nI 2)), (4, .int (nI (4 * i))), (0, .ref b), (1, .ref (ad 0)), (2, .ref (am 0)), (3, .ref oa)]) hx hb dL_law_1217 hl (by decide) rfl (fun ls hl => ?_)
  refine lv_aload_n hx hb dL_law_1219 rfl (lv_at hl 4 rfl) ?_
  refine lv_aload_n hx hb dL_law_1220 rfl (lv_at hl 2 rfl) ?_
  refine lv_iload hx hb dL_law_1221 (lv_at hl 1 rfl) ?_
  refine lv_iconst (v := nI 1) hx hb dL_law_1223 (by decide) ?_
  refine q_iadd (v := nI (4 * i + 1)) hx hb dL_law_1224 (nI_add _ _) ?_
  refine q_sld (v := nI k) hx hb hX hbl hbA hS (by omega) hL dL_law_1225 e1 ?_
  refine lv_aload_n hx hb dL_law_1226 rfl (lv_at hl 2 rfl) ?_
  refine lv_iload hx hb dL_law_1227 (lv_at hl 1 rfl) ?_
  refine lv_iconst (v := nI 2) hx hb dL_law_1229 (by decide) ?_
  refine q_iadd (v := nI (4 * i + 2)) hx hb dL_law_1230 (nI_add _ _) ?_
  refine q_sld (v := xs (4 * i + 2)) hx hb hX hbl hbA hS (by omega) hL dL_law_1231 rfl ?_
  have hr0 := va_recv hE.K hP (ci := 5) (q0 := 0) rfl rfl
  have hP := q_swP hP
  have hD := q_swD hD
  refine q_wrV (wr := (oW g oa (f) :: wC g ad mc M sig z)) (As := [.int (nI k), .int (xs (4 * i + 2))]) (rest := []) ⟨hx, hb, hml, hown, hts⟩ (cn_X4_would_2 hV hR hk_ hx_) (cwV 2 hts gL_law_X4_would rfl rfl rfl (by decide +kernel) ⟨Nat.le_of_ble_eq_true rfl, Nat.le_of_ble_eq_true rfl⟩) hE hP hD hS hA hr0 rfl hl.1 rfl (Nat.le_of_ble_eq_true rfl) dL_law_1232 ⟨by show _ ≤ 601024; omega, by show _ ≤ 7293034; omega⟩ (fun _u H locs hP hD hS hE => ?_)
  have hP : va_P g.1 vwCl (wMo g am (nI 2) sa z ++ (oW g oa (f) :: wC g ad mc M sig z)) H := q_swP hP
  have hD : va_D (q_n s.heap) (wMo g am (nI 2) sa z ++ (oW g oa (f) :: wC g ad mc M sig z)) := q_swD hD
  refine lv_istore (lv' := [(6, .int (nI 0)), (5, .int (nI 2)), (4, .int (nI (4 * i))), (0, .ref b), (1, .ref (ad 0)), (2, .ref (am 0)), (3, .ref oa)]) hx hb dL_law_1235 hl (by decide) rfl (fun ls hl => ?_)
  refine lv_aload_n hx hb dL_law_1237 rfl (lv_at hl 5 rfl) ?_
  refine q_roV (As := []) (rest := []) ⟨hx, hb, hml, hown, hts⟩ (c_X4_thrown (am := am) (th := nI 2) (sa := sa) (z := z)) (cwV 0 hts gL_law_X4_thrown rfl rfl rfl (by decide +kernel) ⟨Nat.le_of_ble_eq_true rfl, Nat.le_of_ble_eq_true rfl⟩) hE (fun q h => hA q (Nat.le_trans hS.1 h)) (fun k q h => hP k q (q_apL h)) (va_recv hE.K hP (ci := 5) (q0 := 0) rfl rfl) rfl hl.1 rfl (Nat.le_of_ble_eq_true rfl) dL_law_1238 ⟨by show _ ≤ 601024; omega, by show _ ≤ 7293034; omega⟩ ?_
  refine lv_iload hx hb dL_law_1241 (lv_at hl 1 rfl) ?_
  refine q_icmp_eq (tgt := 1248) hx hb (by omega) (by omega) dL_law_1243 (by decide) (fun c_1 => ?_) (fun c_1 => ?_)
  · refine lv_iload hx hb dL_law_1248 (lv_at hl 1 rfl) ?_
    refine q_if_ne (tgt := 1265) hx hb (by omega) dL_law_1250 (by decide) (fun c_2 => ?_) (fun c_2 => ?_)
    · refine lv_goto (tgt := 1379) hx hb dL_law_1265 (by decide) ?_
      exact W.widen (k := cells + 3) (n := slots + 27) (by omega) (by omega) (kk (ad) (nI 2) (mc) (M) (sig) (sa) (z) (f) H locs _ (rfl) ⟨hIV, hP, hD, hS, hE⟩ (lv_sub hl [2, 3, 4, 5, 6] rfl))
    · exact absurd c_2 (by decide)
  · exact absurd rfl c_1
set_option maxHeartbeats 4000000 in
set_option maxRecDepth 100000 in
theorem lw_c17 {p : Program} {l : Launch} {e : Env} {s : State} {m : MethodId} {below : List Frame} {meth : Method} {c : Code} {H : Heap} {locs : List Loc} {Q : State → Prop} {ls : Array Slot} {g : gT} {am ad : Nat → Nat} {oa : Nat} {th mc : Int32} {M : Nat} {sig sa : Nat → Int32} {z : sT} {f : Nat → Int64} {b L i cells slots : Nat} {xs : Nat → Int32} (C : LC p l s m c b L xs) (D : LD g s am ad oa th mc M sig sa z f H locs) (hi : 4 * i + 4 ≤ L) (hc : cells + 3 ≤ 601024) (hs : slots + 27 ≤ 7293034) (hl : lv_has ls 9 (lL (4 * i) b (ad 0) (am 0) oa)) (kk : LK p l e s m below meth c g b am oa (ad 0) (4 * i) cells slots Q) {k : Nat} (hk_ : k < sn z) (e1 : xs (4 * i + 1) = nI k) : W p l e room_1 s m #[Value.ref b] below meth c H locs cells slots Q (F0 m 1268 ls []) := by
  obtain ⟨hx, hb, hml, hown, hts, hl0, hX, hbl, hL⟩ := C
  obtain ⟨hIV, hP, hD, hS, hE⟩ := D
  have hV := hIV.1
  have hM := hIV.2.1
  have hR := hIV.2.2.1
  have hK := hIV.K
  have hn := hV.n
  have hbA : ¬ q_n s.heap b := Nat.not_le.mpr hbl
  have hA : ∀ q, s.heap.size ≤ q → q_n s.heap q := fun _ h => h
  refine lv_aload_n hx hb dL_law_1268 rfl (lv_at hl 2 rfl) ?_
  refine lv_aload_n hx hb dL_law_1269 rfl (lv_at hl 1 rfl) ?_
  refine lv_iload hx hb dL_law_1270 (lv_at hl 0 rfl) ?_
  refine lv_iconst (v := nI 1) hx hb dL_law_1272 (by decide) ?_
  refine q_iadd (v := nI (4 * i + 1)) hx hb dL_law_1273 (nI_add _ _) ?_
  refine q_sld (v := nI k) hx hb hX hbl hbA hS (by omega) hL dL_law_1274 e1 ?_
  refine lv_aload_n hx hb dL_law_1275 rfl (lv_at hl 4 rfl) ?_
  refine q_wrSW (wr := wMo g am th sa z) (As := [.ref (ad 0), .int (nI k), .ref oa]) (rest := []) ⟨hx, hb, hml, hown, hts⟩ (w_L_tune hM hV hk_) (vx_cwSW 3 hts gL_law_L_tune rfl rfl rfl (by decide +kernel) ⟨Nat.le_of_ble_eq_true rfl, Nat.le_of_ble_eq_true rfl⟩) hE hP hD hS hA rfl hl.1 rfl (Nat.le_of_ble_eq_true rfl) dL_law_1276 ⟨by show _ ≤ 601024; omega, by show _ ≤ 7293034; omega⟩ (fun _u H locs hP hD hS hE => ?_)
  have hP : va_P g.1 vwCl (wMo g am th sa z ++ (oW g oa (vp_updL f 0 (nI (tuS (wwF z sig k) 8)).toInt64) :: wC g ad mc M sig z)) H := hP
  have hD : va_D (q_n s.heap) (wMo g am th sa z ++ (oW g oa (vp_updL f 0 (nI (tuS (wwF z sig k) 8)).toInt64) :: wC g ad mc M sig z)) := hD
  refine lv_istore (lv' := [(5, .int (nI 0)), (4, .int (nI (4 * i))), (0, .ref b), (1, .ref (ad 0)), (2, .ref (am 0)), (3, .ref oa)]) hx hb dL_law_1279 hl (by decide) rfl (fun ls hl => ?_)
  refine lv_aload_n hx hb dL_law_1281 rfl (lv_at hl 4 rfl) ?_
  refine lv_aload_n hx hb dL_law_1282 rfl (lv_at hl 2 rfl) ?_
  refine lv_iload hx hb dL_law_1283 (lv_at hl 1 rfl) ?_
  refine lv_iconst (v := nI 1) hx hb dL_law_1285 (by decide) ?_
  refine q_iadd (v := nI (4 * i + 1)) hx hb dL_law_1286 (nI_add _ _) ?_
  refine q_sld (v := nI k) hx hb hX hbl hbA hS (by omega) hL dL_law_1287 e1 ?_
  have hr0 := va_recv hE.K hP (ci := 5) (q0 := 0) rfl rfl
  have hP := q_swP hP
  have hD := q_swD hD
  refine q_wrV (wr := (oW g oa (vp_updL f 0 (nI (tuS (wwF z sig k) 8)).toInt64) :: wC g ad mc M sig z)) (As := [.int (nI k)]) (rest := []) ⟨hx, hb, hml, hown, hts⟩ (c_X4_tune hV hR hk_) (cwV 1 hts gL_law_X4_tune rfl rfl rfl (by decide +kernel) ⟨Nat.le_of_ble_eq_true rfl, Nat.le_of_ble_eq_true rfl⟩) hE hP hD hS hA hr0 rfl hl.1 rfl (Nat.le_of_ble_eq_true rfl) dL_law_1288 ⟨by show _ ≤ 601024; omega, by show _ ≤ 7293034; omega⟩ (fun _u H locs hP hD hS hE => ?_)
  have hP : va_P g.1 vwCl (wMo g am (nI 0) sa z ++ (oW g oa (vp_updL f 0 (nI (tuS (wwF z sig k) 8)).toInt64) :: wC g ad mc M sig z)) H := q_swP hP
  have hD : va_D (q_n s.heap) (wMo g am (nI 0) sa z ++ (oW g oa (vp_updL f 0 (nI (tuS (wwF z sig k) 8)).toInt64) :: wC g ad mc M sig z)) := q_swD hD
  refine lv_istore (lv' := [(6, .int (nI (tuS (wwM z k) 8))), (5, .int (nI 0)), (4, .int (nI (4 * i))), (0, .ref b), (1, .ref (ad 0)), (2, .ref (am 0)), (3, .ref oa)]) hx hb dL_law_1291 hl (by decide) rfl (fun ls hl => ?_)
  refine lv_aload_n hx hb dL_law_1293 rfl (lv_at hl 5 rfl) ?_
  refine q_roV (As := []) (rest := []) ⟨hx, hb, hml, hown, hts⟩ (c_X4_thrown (am := am) (th := nI 0) (sa := sa) (z := z)) (cwV 0 hts gL_law_X4_thrown rfl rfl rfl (by decide +kernel) ⟨Nat.le_of_ble_eq_true rfl, Nat.le_of_ble_eq_true rfl⟩) hE (fun q h => hA q (Nat.le_trans hS.1 h)) (fun k q h => hP k q (q_apL h)) (va_recv hE.K hP (ci := 5) (q0 := 0) rfl rfl) rfl hl.1 rfl (Nat.le_of_ble_eq_true rfl) dL_law_1294 ⟨by show _ ≤ 601024; omega, by show _ ≤ 7293034; omega⟩ ?_
  refine lv_iload hx hb dL_law_1297 (lv_at hl 1 rfl) ?_
  refine q_icmp_eq (tgt := 1304) hx hb (by omega) (by omega) dL_law_1299 (by decide) (fun c_1 => ?_) (fun c_1 => ?_)
  · refine lv_iload hx hb dL_law_1304 (lv_at hl 1 rfl) ?_
    refine q_if_ne (tgt := 1321) hx hb (by omega) dL_law_1306 (by decide) (fun c_2 => ?_) (fun c_2 => ?_)
    · exact absurd c_2 (by decide)
    · refine lv_aload_n hx hb dL_law_1309 rfl (lv_at hl 6 rfl) ?_
      refine lv_iconst (v := nI 0) hx hb dL_law_1310 (by decide) ?_
      refine q_lald (v := (nI (tuS (wwM z k) 8)).toInt64) (q0 := 7) hx hb hE hP rfl dL_law_1311 (show (nI (tuS (wwF z sig k) 8)).toInt64 = (nI (tuS (wwM z k) 8)).toInt64 by rw [hIV.tu hk_]) ?_
      refine lv_iload hx hb dL_law_1312 (lv_at hl 0 rfl) ?_
      refine lv_i2l (v := (nI (tuS (wwM z k) 8)).toInt64) hx hb dL_law_1314 rfl ?_
      refine q_lcmp hx hb dL_law_1315 rfl ?_
      refine q_if_eq (tgt := 1321) hx hb (by omega) dL_law_1316 (by decide) (fun c_3 => ?_) (fun c_3 => ?_)
      · refine lv_goto (tgt := 1379) hx hb dL_law_1321 (by decide) ?_
        exact W.widen (k := cells + 3) (n := slots + 27) (by omega) (by omega) (kk (ad) (nI 0) (mc) (M) (sig) (sa) (z) (vp_updL f 0 (nI (tuS (wwF z sig k) 8)).toInt64) H locs _ (rfl) ⟨hIV, hP, hD, hS, hE⟩ (lv_sub hl [2, 3, 4, 5, 6] rfl))
      · exact absurd c_3 (by omega)
  · exact absurd rfl c_1
set_option maxHeartbeats 4000000 in
set_option maxRecDepth 100000 in
theorem lw_c17_1 {p : Program} {l : Launch} {e : Env} {s : State} {m : MethodId} {below : List Frame} {meth : Method} {c : Code} {H : Heap} {locs : List Loc} {Q : State → Prop} {ls : Array Slot} {g : gT} {am ad : Nat → Nat} {oa : Nat} {th mc : Int32} {M : Nat} {sig sa : Nat → Int32} {z : sT} {f : Nat → Int64} {b L i cells slots : Nat} {xs : Nat → Int32} (C : LC p l s m c b L xs) (D : LD g s am ad oa th mc M sig sa z f H locs) (hi : 4 * i + 4 ≤ L) (hc : cells + 3 ≤ 601024) (hs : slots + 27 ≤ 7293034) (hl : lv_has ls 9 (lL (4 * i) b (ad 0) (am 0) oa)) (kk : LK p l e s m below meth c g b am oa (ad 0) (4 * i) cells slots Q) (hx_ : ¬ inR (xs (4 * i + 1)) (sn z)) : W p l e room_1 s m #[Value.ref b] below meth c H locs cells slots Q (F0 m 1268 ls []) := by
  obtain ⟨hx, hb, hml, hown, hts, hl0, hX, hbl, hL⟩ := C
  obtain ⟨hIV, hP, hD, hS, hE⟩ := D
  have hV := hIV.1
  have hM := hIV.2.1
  have hR := hIV.2.2.1
  have hK := hIV.K
  have hn := hV.n
  have hbA : ¬ q_n s.heap b := Nat.not_le.mpr hbl
  have hA : ∀ q, s.heap.size ≤ q → q_n s.heap q := fun _ h => h
  refine lv_aload_n hx hb dL_law_1268 rfl (lv_at hl 2 rfl) ?_
  refine lv_aload_n hx hb dL_law_1269 rfl (lv_at hl 1 rfl) ?_
  refine lv_iload hx hb dL_law_1270 (lv_at hl 0 rfl) ?_
  refine lv_iconst (v := nI 1) hx hb dL_law_1272 (by decide) ?_
  refine q_iadd (v := nI (4 * i + 1)) hx hb dL_law_1273 (nI_add _ _) ?_
  refine q_sld (v := xs (4 * i + 1)) hx hb hX hbl hbA hS (by omega) hL dL_law_1274 rfl ?_
  refine lv_aload_n hx hb dL_law_1275 rfl (lv_at hl 4 rfl) ?_
  refine q_wrSW (wr := wMo g am th sa z) (As := [.ref (ad 0), .int (xs (4 * i + 1)), .ref oa]) (rest := []) ⟨hx, hb, hml, hown, hts⟩ (w_L_tune_1 hl0 hM hV hx_) (vx_cwSW 3 hts gL_law_L_tune rfl rfl rfl (by decide +kernel) ⟨Nat.le_of_ble_eq_true rfl, Nat.le_of_ble_eq_true rfl⟩) hE hP hD hS hA rfl hl.1 rfl (Nat.le_of_ble_eq_true rfl) dL_law_1276 ⟨by show _ ≤ 601024; omega, by show _ ≤ 7293034; omega⟩ (fun _u H locs hP hD hS hE => ?_)
  have hP : va_P g.1 vwCl (wMo g am th sa z ++ (oW g oa (f) :: wC g ad mc M sig z)) H := hP
  have hD : va_D (q_n s.heap) (wMo g am th sa z ++ (oW g oa (f) :: wC g ad mc M sig z)) := hD
  refine lv_istore (lv' := [(5, .int (nI 1)), (4, .int (nI (4 * i))), (0, .ref b), (1, .ref (ad 0)), (2, .ref (am 0)), (3, .ref oa)]) hx hb dL_law_1279 hl (by decide) rfl (fun ls hl => ?_)
  refine lv_aload_n hx hb dL_law_1281 rfl (lv_at hl 4 rfl) ?_
  refine lv_aload_n hx hb dL_law_1282 rfl (lv_at hl 2 rfl) ?_
  refine lv_iload hx hb dL_law_1283 (lv_at hl 1 rfl) ?_
  refine lv_iconst (v := nI 1) hx hb dL_law_1285 (by decide) ?_
  refine q_iadd (v := nI (4 * i + 1)) hx hb dL_law_1286 (nI_add _ _) ?_
  refine q_sld (v := xs (4 * i + 1)) hx hb hX hbl hbA hS (by omega) hL dL_law_1287 rfl ?_
  have hr0 := va_recv hE.K hP (ci := 5) (q0 := 0) rfl rfl
  have hP := q_swP hP
  have hD := q_swD hD
  refine q_wrV (wr := (oW g oa (f) :: wC g ad mc M sig z)) (As := [.int (xs (4 * i + 1))]) (rest := []) ⟨hx, hb, hml, hown, hts⟩ (cn_X4_tune_1 hV hR hx_) (cwV 1 hts gL_law_X4_tune rfl rfl rfl (by decide +kernel) ⟨Nat.le_of_ble_eq_true rfl, Nat.le_of_ble_eq_true rfl⟩) hE hP hD hS hA hr0 rfl hl.1 rfl (Nat.le_of_ble_eq_true rfl) dL_law_1288 ⟨by show _ ≤ 601024; omega, by show _ ≤ 7293034; omega⟩ (fun _u H locs hP hD hS hE => ?_)
  have hP : va_P g.1 vwCl (wMo g am (nI 1) sa z ++ (oW g oa (f) :: wC g ad mc M sig z)) H := q_swP hP
  have hD : va_D (q_n s.heap) (wMo g am (nI 1) sa z ++ (oW g oa (f) :: wC g ad mc M sig z)) := q_swD hD
  refine lv_istore (lv' := [(6, .int (nI 0)), (5, .int (nI 1)), (4, .int (nI (4 * i))), (0, .ref b), (1, .ref (ad 0)), (2, .ref (am 0)), (3, .ref oa)]) hx hb dL_law_1291 hl (by decide) rfl (fun ls hl => ?_)
  refine lv_aload_n hx hb dL_law_1293 rfl (lv_at hl 5 rfl) ?_
  refine q_roV (As := []) (rest := []) ⟨hx, hb, hml, hown, hts⟩ (c_X4_thrown (am := am) (th := nI 1) (sa := sa) (z := z)) (cwV 0 hts gL_law_X4_thrown rfl rfl rfl (by decide +kernel) ⟨Nat.le_of_ble_eq_true rfl, Nat.le_of_ble_eq_true rfl⟩) hE (fun q h => hA q (Nat.le_trans hS.1 h)) (fun k q h => hP k q (q_apL h)) (va_recv hE.K hP (ci := 5) (q0 := 0) rfl rfl) rfl hl.1 rfl (Nat.le_of_ble_eq_true rfl) dL_law_1294 ⟨by show _ ≤ 601024; omega, by show _ ≤ 7293034; omega⟩ ?_
  refine lv_iload hx hb dL_law_1297 (lv_at hl 1 rfl) ?_
  refine q_icmp_eq (tgt := 1304) hx hb (by omega) (by omega) dL_law_1299 (by decide) (fun c_1 => ?_) (fun c_1 => ?_)
  · refine lv_iload hx hb dL_law_1304 (lv_at hl 1 rfl) ?_
    refine q_if_ne (tgt := 1321) hx hb (by omega) dL_law_1306 (by decide) (fun c_2 => ?_) (fun c_2 => ?_)
    · refine lv_goto (tgt := 1379) hx hb dL_law_1321 (by decide) ?_
      exact W.widen (k := cells + 3) (n := slots + 27) (by omega) (by omega) (kk (ad) (nI 1) (mc) (M) (sig) (sa) (z) (f) H locs _ (rfl) ⟨hIV, hP, hD, hS, hE⟩ (lv_sub hl [2, 3, 4, 5, 6] rfl))
    · exact absurd c_2 (by decide)
  · exact absurd rfl c_1
set_option maxHeartbeats 4000000 in
set_option maxRecDepth 100000 in
theorem lw_c18 {p : Program} {l : Launch} {e : Env} {s : State} {m : MethodId} {below : List Frame} {meth : Method} {c : Code} {H : Heap} {locs : List Loc} {Q : State → Prop} {ls : Array Slot} {g : gT} {am ad : Nat → Nat} {oa : Nat} {th mc : Int32} {M : Nat} {sig sa : Nat → Int32} {z : sT} {f : Nat → Int64} {b L i cells slots : Nat} {xs : Nat → Int32} (C : LC p l s m c b L xs) (D : LD g s am ad oa th mc M sig sa z f H locs) (hi : 4 * i + 4 ≤ L) (hc : cells + 3 ≤ 601024) (hs : slots + 27 ≤ 7293034) (hl : lv_has ls 9 (lL (4 * i) b (ad 0) (am 0) oa)) (kk : LK p l e s m below meth c g b am oa (ad 0) (4 * i) cells slots Q)  : W p l e room_1 s m #[Value.ref b] below meth c H locs cells slots Q (F0 m 1324 ls []) := by
  obtain ⟨hx, hb, hml, hown, hts, hl0, hX, hbl, hL⟩ := C
  obtain ⟨hIV, hP, hD, hS, hE⟩ := D
  have hV := hIV.1
  have hM := hIV.2.1
  have hR := hIV.2.2.1
  have hK := hIV.K
  have hn := hV.n
  have hbA : ¬ q_n s.heap b := Nat.not_le.mpr hbl
  have hA : ∀ q, s.heap.size ≤ q → q_n s.heap q := fun _ h => h
  refine lv_aload_n hx hb dL_law_1324 rfl (lv_at hl 2 rfl) ?_
  refine q_roV (As := []) (rest := []) ⟨hx, hb, hml, hown, hts⟩ (c_X3_mean hM hV hIV.bd) (cwV 0 hts gL_law_X3_mean rfl rfl rfl (by decide +kernel) ⟨Nat.le_of_ble_eq_true rfl, Nat.le_of_ble_eq_true rfl⟩) hE (fun q h => hA q (Nat.le_trans hS.1 h)) (fun k q h => hP (k + 8) q h) (va_recv hE.K hP (ci := 4) (q0 := 8) rfl rfl) rfl hl.1 rfl (Nat.le_of_ble_eq_true rfl) dL_law_1325 ⟨by show _ ≤ 601024; omega, by show _ ≤ 7293034; omega⟩ ?_
  rw [hK]
  refine lv_dstore (lv' := [(5, .double (mnV z (kM z))), (4, .int (nI (4 * i))), (0, .ref b), (1, .ref (ad 0)), (2, .ref (am 0)), (3, .ref oa)]) hx hb dL_law_1328 hl (by decide) rfl (fun ls hl => ?_)
  refine lv_aload_n hx hb dL_law_1330 rfl (lv_at hl 4 rfl) ?_
  have hr0 := va_recv hE.K hP (ci := 5) (q0 := 0) rfl rfl
  have hP := q_swP hP
  have hD := q_swD hD
  refine q_wrV (wr := (oW g oa f :: wC g ad mc M sig z)) (As := []) (rest := []) ⟨hx, hb, hml, hown, hts⟩ (c_X4_mean hV hR) (cwV 0 hts gL_law_X4_mean rfl rfl rfl (by decide +kernel) ⟨Nat.le_of_ble_eq_true rfl, Nat.le_of_ble_eq_true rfl⟩) hE hP hD hS hA hr0 rfl hl.1 rfl (Nat.le_of_ble_eq_true rfl) dL_law_1331 ⟨by show _ ≤ 601024; omega, by show _ ≤ 7293034; omega⟩ (fun _u H locs hP hD hS hE => ?_)
  have hP : va_P g.1 vwCl (wMo g am (nI 0) sa z ++ (oW g oa f :: wC g ad mc M sig z)) H := q_swP hP
  have hD : va_D (q_n s.heap) (wMo g am (nI 0) sa z ++ (oW g oa f :: wC g ad mc M sig z)) := q_swD hD
  refine lv_dstore (lv' := [(7, .double (mnV z (kM z))), (5, .double (mnV z (kM z))), (4, .int (nI (4 * i))), (0, .ref b), (1, .ref (ad 0)), (2, .ref (am 0)), (3, .ref oa)]) hx hb dL_law_1334 hl (by decide) rfl (fun ls hl => ?_)
  refine lv_dload hx hb dL_law_1336 (lv_at hl 1 rfl) ?_
  refine lv_dload hx hb dL_law_1338 (lv_at hl 0 rfl) ?_
  refine lv_dcmp hx hb dL_law_1340 ?_
  refine lv_if_eq (tgt := 1362) hx hb dL_law_1341 (by decide) (fun c_1 => ?_) (fun c_1 => ?_)
  · refine lv_goto (tgt := 1379) hx hb dL_law_1362 (by decide) ?_
    exact W.widen (k := cells + 3) (n := slots + 27) (by omega) (by omega) (kk ad (nI 0) mc M sig sa z f H locs _ rfl ⟨hIV, hP, hD, hS, hE⟩ (lv_sub hl [2, 3, 4, 5, 6] rfl))
  · refine lv_dload hx hb dL_law_1344 (lv_at hl 1 rfl) ?_
    refine lv_dload hx hb dL_law_1346 (lv_at hl 1 rfl) ?_
    refine lv_dcmp hx hb dL_law_1348 ?_
    refine lv_if_eq (tgt := 1360) hx hb dL_law_1349 (by decide) (fun c_2 => ?_) (fun c_2 => ?_)
    · exact absurd c_2 c_1
    · refine lv_dload hx hb dL_law_1352 (lv_at hl 0 rfl) ?_
      refine lv_dload hx hb dL_law_1354 (lv_at hl 0 rfl) ?_
      refine lv_dcmp hx hb dL_law_1356 ?_
      refine lv_if_ne (tgt := 1362) hx hb dL_law_1357 (by decide) (fun c_3 => ?_) (fun c_3 => ?_)
      · refine lv_goto (tgt := 1379) hx hb dL_law_1362 (by decide) ?_
        exact W.widen (k := cells + 3) (n := slots + 27) (by omega) (by omega) (kk ad (nI 0) mc M sig sa z f H locs _ rfl ⟨hIV, hP, hD, hS, hE⟩ (lv_sub hl [2, 3, 4, 5, 6] rfl))
      · exact absurd c_3 c_1
set_option maxHeartbeats 4000000 in
set_option maxRecDepth 100000 in
theorem lw_c19 {p : Program} {l : Launch} {e : Env} {s : State} {m : MethodId} {below : List Frame} {meth : Method} {c : Code} {H : Heap} {locs : List Loc} {Q : State → Prop} {ls : Array Slot} {g : gT} {am ad : Nat → Nat} {oa : Nat} {th mc : Int32} {M : Nat} {sig sa : Nat → Int32} {z : sT} {f : Nat → Int64} {b L i cells slots : Nat} {xs : Nat → Int32} (C : LC p l s m c b L xs) (D : LD g s am ad oa th mc M sig sa z f H locs) (hi : 4 * i + 4 ≤ L) (hc : cells + 3 ≤ 601024) (hs : slots + 27 ≤ 7293034) (hl : lv_has ls 9 (lL (4 * i) b (ad 0) (am 0) oa)) (kk : LK p l e s m below meth c g b am oa (ad 0) (4 * i) cells slots Q)  : W p l e room_1 s m #[Value.ref b] below meth c H locs cells slots Q (F0 m 1365 ls []) := by
  obtain ⟨hx, hb, hml, hown, hts, hl0, hX, hbl, hL⟩ := C
  obtain ⟨hIV, hP, hD, hS, hE⟩ := D
  have hV := hIV.1
  have hM := hIV.2.1
  have hR := hIV.2.2.1
  have hK := hIV.K
  have hn := hV.n
  have hbA : ¬ q_n s.heap b := Nat.not_le.mpr hbl
  have hA : ∀ q, s.heap.size ≤ q → q_n s.heap q := fun _ h => h
  refine lv_aload_n hx hb dL_law_1365 rfl (lv_at hl 2 rfl) ?_
  refine q_roV (As := []) (rest := []) ⟨hx, hb, hml, hown, hts⟩ (c_X3_digest hM hV) (cwV 0 hts gL_law_X3_digest rfl rfl rfl (by decide +kernel) ⟨Nat.le_of_ble_eq_true rfl, Nat.le_of_ble_eq_true rfl⟩) hE (fun q h => hA q (Nat.le_trans hS.1 h)) (fun k q h => hP (k + 8) q h) (va_recv hE.K hP (ci := 4) (q0 := 8) rfl rfl) rfl hl.1 rfl (Nat.le_of_ble_eq_true rfl) dL_law_1366 ⟨by show _ ≤ 601024; omega, by show _ ≤ 7293034; omega⟩ ?_
  rw [hK]
  refine lv_aload_n hx hb dL_law_1369 rfl (lv_at hl 3 rfl) ?_
  have hr0 := va_recv hE.K hP (ci := 5) (q0 := 0) rfl rfl
  have hP := q_swP hP
  have hD := q_swD hD
  refine q_wrV (wr := (oW g oa f :: wC g ad mc M sig z)) (As := []) (rest := [.long (dgA z (kM z))]) ⟨hx, hb, hml, hown, hts⟩ (c_X4_digest hV hR) (cwV 0 hts gL_law_X4_digest rfl rfl rfl (by decide +kernel) ⟨Nat.le_of_ble_eq_true rfl, Nat.le_of_ble_eq_true rfl⟩) hE hP hD hS hA hr0 rfl hl.1 rfl (Nat.le_of_ble_eq_true rfl) dL_law_1370 ⟨by show _ ≤ 601024; omega, by show _ ≤ 7293034; omega⟩ (fun _u H locs hP hD hS hE => ?_)
  have hP : va_P g.1 vwCl (wMo g am (nI 0) sa z ++ (oW g oa f :: wC g ad mc M sig z)) H := q_swP hP
  have hD : va_D (q_n s.heap) (wMo g am (nI 0) sa z ++ (oW g oa f :: wC g ad mc M sig z)) := q_swD hD
  refine q_lcmp hx hb dL_law_1373 rfl ?_
  refine q_if_eq (tgt := 1379) hx hb (by omega) dL_law_1374 (by decide) (fun c_1 => ?_) (fun c_1 => ?_)
  · exact W.widen (k := cells + 3) (n := slots + 27) (by omega) (by omega) (kk ad (nI 0) mc M sig sa z f H locs _ rfl ⟨hIV, hP, hD, hS, hE⟩ (lv_sub hl [0, 1, 2, 3, 4] rfl))
  · exact absurd c_1 (by omega)
