/-! ===== the check: its numbers; what reads its picture ===== -/
set_option maxHeartbeats 4000000 in
set_option maxRecDepth 100000 in
theorem c_L_below {l : Launch} {g : gT} {x : Int32} {n : Nat} (h0_ : 0 < n) (hn_ : n < 2147483648) : RO l yL_below wsL_below ({ frames := 0, cells := 0, slots := 0, locals := 0 } : Room) [.int x, .int (nI n)] g (fun H => True) (some (.int (nI (bel x n)))) := by
  refine RO.of (cc := cL_below) (maxL := 2) (ret := (some .int)) (by decide) rfl (Nat.le_of_ble_eq_true rfl) ?_
  intro p e s m below meth c hx hb hml hr hlocks hown hts hE hF ls hl
  have hown : s.vm.findClass RL = some m.cls := hown
  have hA : ∀ q, s.heap.size ≤ q → q_n s.heap q := fun _ h => h
  have hl : lv_has ls 2 [(0, .int x), (1, .int (nI n))] := hl
  refine lv_iload_n hx hb dL_below_0 rfl (lv_at hl 0 rfl) ?_
  refine lv_ldc (v := 2147483647) hx hb hown (hts _ (List.mem_of_getElem? (i := 1) rfl)) dL_below_1 ?_
  refine q_iand (v := x &&& 2147483647) hx hb dL_below_3 rfl ?_
  refine lv_iload_n hx hb dL_below_4 rfl (lv_at hl 1 rfl) ?_
  refine q_irem (v := nI (bel x n)) hx hb dL_below_5 (q_ne0 h0_ hn_) (bel_rem h0_ hn_) ?_
  exact q_iret hx hb hr hlocks dL_below_6 rfl
set_option maxHeartbeats 4000000 in
set_option maxRecDepth 100000 in
theorem c_L_cell {l : Launch} {g : gT} {k : Nat} (hg_ : gL g ≤ 260) (hk_ : k < 1000) : RO l yL_cell wsL_cell ({ frames := 0, cells := 0, slots := 0, locals := 0 } : Room) [.ref (gB g), .int (nI k)] g (fun H => True) (some (.int (celF (gL g) (gX g) k))) := by
  refine RO.of (cc := cL_cell) (maxL := 2) (ret := (some .int)) (by decide) rfl (Nat.le_of_ble_eq_true rfl) ?_
  intro p e s m below meth c hx hb hml hr hlocks hown hts hE hF ls hl
  have hown : s.vm.findClass RL = some m.cls := hown
  have hA : ∀ q, s.heap.size ≤ q → q_n s.heap q := fun _ h => h
  have hl : lv_has ls 2 [(0, .ref (gB g)), (1, .int (nI k))] := hl
  refine lv_iload_n hx hb dL_cell_0 rfl (lv_at hl 1 rfl) ?_
  refine lv_aload_n hx hb dL_cell_1 rfl (lv_at hl 0 rfl) ?_
  refine va_tlen (v := nI (gL g)) (ty := .int) hx hb hE.2.2.2.2.2 va_S.rf rfl dL_cell_2 ?_
  refine q_icmp_ge (tgt := 12) hx hb (by omega) (by omega) dL_cell_3 (by decide) (fun c_1 => ?_) (fun c_1 => ?_)
  · refine lv_ldc (v := 790386105) hx hb hown (hts _ (List.mem_of_getElem? (i := 1) rfl)) dL_cell_12 ?_
    refine lv_iload_n hx hb dL_cell_14 rfl (lv_at hl 1 rfl) ?_
    refine lv_iconst (v := nI 3) hx hb dL_cell_15 (by decide) ?_
    refine q_iadd (v := nI (k + 3)) hx hb dL_cell_16 (nI_add _ _) ?_
    refine q_imul (v := celF (gL g) (gX g) k) hx hb dL_cell_17 (celF_ge c_1) ?_
    exact q_iret hx hb hr hlocks dL_cell_18 rfl
  · refine lv_aload_n hx hb dL_cell_6 rfl (lv_at hl 0 rfl) ?_
    refine lv_iload_n hx hb dL_cell_7 rfl (lv_at hl 1 rfl) ?_
    refine va_ti (v := .int (celF (gL g) (gX g) k)) hx hb hE.2.2.2.2.2 va_S.rf (vp_in_nI c_1 (by omega)) (by show Value.int (gX g _) = _; rw [nI_clamp (by omega), celF_lt (L := gL g) (xs := gX g) c_1]) dL_cell_8 ?_
    refine lv_goto (tgt := 18) hx hb dL_cell_9 (by decide) ?_
    exact q_iret hx hb hr hlocks dL_cell_18 rfl
set_option maxHeartbeats 4000000 in
set_option maxRecDepth 100000 in
theorem c_X4_length {l : Launch} {g : gT} {b : Nat → Nat} {z : sT} (hV : VS z) : RO l yX4_length wsX4_length ({ frames := 0, cells := 0, slots := 0, locals := 0 } : Room) [.ref (b 0)] g (fun H => va_P g.1 vwCl (wS g b z) H) (some (.int (nI (sL z)))) := by
  refine RO.of (cc := cX4_length) (maxL := 1) (ret := (some .int)) (by decide) rfl (Nat.le_of_ble_eq_true rfl) ?_
  intro p e s m below meth c hx hb hml hr hlocks hown hts hE hF ls hl
  have hown : s.vm.findClass RX4 = some m.cls := hown
  have hA : ∀ q, s.heap.size ≤ q → q_n s.heap q := fun _ h => h
  have hQ := hF
  have hl : lv_has ls 1 [(0, .ref (b 0))] := hl
  have hL := hV.L
  have hn := hV.n
  refine lv_aload_n hx hb dX4_length_0 rfl (lv_at hl 0 rfl) ?_
  refine va_get (v := .ref (b 2)) (C := RX4) (T := TX4) (N := 4) hx hb hts (q_sub wsX40 2 rfl) hown hE.K hQ 0 rfl rfl 0 (by decide) (hts _ (List.mem_of_getElem? (i := 1) rfl)) (fun _ h9 => h9) rfl dX4_length_1 ?_
  refine q_alenA (v := nI (sL z)) hx hb hE (hQ 2 _ rfl) dX4_length_4 rfl ?_
  exact q_iret hx hb hr hlocks dX4_length_5 rfl
set_option maxHeartbeats 4000000 in
set_option maxRecDepth 100000 in
theorem c_X4_end {l : Launch} {g : gT} {b : Nat → Nat} {z : sT} (hV : VS z) {k : Nat} (hk_ : k < sn z) : RO l yX4_end wsX4_end ({ frames := 1, cells := 0, slots := 0, locals := 20 } : Room) [.ref (b 0), .int (nI k)] g (fun H => va_P g.1 vwCl (wS g b z) H) (some (.int (nI (endF (sL z) (ssd z k) (sdl z k))))) := by
  refine RO.of (cc := cX4_end) (maxL := 2) (ret := (some .int)) (by decide) rfl (Nat.le_of_ble_eq_true rfl) ?_
  intro p e s m below meth c hx hb hml hr hlocks hown hts hE hF ls hl
  have hown : s.vm.findClass RX4 = some m.cls := hown
  have hA : ∀ q, s.heap.size ≤ q → q_n s.heap q := fun _ h => h
  have hQ := hF
  have hl : lv_has ls 2 [(0, .ref (b 0)), (1, .int (nI k))] := hl
  have hL := hV.L
  have hn := hV.n
  have hb_ := hV.h hk_
  have hd_ := hV.hL hk_
  refine lv_aload_n hx hb dX4_end_0 rfl (lv_at hl 0 rfl) ?_
  refine va_get (v := .ref (b 4)) (C := RX4) (T := TX4) (N := 4) hx hb hts (q_sub wsX40 9 rfl) hown hE.K hQ 0 rfl rfl 2 (by decide) (hts _ (List.mem_of_getElem? (i := 1) rfl)) (fun _ h9 => h9) rfl dX4_end_1 ?_
  refine lv_iload_n hx hb dX4_end_4 rfl (lv_at hl 1 rfl) ?_
  refine q_aldA (n := sn z) (r := b (sL z + 2 * k + 6)) hx hb hE (hQ 4 _ rfl) (by omega) (by omega) dX4_end_5 (rfF_lt (by omega)) ?_
  refine q_alen (v := nI (ssd z k)) hx hb hE (hQ _ _ (wS_w (by omega))) dX4_end_6 rfl ?_
  refine q_if_ne (tgt := 14) hx hb (by omega) dX4_end_7 (by decide) (fun c_1 => ?_) (fun c_1 => ?_)
  · refine lv_aload_n hx hb dX4_end_14 rfl (lv_at hl 0 rfl) ?_
    refine va_get (v := .ref (b 3)) (C := RX4) (T := TX4) (N := 4) hx hb hts (q_sub wsX40 9 rfl) hown hE.K hQ 0 rfl rfl 1 (by decide) (hts _ (List.mem_of_getElem? (i := 2) rfl)) (fun _ h9 => h9) rfl dX4_end_15 ?_
    refine lv_iload_n hx hb dX4_end_18 rfl (lv_at hl 1 rfl) ?_
    refine q_aldA (n := sn z) (r := b (sL z + 2 * k + 5)) hx hb hE (hQ 3 _ rfl) (by omega) (by omega) dX4_end_19 (rfF_lt (by omega)) ?_
    refine lv_iconst (v := nI 2) hx hb dX4_end_20 (by decide) ?_
    refine q_iald (v := nI (sdl z k)) hx hb hE (hQ _ _ (wS_h (by omega))) (by omega) (by omega) dX4_end_21 rfl ?_
    refine lv_aload_n hx hb dX4_end_22 rfl (lv_at hl 0 rfl) ?_
    refine q_roV (As := []) (rest := [.int (nI (sdl z k))]) ⟨hx, hb, hml, hown, hts⟩ (c_X4_length hV) (cwV 0 hts gX4_end_X4_length rfl rfl rfl (by decide +kernel) ⟨Nat.le_of_ble_eq_true rfl, Nat.le_of_ble_eq_true rfl⟩) hE hA hQ (va_recv hE.K hQ (ci := 5) (q0 := 0) rfl rfl) rfl hl.1 rfl (Nat.le_of_ble_eq_true rfl) dX4_end_23 ⟨Nat.zero_le _, Nat.zero_le _⟩ ?_
    refine lv_aload_n hx hb dX4_end_26 rfl (lv_at hl 0 rfl) ?_
    refine va_get (v := .ref (b 4)) (C := RX4) (T := TX4) (N := 4) hx hb hts (q_sub wsX40 9 rfl) hown hE.K hQ 0 rfl rfl 2 (by decide) (hts _ (List.mem_of_getElem? (i := 1) rfl)) (fun _ h9 => h9) rfl dX4_end_27 ?_
    refine lv_iload_n hx hb dX4_end_30 rfl (lv_at hl 1 rfl) ?_
    refine q_aldA (n := sn z) (r := b (sL z + 2 * k + 6)) hx hb hE (hQ 4 _ rfl) (by omega) (by omega) dX4_end_31 (rfF_lt (by omega)) ?_
    refine q_alen (v := nI (ssd z k)) hx hb hE (hQ _ _ (wS_w (by omega))) dX4_end_32 rfl ?_
    refine q_imul (v := nI ((sL z) * (ssd z k))) hx hb dX4_end_33 (pk_mul _ _) ?_
    refine q_iadd (v := nI (sdl z k + (sL z) * (ssd z k))) hx hb dX4_end_34 (nI_add _ _) ?_
    exact q_iret hx hb hr hlocks dX4_end_35 (by rw [endF, if_neg (by omega), Nat.add_comm, Nat.mul_comm])
  · refine lv_iconst (v := nI 0) hx hb dX4_end_10 (by decide) ?_
    refine lv_goto (tgt := 35) hx hb dX4_end_11 (by decide) ?_
    exact q_iret hx hb hr hlocks dX4_end_35 (by rw [endF, if_pos c_1])
set_option maxHeartbeats 4000000 in
set_option maxRecDepth 100000 in
theorem c_X4_end_ {l : Launch} {g : gT} {b : Nat → Nat} {z : sT} (hV : VS z) : RO l yX4_end_ wsX4_end_ ({ frames := 2, cells := 0, slots := 0, locals := 41 } : Room) [.ref (b 0)] g (fun H => va_P g.1 vwCl (wS g b z) H) (some (.int (nI (endA z (sn z))))) := by
  refine RO.of (cc := cX4_end_) (maxL := 3) (ret := (some .int)) (by decide) rfl (Nat.le_of_ble_eq_true rfl) ?_
  intro p e s m below meth c hx hb hml hr hlocks hown hts hE hF ls hl
  have hown : s.vm.findClass RX4 = some m.cls := hown
  have hA : ∀ q, s.heap.size ≤ q → q_n s.heap q := fun _ h => h
  have hQ := hF
  have hl : lv_has ls 3 [(0, .ref (b 0))] := hl
  have hL := hV.L
  have hn := hV.n
  refine lv_iconst (v := nI 0) hx hb dX4_end__0 (by decide) ?_
  refine lv_istore_n (lv' := [(1, .int (nI 0)), (0, .ref (b 0))]) hx hb dX4_end__1 rfl hl (by decide) rfl (fun ls hl => ?_)
  refine lv_iconst (v := nI 0) hx hb dX4_end__2 (by decide) ?_
  refine lv_istore_n (lv' := [(2, .int (nI 0)), (1, .int (nI 0)), (0, .ref (b 0))]) hx hb dX4_end__3 rfl hl (by decide) rfl (fun ls hl => ?_)
  have lp_4 : ∀ (n_ i : Nat) , i ≤ sn z → sn z + 1 ≤ i + n_ → ∀ (ls : Array Slot), lv_has ls 3 [(2, .int (nI i)), (1, .int (nI (endA z i))), (0, .ref (b 0))] → W p l e ({ frames := 2, cells := 0, slots := 0, locals := 41 } : Room) s m ([.ref (b 0)] : List Value).toArray below meth c s.heap [] 0 0 (MQ below (q_Q (some (.int (nI (endA z (sn z)))))) ([.ref (b 0)] : List Value).toArray s 0 0 (fun _ => False)) (F0 m 4 ls []) := by
    intro n_
    induction n_ with
    | zero => intro i  hi_ hn_; exact absurd hn_ (by omega)
    | succ n_ ih_4 =>
      intro i  hi_i hn_i  ls hl
      refine lv_iload_n hx hb dX4_end__4 rfl (lv_at hl 0 rfl) ?_
      refine lv_aload_n hx hb dX4_end__5 rfl (lv_at hl 2 rfl) ?_
      refine va_get (v := .ref (b 3)) (C := RX4) (T := TX4) (N := 4) hx hb hts (q_sub wsX40 17 rfl) hown hE.K hQ 0 rfl rfl 1 (by decide) (hts _ (List.mem_of_getElem? (i := 1) rfl)) (fun _ h9 => h9) rfl dX4_end__6 ?_
      refine q_alenA (v := nI (sn z)) hx hb hE (hQ 3 _ rfl) dX4_end__9 rfl ?_
      refine q_icmp_ge (tgt := 29) hx hb (by omega) (by omega) dX4_end__10 (by decide) (fun c_1 => ?_) (fun c_1 => ?_)
      · refine lv_iload_n hx hb dX4_end__29 rfl (lv_at hl 1 rfl) ?_
        exact q_iret hx hb hr hlocks dX4_end__30 (by rw [show i = sn z by omega])
      · refine lv_iload_n hx hb dX4_end__13 rfl (lv_at hl 1 rfl) ?_
        refine lv_aload_n hx hb dX4_end__14 rfl (lv_at hl 2 rfl) ?_
        refine lv_iload_n hx hb dX4_end__15 rfl (lv_at hl 0 rfl) ?_
        refine q_roV (As := [.int (nI i)]) (rest := [.int (nI (endA z i))]) ⟨hx, hb, hml, hown, hts⟩ (c_X4_end hV (k := i) c_1) (cwV 1 hts gX4_end__X4_end rfl rfl rfl (by decide +kernel) ⟨Nat.le_of_ble_eq_true rfl, Nat.le_of_ble_eq_true rfl⟩) hE hA hQ (va_recv hE.K hQ (ci := 5) (q0 := 0) rfl rfl) rfl hl.1 rfl (Nat.le_of_ble_eq_true rfl) dX4_end__16 ⟨Nat.zero_le _, Nat.zero_le _⟩ ?_
        refine q_mmax (v := nI (endA z (i + 1))) hx hb (hml.trans hl.1.symm) hown (hts _ (List.mem_of_getElem? (i := 2) rfl)) (hts _ (List.mem_of_getElem? (i := 3) rfl)) (hts _ (List.mem_of_getElem? (i := 4) rfl)) (hts _ (List.mem_of_getElem? (i := 5) rfl)) (Nat.le_of_ble_eq_true rfl) (Nat.le_of_ble_eq_true rfl) (Nat.zero_le _) (Nat.zero_le _) dX4_end__19 (q_maxN (by have := endA_le hV (show i ≤ sn z by omega); omega) (by have := endF_le hV c_1; omega)) ?_
        refine lv_istore_n (lv' := [(1, .int (nI (endA z (i + 1)))), (2, .int (nI i)), (0, .ref (b 0))]) hx hb dX4_end__22 rfl hl (by decide) rfl (fun ls hl => ?_)
        refine lv_iinc (v := nI (i + 1)) (lv' := [(2, .int (nI (i + 1))), (1, .int (nI (endA z (i + 1)))), (0, .ref (b 0))]) hx hb dX4_end__23 hl (k := 1) rfl (nI_1 _) (by decide) rfl (fun ls hl => ?_)
        refine lv_goto (tgt := 4) hx hb dX4_end__26 (by decide) ?_
        exact ih_4 (i + 1)  (by omega) (by omega)  _ (lv_sub hl [0, 1, 2] rfl)
  exact lp_4 (sn z + 1) 0  (Nat.zero_le _) (by omega)  _ (lv_sub hl [0, 1, 2] rfl)
set_option maxHeartbeats 4000000 in
set_option maxRecDepth 100000 in
theorem c_X4_hear {l : Launch} {g : gT} {b : Nat → Nat} {z : sT} (hV : VS z) {y0 : Nat} {K : Nat → Int32} {a t : Nat} (ha : a < sL z) (ht : t < 1004) : RO l yX4_hear wsX4_hear ({ frames := 1, cells := 0, slots := 0, locals := 20 } : Room) [.ref (b 0), .ref y0, .int (nI a), .int (nI t)] g (fun H => va_P g.1 vwCl (wS g b z) H ∧ va_at g.1 vwCl (y0, ints g 1020 K) H) (some (.int (hearF (sL z) K a t))) := by
  refine RO.of (cc := cX4_hear) (maxL := 6) (ret := (some .int)) (by decide) rfl (Nat.le_of_ble_eq_true rfl) ?_
  intro p e s m below meth c hx hb hml hr hlocks hown hts hE hF ls hl
  have hown : s.vm.findClass RX4 = some m.cls := hown
  have hA : ∀ q, s.heap.size ≤ q → q_n s.heap q := fun _ h => h
  obtain ⟨hQ, h_y⟩ := hF
  have hl : lv_has ls 6 [(0, .ref (b 0)), (1, .ref y0), (2, .int (nI a)), (3, .int (nI t))] := hl
  have hL := hV.L
  have hn := hV.n
  refine lv_iconst (v := nI 0) hx hb dX4_hear_0 (by decide) ?_
  refine lv_istore (lv' := [(4, .int (nI 0)), (0, .ref (b 0)), (1, .ref y0), (2, .int (nI a)), (3, .int (nI t))]) hx hb dX4_hear_1 hl (by decide) rfl (fun ls hl => ?_)
  refine lv_iconst (v := nI 0) hx hb dX4_hear_3 (by decide) ?_
  refine lv_istore (lv' := [(5, .int (nI 0)), (4, .int (nI 0)), (0, .ref (b 0)), (1, .ref y0), (2, .int (nI a)), (3, .int (nI t))]) hx hb dX4_hear_4 hl (by decide) rfl (fun ls hl => ?_)
  have lp_6 : ∀ (n_ i : Nat) , i ≤ sL z → sL z + 1 ≤ i + n_ → ∀ (ls : Array Slot), lv_has ls 6 [(5, .int (nI i)), (4, .int (sumI (fun k => K (t + k) * chip a k) i)), (0, .ref (b 0)), (1, .ref y0), (2, .int (nI a)), (3, .int (nI t))] → W p l e ({ frames := 1, cells := 0, slots := 0, locals := 20 } : Room) s m ([.ref (b 0), .ref y0, .int (nI a), .int (nI t)] : List Value).toArray below meth c s.heap [] 0 0 (MQ below (q_Q (some (.int (hearF (sL z) K a t)))) ([.ref (b 0), .ref y0, .int (nI a), .int (nI t)] : List Value).toArray s 0 0 (fun _ => False)) (F0 m 6 ls []) := by
    intro n_
    induction n_ with
    | zero => intro i  hi_ hn_; exact absurd hn_ (by omega)
    | succ n_ ih_6 =>
      intro i  hi_i hn_i  ls hl
      refine lv_iload hx hb dX4_hear_6 (lv_at hl 0 rfl) ?_
      refine lv_aload_n hx hb dX4_hear_8 rfl (lv_at hl 2 rfl) ?_
      refine q_roV (As := []) (rest := [.int (nI i)]) ⟨hx, hb, hml, hown, hts⟩ (c_X4_length hV) (cwV 0 hts gX4_hear_X4_length rfl rfl rfl (by decide +kernel) ⟨Nat.le_of_ble_eq_true rfl, Nat.le_of_ble_eq_true rfl⟩) hE hA hQ (va_recv hE.K hQ (ci := 5) (q0 := 0) rfl rfl) rfl hl.1 rfl (Nat.le_of_ble_eq_true rfl) dX4_hear_9 ⟨Nat.zero_le _, Nat.zero_le _⟩ ?_
      refine q_icmp_ge (tgt := 54) hx hb (by omega) (by omega) dX4_hear_12 (by decide) (fun c_1 => ?_) (fun c_1 => ?_)
      · refine lv_iload hx hb dX4_hear_54 (lv_at hl 1 rfl) ?_
        exact q_iret hx hb hr hlocks dX4_hear_56 (by rw [show i = sL z by omega]; rfl)
      · refine lv_iload hx hb dX4_hear_15 (lv_at hl 1 rfl) ?_
        refine lv_aload_n hx hb dX4_hear_17 rfl (lv_at hl 2 rfl) ?_
        refine va_get (v := .ref (b 2)) (C := RX4) (T := TX4) (N := 4) hx hb hts (q_sub wsX40 7 rfl) hown hE.K hQ 0 rfl rfl 0 (by decide) (hts _ (List.mem_of_getElem? (i := 1) rfl)) (fun _ h9 => h9) rfl dX4_hear_18 ?_
        refine lv_iload_n hx hb dX4_hear_21 rfl (lv_at hl 4 rfl) ?_
        refine q_aldA (n := sL z) (r := b (a + 5)) hx hb hE (hQ 2 _ rfl) (by omega) (by omega) dX4_hear_22 (rfF_lt (by omega)) ?_
        refine lv_iload hx hb dX4_hear_23 (lv_at hl 0 rfl) ?_
        refine q_iald (v := (chip a) i) hx hb hE (hQ _ _ (wS_c (by omega))) (by omega) (by omega) dX4_hear_25 rfl ?_
        refine lv_if_le (tgt := 38) hx hb dX4_hear_26 (by decide) (fun c_2 => ?_) (fun c_2 => ?_)
        · refine lv_aload_n hx hb dX4_hear_38 rfl (lv_at hl 3 rfl) ?_
          refine lv_iload_n hx hb dX4_hear_39 rfl (lv_at hl 5 rfl) ?_
          refine lv_iload hx hb dX4_hear_40 (lv_at hl 0 rfl) ?_
          refine q_iadd (v := nI (t + i)) hx hb dX4_hear_42 (nI_add _ _) ?_
          refine q_iald (v := K (t + i)) hx hb hE h_y (by omega) (by omega) dX4_hear_43 rfl ?_
          refine q_ineg (v := K (t + i) * chip a i) hx hb dX4_hear_44 (hear_n (Int32.not_lt.mpr c_2)) ?_
          refine q_iadd (v := sumI (fun k => K (t + k) * chip a k) (i + 1)) hx hb dX4_hear_45 rfl ?_
          refine lv_istore (lv' := [(4, .int (sumI (fun k => K (t + k) * chip a k) (i + 1))), (5, .int (nI i)), (0, .ref (b 0)), (1, .ref y0), (2, .int (nI a)), (3, .int (nI t))]) hx hb dX4_hear_46 hl (by decide) rfl (fun ls hl => ?_)
          refine lv_iinc (v := nI (i + 1)) (lv' := [(5, .int (nI (i + 1))), (4, .int (sumI (fun k => K (t + k) * chip a k) (i + 1))), (0, .ref (b 0)), (1, .ref y0), (2, .int (nI a)), (3, .int (nI t))]) hx hb dX4_hear_48 hl (k := 1) rfl (nI_1 _) (by decide) rfl (fun ls hl => ?_)
          refine lv_goto (tgt := 6) hx hb dX4_hear_51 (by decide) ?_
          exact ih_6 (i + 1)  (by omega) (by omega)  _ (lv_sub hl [0, 1, 2, 3, 4, 5] rfl)
        · refine lv_aload_n hx hb dX4_hear_29 rfl (lv_at hl 3 rfl) ?_
          refine lv_iload_n hx hb dX4_hear_30 rfl (lv_at hl 5 rfl) ?_
          refine lv_iload hx hb dX4_hear_31 (lv_at hl 0 rfl) ?_
          refine q_iadd (v := nI (t + i)) hx hb dX4_hear_33 (nI_add _ _) ?_
          refine q_iald (v := K (t + i) * chip a i) hx hb hE h_y (by omega) (by omega) dX4_hear_34 (hear_p (Int32.not_le.mp c_2)) ?_
          refine lv_goto (tgt := 45) hx hb dX4_hear_35 (by decide) ?_
          refine q_iadd (v := sumI (fun k => K (t + k) * chip a k) (i + 1)) hx hb dX4_hear_45 rfl ?_
          refine lv_istore (lv' := [(4, .int (sumI (fun k => K (t + k) * chip a k) (i + 1))), (5, .int (nI i)), (0, .ref (b 0)), (1, .ref y0), (2, .int (nI a)), (3, .int (nI t))]) hx hb dX4_hear_46 hl (by decide) rfl (fun ls hl => ?_)
          refine lv_iinc (v := nI (i + 1)) (lv' := [(5, .int (nI (i + 1))), (4, .int (sumI (fun k => K (t + k) * chip a k) (i + 1))), (0, .ref (b 0)), (1, .ref y0), (2, .int (nI a)), (3, .int (nI t))]) hx hb dX4_hear_48 hl (k := 1) rfl (nI_1 _) (by decide) rfl (fun ls hl => ?_)
          refine lv_goto (tgt := 6) hx hb dX4_hear_51 (by decide) ?_
          exact ih_6 (i + 1)  (by omega) (by omega)  _ (lv_sub hl [0, 1, 2, 3, 4, 5] rfl)
  exact lp_6 (sL z + 1) 0  (Nat.zero_le _) (by omega)  _ (lv_sub hl [0, 1, 2, 3, 4, 5] rfl)
set_option maxHeartbeats 4000000 in
set_option maxRecDepth 100000 in
theorem c_X4_heard {l : Launch} {g : gT} {b : Nat → Nat} {z : sT} (hV : VS z) {k : Nat} (hk_ : k < sn z) {y0 w : Nat} {K : Nat → Int32} (hw_ : w < 12) : RO l yX4_heard wsX4_heard ({ frames := 2, cells := 0, slots := 0, locals := 45 } : Room) [.ref (b 0), .ref y0, .int (nI k), .int (nI w)] g (fun H => va_P g.1 vwCl (wS g b z) H ∧ va_at g.1 vwCl (y0, ints g 1020 K) H) (some (.int (hearF (sL z) K (scd z k) (w * sL z + sdl z k)))) := by
  refine RO.of (cc := cX4_heard) (maxL := 4) (ret := (some .int)) (by decide) rfl (Nat.le_of_ble_eq_true rfl) ?_
  intro p e s m below meth c hx hb hml hr hlocks hown hts hE hF ls hl
  have hown : s.vm.findClass RX4 = some m.cls := hown
  have hA : ∀ q, s.heap.size ≤ q → q_n s.heap q := fun _ h => h
  obtain ⟨hQ, h_y⟩ := hF
  have hl : lv_has ls 4 [(0, .ref (b 0)), (1, .ref y0), (2, .int (nI k)), (3, .int (nI w))] := hl
  have hL := hV.L
  have hn := hV.n
  have hb_ := hV.h hk_
  have hd_ := hV.hL hk_
  refine lv_aload_n hx hb dX4_heard_0 rfl (lv_at hl 0 rfl) ?_
  refine lv_aload_n hx hb dX4_heard_1 rfl (lv_at hl 1 rfl) ?_
  refine lv_aload_n hx hb dX4_heard_2 rfl (lv_at hl 0 rfl) ?_
  refine va_get (v := .ref (b 3)) (C := RX4) (T := TX4) (N := 4) hx hb hts (q_sub wsX40 12 rfl) hown hE.K hQ 0 rfl rfl 1 (by decide) (hts _ (List.mem_of_getElem? (i := 1) rfl)) (fun _ h9 => h9) rfl dX4_heard_3 ?_
  refine lv_iload_n hx hb dX4_heard_6 rfl (lv_at hl 2 rfl) ?_
  refine q_aldA (n := sn z) (r := b (sL z + 2 * k + 5)) hx hb hE (hQ 3 _ rfl) (by omega) (by omega) dX4_heard_7 (rfF_lt (by omega)) ?_
  refine lv_iconst (v := nI 0) hx hb dX4_heard_8 (by decide) ?_
  refine q_iald (v := nI (scd z k)) hx hb hE (hQ _ _ (wS_h (by omega))) (by omega) (by omega) dX4_heard_9 rfl ?_
  refine lv_aload_n hx hb dX4_heard_10 rfl (lv_at hl 0 rfl) ?_
  refine va_get (v := .ref (b 3)) (C := RX4) (T := TX4) (N := 4) hx hb hts (q_sub wsX40 12 rfl) hown hE.K hQ 0 rfl rfl 1 (by decide) (hts _ (List.mem_of_getElem? (i := 1) rfl)) (fun _ h9 => h9) rfl dX4_heard_11 ?_
  refine lv_iload_n hx hb dX4_heard_14 rfl (lv_at hl 2 rfl) ?_
  refine q_aldA (n := sn z) (r := b (sL z + 2 * k + 5)) hx hb hE (hQ 3 _ rfl) (by omega) (by omega) dX4_heard_15 (rfF_lt (by omega)) ?_
  refine lv_iconst (v := nI 2) hx hb dX4_heard_16 (by decide) ?_
  refine q_iald (v := nI (sdl z k)) hx hb hE (hQ _ _ (wS_h (by omega))) (by omega) (by omega) dX4_heard_17 rfl ?_
  refine lv_iload_n hx hb dX4_heard_18 rfl (lv_at hl 3 rfl) ?_
  refine lv_aload_n hx hb dX4_heard_19 rfl (lv_at hl 0 rfl) ?_
  refine q_roV (As := []) (rest := [.int (nI w), .int (nI (sdl z k)), .int (nI (scd z k)), .ref y0, .ref (b 0)]) ⟨hx, hb, hml, hown, hts⟩ (c_X4_length hV) (cwV 0 hts gX4_heard_X4_length rfl rfl rfl (by decide +kernel) ⟨Nat.le_of_ble_eq_true rfl, Nat.le_of_ble_eq_true rfl⟩) hE hA hQ (va_recv hE.K hQ (ci := 5) (q0 := 0) rfl rfl) rfl hl.1 rfl (Nat.le_of_ble_eq_true rfl) dX4_heard_20 ⟨Nat.zero_le _, Nat.zero_le _⟩ ?_
  refine q_imul (v := nI (w * (sL z))) hx hb dX4_heard_23 (pk_mul _ _) ?_
  refine q_iadd (v := nI (w * sL z + sdl z k)) hx hb dX4_heard_24 (by rw [Nat.add_comm]; exact nI_add _ _) ?_
  refine q_roV (As := [.ref y0, .int (nI (scd z k)), .int (nI (w * sL z + sdl z k))]) (rest := []) ⟨hx, hb, hml, hown, hts⟩ (c_X4_hear hV (y0 := y0) (K := K) (a := scd z k) (t := w * sL z + sdl z k) hd_.1 (by have := mul16 (a := w) hL.2; omega)) (cwV 3 hts gX4_heard_X4_hear rfl rfl rfl (by decide +kernel) ⟨Nat.le_of_ble_eq_true rfl, Nat.le_of_ble_eq_true rfl⟩) hE hA ⟨hQ, h_y⟩ (va_recv hE.K hQ (ci := 5) (q0 := 0) rfl rfl) rfl hl.1 rfl (Nat.le_of_ble_eq_true rfl) dX4_heard_25 ⟨Nat.zero_le _, Nat.zero_le _⟩ ?_
  exact q_iret hx hb hr hlocks dX4_heard_28 rfl
set_option maxHeartbeats 4000000 in
set_option maxRecDepth 100000 in
theorem c_X4_wrong {l : Launch} {g : gT} {b : Nat → Nat} {z : sT} (hV : VS z) {k : Nat} (hk_ : k < sn z) {y0 : Nat} {K : Nat → Int32} : RO l yX4_wrong wsX4_wrong ({ frames := 3, cells := 0, slots := 0, locals := 68 } : Room) [.ref (b 0), .ref y0, .int (nI k)] g (fun H => va_P g.1 vwCl (wS g b z) H ∧ va_at g.1 vwCl (y0, ints g 1020 K) H) (some (.int (nI (wrF (sL z) K (scd z k) (sdl z k) (swd z k) (ssd z k))))) := by
  refine RO.of (cc := cX4_wrong) (maxL := 5) (ret := (some .int)) (by decide) rfl (Nat.le_of_ble_eq_true rfl) ?_
  intro p e s m below meth c hx hb hml hr hlocks hown hts hE hF ls hl
  have hown : s.vm.findClass RX4 = some m.cls := hown
  have hA : ∀ q, s.heap.size ≤ q → q_n s.heap q := fun _ h => h
  obtain ⟨hQ, h_y⟩ := hF
  have hl : lv_has ls 5 [(0, .ref (b 0)), (1, .ref y0), (2, .int (nI k))] := hl
  have hL := hV.L
  have hn := hV.n
  have hb_ := hV.h hk_
  have hd_ := hV.hL hk_
  refine lv_iconst (v := nI 0) hx hb dX4_wrong_0 (by decide) ?_
  refine lv_istore_n (lv' := [(3, .int (nI 0)), (0, .ref (b 0)), (1, .ref y0), (2, .int (nI k))]) hx hb dX4_wrong_1 rfl hl (by decide) rfl (fun ls hl => ?_)
  refine lv_iconst (v := nI 0) hx hb dX4_wrong_2 (by decide) ?_
  refine lv_istore (lv' := [(4, .int (nI 0)), (3, .int (nI 0)), (0, .ref (b 0)), (1, .ref y0), (2, .int (nI k))]) hx hb dX4_wrong_3 hl (by decide) rfl (fun ls hl => ?_)
  have lp_5 : ∀ (n_ i : Nat) , i ≤ ssd z k → ssd z k + 1 ≤ i + n_ → ∀ (ls : Array Slot), lv_has ls 5 [(4, .int (nI i)), (3, .int (nI (wrF (sL z) K (scd z k) (sdl z k) (swd z k) i))), (0, .ref (b 0)), (1, .ref y0), (2, .int (nI k))] → W p l e ({ frames := 3, cells := 0, slots := 0, locals := 68 } : Room) s m ([.ref (b 0), .ref y0, .int (nI k)] : List Value).toArray below meth c s.heap [] 0 0 (MQ below (q_Q (some (.int (nI (wrF (sL z) K (scd z k) (sdl z k) (swd z k) (ssd z k)))))) ([.ref (b 0), .ref y0, .int (nI k)] : List Value).toArray s 0 0 (fun _ => False)) (F0 m 5 ls []) := by
    intro n_
    induction n_ with
    | zero => intro i  hi_ hn_; exact absurd hn_ (by omega)
    | succ n_ ih_5 =>
      intro i  hi_i hn_i  ls hl
      refine lv_iload hx hb dX4_wrong_5 (lv_at hl 0 rfl) ?_
      refine lv_aload_n hx hb dX4_wrong_7 rfl (lv_at hl 2 rfl) ?_
      refine va_get (v := .ref (b 4)) (C := RX4) (T := TX4) (N := 4) hx hb hts (q_sub wsX40 17 rfl) hown hE.K hQ 0 rfl rfl 2 (by decide) (hts _ (List.mem_of_getElem? (i := 1) rfl)) (fun _ h9 => h9) rfl dX4_wrong_8 ?_
      refine lv_iload_n hx hb dX4_wrong_11 rfl (lv_at hl 4 rfl) ?_
      refine q_aldA (n := sn z) (r := b (sL z + 2 * k + 6)) hx hb hE (hQ 4 _ rfl) (by omega) (by omega) dX4_wrong_12 (rfF_lt (by omega)) ?_
      refine q_alen (v := nI (ssd z k)) hx hb hE (hQ _ _ (wS_w (by omega))) dX4_wrong_13 rfl ?_
      refine q_icmp_ge (tgt := 52) hx hb (by omega) (by omega) dX4_wrong_14 (by decide) (fun c_1 => ?_) (fun c_1 => ?_)
      · refine lv_iload_n hx hb dX4_wrong_52 rfl (lv_at hl 1 rfl) ?_
        exact q_iret hx hb hr hlocks dX4_wrong_53 (by rw [show i = ssd z k by omega])
      · refine lv_iload_n hx hb dX4_wrong_17 rfl (lv_at hl 1 rfl) ?_
        refine lv_aload_n hx hb dX4_wrong_18 rfl (lv_at hl 2 rfl) ?_
        refine va_get (v := .ref (b 4)) (C := RX4) (T := TX4) (N := 4) hx hb hts (q_sub wsX40 17 rfl) hown hE.K hQ 0 rfl rfl 2 (by decide) (hts _ (List.mem_of_getElem? (i := 1) rfl)) (fun _ h9 => h9) rfl dX4_wrong_19 ?_
        refine lv_iload_n hx hb dX4_wrong_22 rfl (lv_at hl 4 rfl) ?_
        refine q_aldA (n := sn z) (r := b (sL z + 2 * k + 6)) hx hb hE (hQ 4 _ rfl) (by omega) (by omega) dX4_wrong_23 (rfF_lt (by omega)) ?_
        refine lv_iload hx hb dX4_wrong_24 (lv_at hl 0 rfl) ?_
        refine q_iald (v := (swd z k) i) hx hb hE (hQ _ _ (wS_w (by omega))) (by omega) (by omega) dX4_wrong_26 rfl ?_
        refine lv_aload_n hx hb dX4_wrong_27 rfl (lv_at hl 2 rfl) ?_
        refine lv_aload_n hx hb dX4_wrong_28 rfl (lv_at hl 3 rfl) ?_
        refine lv_iload_n hx hb dX4_wrong_29 rfl (lv_at hl 4 rfl) ?_
        refine lv_iload hx hb dX4_wrong_30 (lv_at hl 0 rfl) ?_
        refine q_roV (As := [.ref y0, .int (nI k), .int (nI i)]) (rest := [.int ((swd z k) i), .int (nI (wrF (sL z) K (scd z k) (sdl z k) (swd z k) i))]) ⟨hx, hb, hml, hown, hts⟩ (c_X4_heard hV hk_ (y0 := y0) (K := K) (w := i) (by omega)) (cwV 3 hts gX4_wrong_X4_heard rfl rfl rfl (by decide +kernel) ⟨Nat.le_of_ble_eq_true rfl, Nat.le_of_ble_eq_true rfl⟩) hE hA ⟨hQ, h_y⟩ (va_recv hE.K hQ (ci := 5) (q0 := 0) rfl rfl) rfl hl.1 rfl (Nat.le_of_ble_eq_true rfl) dX4_wrong_32 ⟨Nat.zero_le _, Nat.zero_le _⟩ ?_
        refine q_imul (v := ((swd z k) i) * (hearF (sL z) K (scd z k) (i * sL z + sdl z k))) hx hb dX4_wrong_35 rfl ?_
        refine lv_if_le (tgt := 43) hx hb dX4_wrong_36 (by decide) (fun c_2 => ?_) (fun c_2 => ?_)
        · have e9 : nI (wrF (sL z) K (scd z k) (sdl z k) (swd z k) i) + nI 1 = nI (wrF (sL z) K (scd z k) (sdl z k) (swd z k) (i + 1)) := by rw [nI_add]; exact congrArg nI (show _ = sumN _ i + wrC _ _ by rw [wrC_n (Int32.not_lt.mpr c_2)]; rfl)
          refine lv_iconst (v := nI 1) hx hb dX4_wrong_43 (by decide) ?_
          refine q_iadd (v := nI (wrF (sL z) K (scd z k) (sdl z k) (swd z k) (i + 1))) hx hb dX4_wrong_44 e9 ?_
          refine lv_istore_n (lv' := [(3, .int (nI (wrF (sL z) K (scd z k) (sdl z k) (swd z k) (i + 1)))), (4, .int (nI i)), (0, .ref (b 0)), (1, .ref y0), (2, .int (nI k))]) hx hb dX4_wrong_45 rfl hl (by decide) rfl (fun ls hl => ?_)
          refine lv_iinc (v := nI (i + 1)) (lv' := [(4, .int (nI (i + 1))), (3, .int (nI (wrF (sL z) K (scd z k) (sdl z k) (swd z k) (i + 1)))), (0, .ref (b 0)), (1, .ref y0), (2, .int (nI k))]) hx hb dX4_wrong_46 hl (k := 1) rfl (nI_1 _) (by decide) rfl (fun ls hl => ?_)
          refine lv_goto (tgt := 5) hx hb dX4_wrong_49 (by decide) ?_
          exact ih_5 (i + 1)  (by omega) (by omega)  _ (lv_sub hl [0, 1, 2, 3, 4] rfl)
        · have e9 : nI (wrF (sL z) K (scd z k) (sdl z k) (swd z k) i) + nI 0 = nI (wrF (sL z) K (scd z k) (sdl z k) (swd z k) (i + 1)) := by rw [nI_add]; exact congrArg nI (show _ = sumN _ i + wrC _ _ by rw [wrC_p (Int32.not_le.mp c_2)]; rfl)
          refine lv_iconst (v := nI 0) hx hb dX4_wrong_39 (by decide) ?_
          refine lv_goto (tgt := 44) hx hb dX4_wrong_40 (by decide) ?_
          refine q_iadd (v := nI (wrF (sL z) K (scd z k) (sdl z k) (swd z k) (i + 1))) hx hb dX4_wrong_44 e9 ?_
          refine lv_istore_n (lv' := [(3, .int (nI (wrF (sL z) K (scd z k) (sdl z k) (swd z k) (i + 1)))), (4, .int (nI i)), (0, .ref (b 0)), (1, .ref y0), (2, .int (nI k))]) hx hb dX4_wrong_45 rfl hl (by decide) rfl (fun ls hl => ?_)
          refine lv_iinc (v := nI (i + 1)) (lv' := [(4, .int (nI (i + 1))), (3, .int (nI (wrF (sL z) K (scd z k) (sdl z k) (swd z k) (i + 1)))), (0, .ref (b 0)), (1, .ref y0), (2, .int (nI k))]) hx hb dX4_wrong_46 hl (k := 1) rfl (nI_1 _) (by decide) rfl (fun ls hl => ?_)
          refine lv_goto (tgt := 5) hx hb dX4_wrong_49 (by decide) ?_
          exact ih_5 (i + 1)  (by omega) (by omega)  _ (lv_sub hl [0, 1, 2, 3, 4] rfl)
  exact lp_5 (ssd z k + 1) 0  (Nat.zero_le _) (by omega)  _ (lv_sub hl [0, 1, 2, 3, 4] rfl)
set_option maxHeartbeats 4000000 in
set_option maxRecDepth 100000 in
theorem c_X4_isTaken {l : Launch} {g : gT} {b : Nat → Nat} {z : sT} (hV : VS z) {a : Nat} (ha : a < 2147483648) : RO l yX4_isTaken wsX4_isTaken ({ frames := 0, cells := 0, slots := 0, locals := 0 } : Room) [.ref (b 0), .int (nI a)] g (fun H => va_P g.1 vwCl (wS g b z) H) (some (.int (bI (takB z a (sn z) = true)))) := by
  refine RO.of (cc := cX4_isTaken) (maxL := 6) (ret := (some .boolean)) (by decide) rfl (Nat.le_of_ble_eq_true rfl) ?_
  intro p e s m below meth c hx hb hml hr hlocks hown hts hE hF ls hl
  have hown : s.vm.findClass RX4 = some m.cls := hown
  have hA : ∀ q, s.heap.size ≤ q → q_n s.heap q := fun _ h => h
  have hQ := hF
  have hl : lv_has ls 6 [(0, .ref (b 0)), (1, .int (nI a))] := hl
  have hL := hV.L
  have hn := hV.n
  refine lv_aload_n hx hb dX4_isTaken_0 rfl (lv_at hl 0 rfl) ?_
  refine va_get (v := .ref (b 3)) (C := RX4) (T := TX4) (N := 4) hx hb hts (q_sub wsX40 2 rfl) hown hE.K hQ 0 rfl rfl 1 (by decide) (hts _ (List.mem_of_getElem? (i := 1) rfl)) (fun _ h9 => h9) rfl dX4_isTaken_1 ?_
  refine lv_astore_n (lv' := [(2, .ref (b 3)), (0, .ref (b 0)), (1, .int (nI a))]) hx hb dX4_isTaken_4 rfl hl (by decide) rfl (fun ls hl => ?_)
  refine lv_aload_n hx hb dX4_isTaken_5 rfl (lv_at hl 0 rfl) ?_
  refine q_alenA (v := nI (sn z)) hx hb hE (hQ 3 _ rfl) dX4_isTaken_6 rfl ?_
  refine lv_istore_n (lv' := [(3, .int (nI (sn z))), (2, .ref (b 3)), (0, .ref (b 0)), (1, .int (nI a))]) hx hb dX4_isTaken_7 rfl hl (by decide) rfl (fun ls hl => ?_)
  refine lv_iconst (v := nI 0) hx hb dX4_isTaken_8 (by decide) ?_
  refine lv_istore (lv' := [(4, .int (nI 0)), (3, .int (nI (sn z))), (2, .ref (b 3)), (0, .ref (b 0)), (1, .int (nI a))]) hx hb dX4_isTaken_9 hl (by decide) rfl (fun ls hl => ?_)
  have lp_11 : ∀ (n_ i : Nat) , i ≤ sn z → sn z + 1 ≤ i + n_ → takB z a i = false → ∀ (ls : Array Slot), lv_has ls 6 [(4, .int (nI i)), (0, .ref (b 0)), (1, .int (nI a)), (2, .ref (b 3)), (3, .int (nI (sn z)))] → W p l e ({ frames := 0, cells := 0, slots := 0, locals := 0 } : Room) s m ([.ref (b 0), .int (nI a)] : List Value).toArray below meth c s.heap [] 0 0 (MQ below (q_Q (some (.int (bI (takB z a (sn z) = true))))) ([.ref (b 0), .int (nI a)] : List Value).toArray s 0 0 (fun _ => False)) (F0 m 11 ls []) := by
    intro n_
    induction n_ with
    | zero => intro i  hi_ hn_; exact absurd hn_ (by omega)
    | succ n_ ih_11 =>
      intro i  hi_i hn_i hf_ ls hl
      refine lv_iload hx hb dX4_isTaken_11 (lv_at hl 0 rfl) ?_
      refine lv_iload_n hx hb dX4_isTaken_13 rfl (lv_at hl 4 rfl) ?_
      refine q_icmp_ge (tgt := 39) hx hb (by omega) (by omega) dX4_isTaken_14 (by decide) (fun c_1 => ?_) (fun c_1 => ?_)
      · refine lv_iconst (v := nI 0) hx hb dX4_isTaken_39 (by decide) ?_
        exact q_zret hx hb hr hlocks dX4_isTaken_40 rfl (bI_f (by rw [← show i = sn z by omega, hf_]; decide))
      · have hb_ := hV.h c_1
        refine lv_aload_n hx hb dX4_isTaken_17 rfl (lv_at hl 3 rfl) ?_
        refine lv_iload hx hb dX4_isTaken_18 (lv_at hl 0 rfl) ?_
        refine q_aldA (n := sn z) (r := b (sL z + 2 * i + 5)) hx hb hE (hQ 3 _ rfl) (by omega) (by omega) dX4_isTaken_20 (rfF_lt (by omega)) ?_
        refine lv_astore (lv' := [(5, .ref (b (sL z + 2 * i + 5))), (4, .int (nI i)), (0, .ref (b 0)), (1, .int (nI a)), (2, .ref (b 3)), (3, .int (nI (sn z)))]) hx hb dX4_isTaken_21 hl (by decide) rfl (fun ls hl => ?_)
        refine lv_aload hx hb dX4_isTaken_23 (lv_at hl 0 rfl) ?_
        refine lv_iconst (v := nI 0) hx hb dX4_isTaken_25 (by decide) ?_
        refine q_iald (v := nI (scd z i)) hx hb hE (hQ _ _ (wS_h (by omega))) (by omega) (by omega) dX4_isTaken_26 rfl ?_
        refine lv_iload_n hx hb dX4_isTaken_27 rfl (lv_at hl 3 rfl) ?_
        refine q_icmp_ne (tgt := 33) hx hb (by omega) (by omega) dX4_isTaken_28 (by decide) (fun c_2 => ?_) (fun c_2 => ?_)
        · refine lv_iinc (v := nI (i + 1)) (lv' := [(4, .int (nI (i + 1))), (5, .ref (b (sL z + 2 * i + 5))), (0, .ref (b 0)), (1, .int (nI a)), (2, .ref (b 3)), (3, .int (nI (sn z)))]) hx hb dX4_isTaken_33 hl (k := 1) rfl (nI_1 _) (by decide) rfl (fun ls hl => ?_)
          refine lv_goto (tgt := 11) hx hb dX4_isTaken_36 (by decide) ?_
          exact ih_11 (i + 1)  (by omega) (by omega) (by rw [takB, hf_, Bool.false_or]; exact beq_false_of_ne c_2) _ (lv_sub hl [0, 2, 3, 4, 5] rfl)
        · refine lv_iconst (v := nI 1) hx hb dX4_isTaken_31 (by decide) ?_
          exact q_zret hx hb hr hlocks dX4_isTaken_32 rfl (bI_t (takB_t c_1 c_2))
  exact lp_11 (sn z + 1) 0  (Nat.zero_le _) (by omega) rfl _ (lv_sub hl [0, 3, 4, 2, 1] rfl)
