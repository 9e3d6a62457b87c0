/-! ===== Sky: what reads only ===== -/
set_option maxHeartbeats 4000000 in
set_option maxRecDepth 100000 in
theorem c_X2_at {l : Launch} {g : gT} {k0 st0 sg0 c0 : Nat} {sto sig : Nat → Int32} {t : Nat} (ht : t < 2147483000) : RO l yX2_at wsX2_at ({ frames := 0, cells := 0, slots := 0, locals := 0 } : Room) [.ref k0, .int (nI t)] g (fun H => va_at g.1 vwCl (k0, .inr (3, [.ref st0, .ref sg0, .ref c0])) H ∧ va_at g.1 vwCl (st0, .inl (gI g, 20, .inl sto)) H ∧ va_at g.1 vwCl (sg0, .inl (gI g, 207, .inl sig)) H) (some (.int (atF sto sig t))) := by
  refine RO.of (cc := cX2_at) (maxL := 3) (ret := (some .int)) (by decide) rfl (Nat.le_of_ble_eq_true rfl) ?_
  intro p e s m below meth c hx hb hml hr hlocks hown hts hE hF ls hl
  have hown : s.vm.findClass RX2 = some m.cls := hown
  have hA : ∀ q, s.heap.size ≤ q → q_n s.heap q := fun _ h => h
  obtain ⟨h_k, h_st, h_sg⟩ := hF
  have hl : lv_has ls 3 [(0, .ref k0), (1, .int (nI t))] := hl
  refine lv_iload_n hx hb dX2_at_0 rfl (lv_at hl 1 rfl) ?_
  refine q_if_ge (tgt := 6) hx hb (by omega) dX2_at_1 (by decide) ?_
  refine lv_aload_n hx hb dX2_at_6 rfl (lv_at hl 0 rfl) ?_
  refine va_get (v := .ref st0) (C := RX2) (T := TX2) (N := 3) hx hb hts (q_sub wsX20 3 rfl) hown hE.K (q_P1 h_k) 0 rfl rfl 0 (by decide) (hts _ (List.mem_of_getElem? (i := 1) rfl)) (fun _ h9 => h9) rfl dX2_at_7 ?_
  refine lv_iload_n hx hb dX2_at_10 rfl (lv_at hl 1 rfl) ?_
  refine lv_bipush (v := nI 20) hx hb dX2_at_11 (by decide) ?_
  refine q_irem (v := nI (t % 20)) hx hb dX2_at_13 (q_ne0 (by omega) (by omega)) (q_rem (by omega) (by omega) (by omega)) ?_
  refine q_iald (v := sto (t % 20)) hx hb hE h_st (by omega) (by omega) dX2_at_14 rfl ?_
  refine lv_istore_n (lv' := [(2, .int (sto (t % 20))), (0, .ref k0), (1, .int (nI t))]) hx hb dX2_at_15 rfl hl (by decide) rfl (fun ls hl => ?_)
  refine lv_iload_n hx hb dX2_at_16 rfl (lv_at hl 2 rfl) ?_
  refine lv_aload_n hx hb dX2_at_17 rfl (lv_at hl 1 rfl) ?_
  refine va_get (v := .ref sg0) (C := RX2) (T := TX2) (N := 3) hx hb hts (q_sub wsX20 3 rfl) hown hE.K (q_P1 h_k) 0 rfl rfl 1 (by decide) (hts _ (List.mem_of_getElem? (i := 2) rfl)) (fun _ h9 => h9) rfl dX2_at_18 ?_
  refine q_alen (v := nI 207) hx hb hE h_sg dX2_at_21 rfl ?_
  refine q_icmp_ge (tgt := 36) hx hb (by omega) (by omega) dX2_at_22 (by decide) (fun c_2 => ?_) (fun c_2 => ?_)
  · refine lv_iload_n hx hb dX2_at_36 rfl (lv_at hl 0 rfl) ?_
    exact q_iret hx hb hr hlocks dX2_at_37 (atF_hi (by omega))
  · refine lv_aload_n hx hb dX2_at_25 rfl (lv_at hl 1 rfl) ?_
    refine va_get (v := .ref sg0) (C := RX2) (T := TX2) (N := 3) hx hb hts (q_sub wsX20 3 rfl) hown hE.K (q_P1 h_k) 0 rfl rfl 1 (by decide) (hts _ (List.mem_of_getElem? (i := 2) rfl)) (fun _ h9 => h9) rfl dX2_at_26 ?_
    refine lv_iload_n hx hb dX2_at_29 rfl (lv_at hl 2 rfl) ?_
    refine q_iald (v := sig t) hx hb hE h_sg (by omega) (by omega) dX2_at_30 rfl ?_
    refine lv_iload_n hx hb dX2_at_31 rfl (lv_at hl 0 rfl) ?_
    refine q_iadd (v := atF sto sig t) hx hb dX2_at_32 (atF_lo (by omega)) ?_
    refine lv_goto (tgt := 37) hx hb dX2_at_33 (by decide) ?_
    exact q_iret hx hb hr hlocks dX2_at_37 rfl
set_option maxHeartbeats 4000000 in
set_option maxRecDepth 100000 in
theorem c_X2_heard {l : Launch} {g : gT} {k0 st0 sg0 c0 : Nat} {sto sig : Nat → Int32} {L : Nat} {a t : Nat} (hL : L ≤ 16) (ha : a < 16) (ht : t < 2000) : RO l yX2_heard wsX2_heard ({ frames := 2, cells := 0, slots := 0, locals := 42 } : Room) [.ref k0, .int (nI a), .int (nI t)] g (fun H => va_at g.1 vwCl (k0, .inr (3, [.ref st0, .ref sg0, .ref c0])) H ∧ va_at g.1 vwCl (st0, .inl (gI g, 20, .inl sto)) H ∧ va_at g.1 vwCl (sg0, .inl (gI g, 207, .inl sig)) H ∧ va_at g.1 vwCl (c0, .inr (1, [.int (nI L)])) H) (some (.int (hearF L (atF sto sig) a t))) := by
  refine RO.of (cc := cX2_heard) (maxL := 5) (ret := (some .int)) (by decide) rfl (Nat.le_of_ble_eq_true rfl) ?_
  intro p e s m below meth c hx hb hml hr hlocks hown hts hE hF ls hl
  have hown : s.vm.findClass RX2 = some m.cls := hown
  have hA : ∀ q, s.heap.size ≤ q → q_n s.heap q := fun _ h => h
  obtain ⟨h_k, h_st, h_sg, h_c⟩ := hF
  have hl : lv_has ls 5 [(0, .ref k0), (1, .int (nI a)), (2, .int (nI t))] := hl
  refine lv_iconst (v := nI 0) hx hb dX2_heard_0 (by decide) ?_
  refine lv_istore_n (lv' := [(3, .int (nI 0)), (0, .ref k0), (1, .int (nI a)), (2, .int (nI t))]) hx hb dX2_heard_1 rfl hl (by decide) rfl (fun ls hl => ?_)
  refine lv_iconst (v := nI 0) hx hb dX2_heard_2 (by decide) ?_
  refine lv_istore (lv' := [(4, .int (nI 0)), (3, .int (nI 0)), (0, .ref k0), (1, .int (nI a)), (2, .int (nI t))]) hx hb dX2_heard_3 hl (by decide) rfl (fun ls hl => ?_)
  have lp_5 : ∀ (n_ i : Nat) , i ≤ L → L + 1 ≤ i + n_ → ∀ (ls : Array Slot), lv_has ls 5 [(4, .int (nI i)), (3, .int (sumI (fun k => atF sto sig (t + k) * chip a k) i)), (0, .ref k0), (1, .int (nI a)), (2, .int (nI t))] → W p l e ({ frames := 2, cells := 0, slots := 0, locals := 42 } : Room) s m ([.ref k0, .int (nI a), .int (nI t)] : List Value).toArray below meth c s.heap [] 0 0 (MQ below (q_Q (some (.int (hearF L (atF sto sig) a t)))) ([.ref k0, .int (nI a), .int (nI t)] : List Value).toArray s 0 0 (fun _ => False)) (F0 m 5 ls []) := by
    intro n_
    induction n_ with
    | zero => intro i  hi_ hn_; exact absurd hn_ (by omega)
    | succ n_ ih_5 =>
      intro i  hi_i hn_i  ls hl
      refine lv_iload hx hb dX2_heard_5 (lv_at hl 0 rfl) ?_
      refine lv_aload_n hx hb dX2_heard_7 rfl (lv_at hl 2 rfl) ?_
      refine va_get (v := .ref c0) (C := RX2) (T := TX2) (N := 3) hx hb hts (q_sub wsX20 22 rfl) hown hE.K (q_P1 h_k) 0 rfl rfl 2 (by decide) (hts _ (List.mem_of_getElem? (i := 1) rfl)) (fun _ h9 => h9) rfl dX2_heard_8 ?_
      refine va_get (v := .int (nI L)) (C := RX0) (T := TX0) (N := 1) hx hb hts (q_sub wsX00 25 rfl) hown hE.K (q_P1 h_c) 0 rfl rfl 0 (by decide) (hts _ (List.mem_of_getElem? (i := 2) rfl)) (fun _ h9 => h9) rfl dX2_heard_11 ?_
      refine q_icmp_ge (tgt := 45) hx hb (by omega) (by omega) dX2_heard_14 (by decide) (fun c_1 => ?_) (fun c_1 => ?_)
      · refine lv_iload_n hx hb dX2_heard_45 rfl (lv_at hl 1 rfl) ?_
        exact q_iret hx hb hr hlocks dX2_heard_46 (by rw [show i = L by omega]; rfl)
      · refine lv_iload_n hx hb dX2_heard_17 rfl (lv_at hl 1 rfl) ?_
        refine lv_aload_n hx hb dX2_heard_18 rfl (lv_at hl 2 rfl) ?_
        refine lv_iload_n hx hb dX2_heard_19 rfl (lv_at hl 4 rfl) ?_
        refine lv_iload hx hb dX2_heard_20 (lv_at hl 0 rfl) ?_
        refine q_iadd (v := nI (t + i)) hx hb dX2_heard_22 (nI_add _ _) ?_
        refine q_roV (As := [.int (nI (t + i))]) (rest := [.int (sumI (fun k => atF sto sig (t + k) * chip a k) i)]) ⟨hx, hb, hml, hown, hts⟩ (c_X2_at (t := t + i) (by omega)) (cwV 1 hts gX2_heard_X2_at rfl rfl rfl (by decide +kernel) ⟨Nat.le_of_ble_eq_true rfl, Nat.le_of_ble_eq_true rfl⟩) hE hA ⟨h_k, h_st, h_sg⟩ (va_recv hE.K (q_P1 h_k) (ci := 3) (q0 := 0) rfl rfl) rfl hl.1 rfl (Nat.le_of_ble_eq_true rfl) dX2_heard_23 ⟨Nat.zero_le _, Nat.zero_le _⟩ ?_
        refine lv_aload_n hx hb dX2_heard_26 rfl (lv_at hl 2 rfl) ?_
        refine va_get (v := .ref c0) (C := RX2) (T := TX2) (N := 3) hx hb hts (q_sub wsX20 22 rfl) hown hE.K (q_P1 h_k) 0 rfl rfl 2 (by decide) (hts _ (List.mem_of_getElem? (i := 1) rfl)) (fun _ h9 => h9) rfl dX2_heard_27 ?_
        refine lv_iload_n hx hb dX2_heard_30 rfl (lv_at hl 3 rfl) ?_
        refine lv_iload hx hb dX2_heard_31 (lv_at hl 0 rfl) ?_
        refine q_roV (As := [.int (nI a), .int (nI i)]) (rest := [.int (atF sto sig (t + i)), .int (sumI (fun k => atF sto sig (t + k) * chip a k) i)]) ⟨hx, hb, hml, hown, hts⟩ (c_X0_chipAt (c0 := c0) (a := a) (b := i) ha) (cwV 2 hts gX2_heard_X0_chipAt rfl rfl rfl (by decide +kernel) ⟨Nat.le_of_ble_eq_true rfl, Nat.le_of_ble_eq_true rfl⟩) hE hA trivial (va_recv hE.K (q_P1 h_c) (ci := 1) (q0 := 0) rfl rfl) rfl hl.1 rfl (Nat.le_of_ble_eq_true rfl) dX2_heard_33 ⟨Nat.zero_le _, Nat.zero_le _⟩ ?_
        refine q_imul (v := (atF sto sig (t + i)) * (chip a i)) hx hb dX2_heard_36 rfl ?_
        refine q_iadd (v := sumI (fun k => atF sto sig (t + k) * chip a k) (i + 1)) hx hb dX2_heard_37 rfl ?_
        refine lv_istore_n (lv' := [(3, .int (sumI (fun k => atF sto sig (t + k) * chip a k) (i + 1))), (4, .int (nI i)), (0, .ref k0), (1, .int (nI a)), (2, .int (nI t))]) hx hb dX2_heard_38 rfl hl (by decide) rfl (fun ls hl => ?_)
        refine lv_iinc (v := nI (i + 1)) (lv' := [(4, .int (nI (i + 1))), (3, .int (sumI (fun k => atF sto sig (t + k) * chip a k) (i + 1))), (0, .ref k0), (1, .int (nI a)), (2, .int (nI t))]) hx hb dX2_heard_39 hl (k := 1) rfl (nI_1 _) (by decide) rfl (fun ls hl => ?_)
        refine lv_goto (tgt := 5) hx hb dX2_heard_42 (by decide) ?_
        exact ih_5 (i + 1)  (by omega) (by omega)  _ (lv_sub hl [0, 1, 2, 3, 4] rfl)
  exact lp_5 (L + 1) 0  (Nat.zero_le _) (by omega)  _ (lv_sub hl [0, 1, 2, 3, 4] rfl)
set_option maxHeartbeats 4000000 in
set_option maxRecDepth 100000 in
theorem c_X2_heardWord {l : Launch} {g : gT} {k0 st0 sg0 c0 : Nat} {sto sig : Nat → Int32} {L : Nat} {h0 w0 cd sr dl sd : Nat} {w : Nat} (hL : L ≤ 16) (hcd : cd < 16) (hdl : dl < 16) (hw : w < 12) : RO l yX2_heardWord wsX2_heardWord ({ frames := 3, cells := 0, slots := 0, locals := 66 } : Room) [.ref k0, .ref h0, .int (nI w)] g (fun H => va_at g.1 vwCl (k0, .inr (3, [.ref st0, .ref sg0, .ref c0])) H ∧ va_at g.1 vwCl (st0, .inl (gI g, 20, .inl sto)) H ∧ va_at g.1 vwCl (sg0, .inl (gI g, 207, .inl sig)) H ∧ va_at g.1 vwCl (c0, .inr (1, [.int (nI L)])) H ∧ va_at g.1 vwCl (h0, .inr (2, [.int (nI cd), .int (nI sr), .int (nI dl), .int (nI sd), .ref w0])) H) (some (.int (hearF L (atF sto sig) cd (w * L + dl)))) := by
  refine RO.of (cc := cX2_heardWord) (maxL := 3) (ret := (some .int)) (by decide) rfl (Nat.le_of_ble_eq_true rfl) ?_
  intro p e s m below meth c hx hb hml hr hlocks hown hts hE hF ls hl
  have hown : s.vm.findClass RX2 = some m.cls := hown
  have hA : ∀ q, s.heap.size ≤ q → q_n s.heap q := fun _ h => h
  obtain ⟨h_k, h_st, h_sg, h_c, h_h⟩ := hF
  have hl : lv_has ls 3 [(0, .ref k0), (1, .ref h0), (2, .int (nI w))] := hl
  refine lv_aload_n hx hb dX2_heardWord_0 rfl (lv_at hl 0 rfl) ?_
  refine lv_aload_n hx hb dX2_heardWord_1 rfl (lv_at hl 1 rfl) ?_
  refine va_get (v := .int (nI cd)) (C := RX1) (T := TX1) (N := 5) hx hb hts (q_sub wsX10 33 rfl) hown hE.K (q_P1 h_h) 0 rfl rfl 0 (by decide) (hts _ (List.mem_of_getElem? (i := 1) rfl)) (fun _ h9 => h9) rfl dX2_heardWord_2 ?_
  refine lv_aload_n hx hb dX2_heardWord_5 rfl (lv_at hl 1 rfl) ?_
  refine lv_iload_n hx hb dX2_heardWord_6 rfl (lv_at hl 2 rfl) ?_
  refine lv_aload_n hx hb dX2_heardWord_7 rfl (lv_at hl 0 rfl) ?_
  refine va_get (v := .ref c0) (C := RX2) (T := TX2) (N := 3) hx hb hts (q_sub wsX20 38 rfl) hown hE.K (q_P1 h_k) 0 rfl rfl 2 (by decide) (hts _ (List.mem_of_getElem? (i := 2) rfl)) (fun _ h9 => h9) rfl dX2_heardWord_8 ?_
  refine va_get (v := .int (nI L)) (C := RX0) (T := TX0) (N := 1) hx hb hts (q_sub wsX00 41 rfl) hown hE.K (q_P1 h_c) 0 rfl rfl 0 (by decide) (hts _ (List.mem_of_getElem? (i := 3) rfl)) (fun _ h9 => h9) rfl dX2_heardWord_11 ?_
  refine q_roV (As := [.int (nI w), .int (nI L)]) (rest := [.int (nI cd), .ref k0]) ⟨hx, hb, hml, hown, hts⟩ (c_X1_start (i := w) (L := L)) (cwV 2 hts gX2_heardWord_X1_start rfl rfl rfl (by decide +kernel) ⟨Nat.le_of_ble_eq_true rfl, Nat.le_of_ble_eq_true rfl⟩) hE hA h_h (va_recv hE.K (q_P1 h_h) (ci := 2) (q0 := 0) rfl rfl) rfl hl.1 rfl (Nat.le_of_ble_eq_true rfl) dX2_heardWord_14 ⟨Nat.zero_le _, Nat.zero_le _⟩ ?_
  refine q_roV (As := [.int (nI cd), .int (nI (w * L + dl))]) (rest := []) ⟨hx, hb, hml, hown, hts⟩ (c_X2_heard (t := w * L + dl) hL hcd (by have := mul16 (a := w) hL; omega)) (cwV 2 hts gX2_heardWord_X2_heard rfl rfl rfl (by decide +kernel) ⟨Nat.le_of_ble_eq_true rfl, Nat.le_of_ble_eq_true rfl⟩) hE hA ⟨h_k, h_st, h_sg, h_c⟩ (va_recv hE.K (q_P1 h_k) (ci := 3) (q0 := 0) rfl rfl) rfl hl.1 rfl (Nat.le_of_ble_eq_true rfl) dX2_heardWord_17 ⟨Nat.zero_le _, Nat.zero_le _⟩ ?_
  exact q_iret hx hb hr hlocks dX2_heardWord_20 rfl
set_option maxHeartbeats 4000000 in
set_option maxRecDepth 100000 in
theorem c_X2_wrongWords {l : Launch} {g : gT} {k0 st0 sg0 c0 : Nat} {sto sig : Nat → Int32} {L : Nat} {h0 w0 cd sr dl sd : Nat} {f : Nat → Int32} (hL : L ≤ 16) (hcd : cd < 16) (hdl : dl < 16) (hsd : sd ≤ 12) : RO l yX2_wrongWords wsX2_wrongWords ({ frames := 4, cells := 0, slots := 0, locals := 88 } : Room) [.ref k0, .ref h0] g (fun H => va_at g.1 vwCl (k0, .inr (3, [.ref st0, .ref sg0, .ref c0])) H ∧ va_at g.1 vwCl (st0, .inl (gI g, 20, .inl sto)) H ∧ va_at g.1 vwCl (sg0, .inl (gI g, 207, .inl sig)) H ∧ va_at g.1 vwCl (c0, .inr (1, [.int (nI L)])) H ∧ va_at g.1 vwCl (h0, .inr (2, [.int (nI cd), .int (nI sr), .int (nI dl), .int (nI sd), .ref w0])) H ∧ va_at g.1 vwCl (w0, .inl (gI g, 12, .inl f)) H) (some (.int (nI (wrF L (atF sto sig) cd dl f sd)))) := by
  refine RO.of (cc := cX2_wrongWords) (maxL := 4) (ret := (some .int)) (by decide) rfl (Nat.le_of_ble_eq_true rfl) ?_
  intro p e s m below meth c hx hb hml hr hlocks hown hts hE hF ls hl
  have hown : s.vm.findClass RX2 = some m.cls := hown
  have hA : ∀ q, s.heap.size ≤ q → q_n s.heap q := fun _ h => h
  obtain ⟨h_k, h_st, h_sg, h_c, h_h, h_w⟩ := hF
  have hl : lv_has ls 4 [(0, .ref k0), (1, .ref h0)] := hl
  refine lv_iconst (v := nI 0) hx hb dX2_wrongWords_0 (by decide) ?_
  refine lv_istore_n (lv' := [(2, .int (nI 0)), (0, .ref k0), (1, .ref h0)]) hx hb dX2_wrongWords_1 rfl hl (by decide) rfl (fun ls hl => ?_)
  refine lv_iconst (v := nI 0) hx hb dX2_wrongWords_2 (by decide) ?_
  refine lv_istore_n (lv' := [(3, .int (nI 0)), (2, .int (nI 0)), (0, .ref k0), (1, .ref h0)]) hx hb dX2_wrongWords_3 rfl hl (by decide) rfl (fun ls hl => ?_)
  have lp_4 : ∀ (n_ i : Nat) , i ≤ sd → sd + 1 ≤ i + n_ → ∀ (ls : Array Slot), lv_has ls 4 [(3, .int (nI i)), (2, .int (nI (wrF L (atF sto sig) cd dl f i))), (0, .ref k0), (1, .ref h0)] → W p l e ({ frames := 4, cells := 0, slots := 0, locals := 88 } : Room) s m ([.ref k0, .ref h0] : List Value).toArray below meth c s.heap [] 0 0 (MQ below (q_Q (some (.int (nI (wrF L (atF sto sig) cd dl f sd))))) ([.ref k0, .ref h0] : List Value).toArray s 0 0 (fun _ => False)) (F0 m 4 ls []) := by
    intro n_
    induction n_ with
    | zero => intro i  hi_ hn_; exact absurd hn_ (by omega)
    | succ n_ ih_4 =>
      intro i  hi_i hn_i  ls hl
      refine lv_iload_n hx hb dX2_wrongWords_4 rfl (lv_at hl 0 rfl) ?_
      refine lv_aload_n hx hb dX2_wrongWords_5 rfl (lv_at hl 3 rfl) ?_
      refine va_get (v := .int (nI sd)) (C := RX1) (T := TX1) (N := 5) hx hb hts (q_sub wsX10 47 rfl) hown hE.K (q_P1 h_h) 0 rfl rfl 3 (by decide) (hts _ (List.mem_of_getElem? (i := 1) rfl)) (fun _ h9 => h9) rfl dX2_wrongWords_6 ?_
      refine q_icmp_ge (tgt := 35) hx hb (by omega) (by omega) dX2_wrongWords_9 (by decide) (fun c_1 => ?_) (fun c_1 => ?_)
      · refine lv_iload_n hx hb dX2_wrongWords_35 rfl (lv_at hl 1 rfl) ?_
        exact q_iret hx hb hr hlocks dX2_wrongWords_36 (by rw [show i = sd by omega])
      · refine lv_aload_n hx hb dX2_wrongWords_12 rfl (lv_at hl 3 rfl) ?_
        refine lv_iload_n hx hb dX2_wrongWords_13 rfl (lv_at hl 0 rfl) ?_
        refine lv_aload_n hx hb dX2_wrongWords_14 rfl (lv_at hl 2 rfl) ?_
        refine lv_aload_n hx hb dX2_wrongWords_15 rfl (lv_at hl 3 rfl) ?_
        refine lv_iload_n hx hb dX2_wrongWords_16 rfl (lv_at hl 0 rfl) ?_
        refine q_roV (As := [.ref h0, .int (nI i)]) (rest := [.int (nI i), .ref h0]) ⟨hx, hb, hml, hown, hts⟩ (c_X2_heardWord (w := i) hL hcd hdl (by omega)) (cwV 2 hts gX2_wrongWords_X2_heardWord rfl rfl rfl (by decide +kernel) ⟨Nat.le_of_ble_eq_true rfl, Nat.le_of_ble_eq_true rfl⟩) hE hA ⟨h_k, h_st, h_sg, h_c, h_h⟩ (va_recv hE.K (q_P1 h_k) (ci := 3) (q0 := 0) rfl rfl) rfl hl.1 rfl (Nat.le_of_ble_eq_true rfl) dX2_wrongWords_17 ⟨Nat.zero_le _, Nat.zero_le _⟩ ?_
        refine q_roV (As := [.int (nI i), .int (hearF L (atF sto sig) cd (i * L + dl))]) (rest := []) ⟨hx, hb, hml, hown, hts⟩ (c_X1_isWrong (i := i) (by omega)) (cwV 2 hts gX2_wrongWords_X1_isWrong rfl rfl rfl (by decide +kernel) ⟨Nat.le_of_ble_eq_true rfl, Nat.le_of_ble_eq_true rfl⟩) hE hA ⟨h_h, h_w⟩ (va_recv hE.K (q_P1 h_h) (ci := 2) (q0 := 0) rfl rfl) rfl hl.1 rfl (Nat.le_of_ble_eq_true rfl) dX2_wrongWords_20 ⟨Nat.zero_le _, Nat.zero_le _⟩ ?_
        refine q_ifb_eq (tgt := 29) hx hb dX2_wrongWords_23 (by decide) (fun c_2 => ?_) (fun c_2 => ?_)
        · have e9 : wrF L (atF sto sig) cd dl f (i + 1) = wrF L (atF sto sig) cd dl f i := wrF_f c_2
          refine lv_iinc (v := nI (i + 1)) (lv' := [(3, .int (nI (i + 1))), (2, .int (nI (wrF L (atF sto sig) cd dl f i))), (0, .ref k0), (1, .ref h0)]) hx hb dX2_wrongWords_29 hl (k := 0) rfl (nI_1 _) (by decide) rfl (fun ls hl => ?_)
          refine lv_goto (tgt := 4) hx hb dX2_wrongWords_32 (by decide) ?_
          exact ih_4 (i + 1)  (by omega) (by omega)  _ (by rw [e9]; exact lv_sub hl [0, 1, 2, 3] rfl)
        · have e9 : wrF L (atF sto sig) cd dl f (i + 1) = wrF L (atF sto sig) cd dl f i + 1 := wrF_t c_2
          refine lv_iinc (v := nI (wrF L (atF sto sig) cd dl f i + 1)) (lv' := [(2, .int (nI (wrF L (atF sto sig) cd dl f i + 1))), (3, .int (nI i)), (0, .ref k0), (1, .ref h0)]) hx hb dX2_wrongWords_26 hl (k := 1) rfl (nI_1 _) (by decide) rfl (fun ls hl => ?_)
          refine lv_iinc (v := nI (i + 1)) (lv' := [(3, .int (nI (i + 1))), (2, .int (nI (wrF L (atF sto sig) cd dl f i + 1))), (0, .ref k0), (1, .ref h0)]) hx hb dX2_wrongWords_29 hl (k := 1) rfl (nI_1 _) (by decide) rfl (fun ls hl => ?_)
          refine lv_goto (tgt := 4) hx hb dX2_wrongWords_32 (by decide) ?_
          exact ih_4 (i + 1)  (by omega) (by omega)  _ (by rw [e9]; exact lv_sub hl [0, 1, 2, 3] rfl)
  exact lp_4 (sd + 1) 0  (Nat.zero_le _) (by omega)  _ (lv_sub hl [0, 1, 2, 3] rfl)
set_option maxHeartbeats 4000000 in
set_option maxRecDepth 100000 in
theorem c_X2_faintest {l : Launch} {g : gT} {k0 st0 sg0 c0 : Nat} {sto sig : Nat → Int32} {L : Nat} {h0 w0 cd sr dl sd : Nat} (hL : L ≤ 16) (hcd : cd < 16) (hdl : dl < 16) (hsd : sd ≤ 12) : RO l yX2_faintest wsX2_faintest ({ frames := 4, cells := 0, slots := 0, locals := 88 } : Room) [.ref k0, .ref h0] g (fun H => va_at g.1 vwCl (k0, .inr (3, [.ref st0, .ref sg0, .ref c0])) H ∧ va_at g.1 vwCl (st0, .inl (gI g, 20, .inl sto)) H ∧ va_at g.1 vwCl (sg0, .inl (gI g, 207, .inl sig)) H ∧ va_at g.1 vwCl (c0, .inr (1, [.int (nI L)])) H ∧ va_at g.1 vwCl (h0, .inr (2, [.int (nI cd), .int (nI sr), .int (nI dl), .int (nI sd), .ref w0])) H) (some (.int (fnF (fun w => hearF L (atF sto sig) cd (w * L + dl)) sd))) := by
  refine RO.of (cc := cX2_faintest) (maxL := 5) (ret := (some .int)) (by decide) rfl (Nat.le_of_ble_eq_true rfl) ?_
  intro p e s m below meth c hx hb hml hr hlocks hown hts hE hF ls hl
  have hown : s.vm.findClass RX2 = some m.cls := hown
  have hA : ∀ q, s.heap.size ≤ q → q_n s.heap q := fun _ h => h
  obtain ⟨h_k, h_st, h_sg, h_c, h_h⟩ := hF
  have hl : lv_has ls 5 [(0, .ref k0), (1, .ref h0)] := hl
  refine lv_iconst (v := nI 0) hx hb dX2_faintest_0 (by decide) ?_
  refine lv_istore_n (lv' := [(2, .int (nI 0)), (0, .ref k0), (1, .ref h0)]) hx hb dX2_faintest_1 rfl hl (by decide) rfl (fun ls hl => ?_)
  refine lv_iconst (v := nI 0) hx hb dX2_faintest_2 (by decide) ?_
  refine lv_istore_n (lv' := [(3, .int (nI 0)), (2, .int (nI 0)), (0, .ref k0), (1, .ref h0)]) hx hb dX2_faintest_3 rfl hl (by decide) rfl (fun ls hl => ?_)
  have lp_4 : ∀ (n_ i : Nat) , i ≤ sd → sd + 1 ≤ i + n_ → ∀ (ls : Array Slot), lv_has ls 5 [(3, .int (nI i)), (2, .int (fnF (fun w => hearF L (atF sto sig) cd (w * L + dl)) i)), (0, .ref k0), (1, .ref h0)] → W p l e ({ frames := 4, cells := 0, slots := 0, locals := 88 } : Room) s m ([.ref k0, .ref h0] : List Value).toArray below meth c s.heap [] 0 0 (MQ below (q_Q (some (.int (fnF (fun w => hearF L (atF sto sig) cd (w * L + dl)) sd)))) ([.ref k0, .ref h0] : List Value).toArray s 0 0 (fun _ => False)) (F0 m 4 ls []) := by
    intro n_
    induction n_ with
    | zero => intro i  hi_ hn_; exact absurd hn_ (by omega)
    | succ n_ ih_4 =>
      intro i  hi_i hn_i  ls hl
      refine lv_iload_n hx hb dX2_faintest_4 rfl (lv_at hl 0 rfl) ?_
      refine lv_aload_n hx hb dX2_faintest_5 rfl (lv_at hl 3 rfl) ?_
      refine va_get (v := .int (nI sd)) (C := RX1) (T := TX1) (N := 5) hx hb hts (q_sub wsX10 42 rfl) hown hE.K (q_P1 h_h) 0 rfl rfl 3 (by decide) (hts _ (List.mem_of_getElem? (i := 1) rfl)) (fun _ h9 => h9) rfl dX2_faintest_6 ?_
      refine q_icmp_ge (tgt := 42) hx hb (by omega) (by omega) dX2_faintest_9 (by decide) (fun c_1 => ?_) (fun c_1 => ?_)
      · refine lv_iload_n hx hb dX2_faintest_42 rfl (lv_at hl 1 rfl) ?_
        exact q_iret hx hb hr hlocks dX2_faintest_43 (by rw [show i = sd by omega])
      · refine lv_aload_n hx hb dX2_faintest_12 rfl (lv_at hl 2 rfl) ?_
        refine lv_aload_n hx hb dX2_faintest_13 rfl (lv_at hl 3 rfl) ?_
        refine lv_iload_n hx hb dX2_faintest_14 rfl (lv_at hl 0 rfl) ?_
        refine q_roV (As := [.ref h0, .int (nI i)]) (rest := []) ⟨hx, hb, hml, hown, hts⟩ (c_X2_heardWord (w := i) hL hcd hdl (by omega)) (cwV 2 hts gX2_faintest_X2_heardWord rfl rfl rfl (by decide +kernel) ⟨Nat.le_of_ble_eq_true rfl, Nat.le_of_ble_eq_true rfl⟩) hE hA ⟨h_k, h_st, h_sg, h_c, h_h⟩ (va_recv hE.K (q_P1 h_k) (ci := 3) (q0 := 0) rfl rfl) rfl hl.1 rfl (Nat.le_of_ble_eq_true rfl) dX2_faintest_15 ⟨Nat.zero_le _, Nat.zero_le _⟩ ?_
        refine q_mabs (v := ab (hearF L (atF sto sig) cd (i * L + dl))) hx hb (hml.trans hl.1.symm) hown (hts _ (List.mem_of_getElem? (i := 2) rfl)) (hts _ (List.mem_of_getElem? (i := 3) rfl)) (hts _ (List.mem_of_getElem? (i := 4) rfl)) (hts _ (List.mem_of_getElem? (i := 5) rfl)) (Nat.le_of_ble_eq_true rfl) (Nat.le_of_ble_eq_true rfl) (Nat.zero_le _) (Nat.zero_le _) dX2_faintest_18 rfl ?_
        refine lv_istore (lv' := [(4, .int (ab (hearF L (atF sto sig) cd (i * L + dl)))), (3, .int (nI i)), (2, .int (fnF (fun w => hearF L (atF sto sig) cd (w * L + dl)) i)), (0, .ref k0), (1, .ref h0)]) hx hb dX2_faintest_21 hl (by decide) rfl (fun ls hl => ?_)
        refine lv_iload_n hx hb dX2_faintest_23 rfl (lv_at hl 1 rfl) ?_
        refine q_if_eq (tgt := 33) hx hb (by omega) dX2_faintest_24 (by decide) (fun c_2 => ?_) (fun c_2 => ?_)
        · have e9 : fnF (fun w => hearF L (atF sto sig) cd (w * L + dl)) (i + 1) = ab (hearF L (atF sto sig) cd (i * L + dl)) := fnF_a (Or.inl c_2)
          refine lv_iload hx hb dX2_faintest_33 (lv_at hl 0 rfl) ?_
          refine lv_istore_n (lv' := [(2, .int (ab (hearF L (atF sto sig) cd (i * L + dl)))), (4, .int (ab (hearF L (atF sto sig) cd (i * L + dl)))), (3, .int (nI i)), (0, .ref k0), (1, .ref h0)]) hx hb dX2_faintest_35 rfl hl (by decide) rfl (fun ls hl => ?_)
          refine lv_iinc (v := nI (i + 1)) (lv' := [(3, .int (nI (i + 1))), (2, .int (ab (hearF L (atF sto sig) cd (i * L + dl)))), (4, .int (ab (hearF L (atF sto sig) cd (i * L + dl)))), (0, .ref k0), (1, .ref h0)]) hx hb dX2_faintest_36 hl (k := 2) rfl (nI_1 _) (by decide) rfl (fun ls hl => ?_)
          refine lv_goto (tgt := 4) hx hb dX2_faintest_39 (by decide) ?_
          exact ih_4 (i + 1)  (by omega) (by omega)  _ (by rw [e9]; exact lv_sub hl [0, 1, 3, 4] rfl)
        · refine lv_iload hx hb dX2_faintest_27 (lv_at hl 0 rfl) ?_
          refine lv_iload_n hx hb dX2_faintest_29 rfl (lv_at hl 2 rfl) ?_
          refine lv_icmp_ge (tgt := 36) hx hb dX2_faintest_30 (by decide) (fun c_3 => ?_) (fun c_3 => ?_)
          · have e9 : fnF (fun w => hearF L (atF sto sig) cd (w * L + dl)) (i + 1) = fnF (fun w => hearF L (atF sto sig) cd (w * L + dl)) i := fnF_b (by omega) c_3
            refine lv_iinc (v := nI (i + 1)) (lv' := [(3, .int (nI (i + 1))), (4, .int (ab (hearF L (atF sto sig) cd (i * L + dl)))), (2, .int (fnF (fun w => hearF L (atF sto sig) cd (w * L + dl)) i)), (0, .ref k0), (1, .ref h0)]) hx hb dX2_faintest_36 hl (k := 1) rfl (nI_1 _) (by decide) rfl (fun ls hl => ?_)
            refine lv_goto (tgt := 4) hx hb dX2_faintest_39 (by decide) ?_
            exact ih_4 (i + 1)  (by omega) (by omega)  _ (by rw [e9]; exact lv_sub hl [0, 2, 3, 4] rfl)
          · have e9 : fnF (fun w => hearF L (atF sto sig) cd (w * L + dl)) (i + 1) = ab (hearF L (atF sto sig) cd (i * L + dl)) := fnF_a (Or.inr (Int32.not_le.mp c_3))
            refine lv_iload hx hb dX2_faintest_33 (lv_at hl 0 rfl) ?_
            refine lv_istore_n (lv' := [(2, .int (ab (hearF L (atF sto sig) cd (i * L + dl)))), (4, .int (ab (hearF L (atF sto sig) cd (i * L + dl)))), (3, .int (nI i)), (0, .ref k0), (1, .ref h0)]) hx hb dX2_faintest_35 rfl hl (by decide) rfl (fun ls hl => ?_)
            refine lv_iinc (v := nI (i + 1)) (lv' := [(3, .int (nI (i + 1))), (2, .int (ab (hearF L (atF sto sig) cd (i * L + dl)))), (4, .int (ab (hearF L (atF sto sig) cd (i * L + dl)))), (0, .ref k0), (1, .ref h0)]) hx hb dX2_faintest_36 hl (k := 2) rfl (nI_1 _) (by decide) rfl (fun ls hl => ?_)
            refine lv_goto (tgt := 4) hx hb dX2_faintest_39 (by decide) ?_
            exact ih_4 (i + 1)  (by omega) (by omega)  _ (by rw [e9]; exact lv_sub hl [0, 1, 3, 4] rfl)
  exact lp_4 (sd + 1) 0  (Nat.zero_le _) (by omega)  _ (lv_sub hl [0, 1, 2, 3] rfl)
set_option maxHeartbeats 4000000 in
set_option maxRecDepth 100000 in
theorem c_X2_highest {l : Launch} {g : gT} {k0 st0 sg0 c0 : Nat} {sto sig : Nat → Int32} {n : Nat} (hn : n < 2000) : RO l yX2_highest wsX2_highest ({ frames := 1, cells := 0, slots := 0, locals := 22 } : Room) [.ref k0, .int (nI n)] g (fun H => va_at g.1 vwCl (k0, .inr (3, [.ref st0, .ref sg0, .ref c0])) H ∧ va_at g.1 vwCl (st0, .inl (gI g, 20, .inl sto)) H ∧ va_at g.1 vwCl (sg0, .inl (gI g, 207, .inl sig)) H) (some (.int (hiF (atF sto sig) n))) := by
  refine RO.of (cc := cX2_highest) (maxL := 4) (ret := (some .int)) (by decide) rfl (Nat.le_of_ble_eq_true rfl) ?_
  intro p e s m below meth c hx hb hml hr hlocks hown hts hE hF ls hl
  have hown : s.vm.findClass RX2 = some m.cls := hown
  have hA : ∀ q, s.heap.size ≤ q → q_n s.heap q := fun _ h => h
  obtain ⟨h_k, h_st, h_sg⟩ := hF
  have hl : lv_has ls 4 [(0, .ref k0), (1, .int (nI n))] := hl
  refine lv_iconst (v := nI 0) hx hb dX2_highest_0 (by decide) ?_
  refine lv_istore_n (lv' := [(2, .int (nI 0)), (0, .ref k0), (1, .int (nI n))]) hx hb dX2_highest_1 rfl hl (by decide) rfl (fun ls hl => ?_)
  refine lv_iconst (v := nI 0) hx hb dX2_highest_2 (by decide) ?_
  refine lv_istore_n (lv' := [(3, .int (nI 0)), (2, .int (nI 0)), (0, .ref k0), (1, .int (nI n))]) hx hb dX2_highest_3 rfl hl (by decide) rfl (fun ls hl => ?_)
  have lp_4 : ∀ (n_ i : Nat) , i ≤ n → n + 1 ≤ i + n_ → ∀ (ls : Array Slot), lv_has ls 4 [(3, .int (nI i)), (2, .int (hiF (atF sto sig) i)), (0, .ref k0), (1, .int (nI n))] → W p l e ({ frames := 1, cells := 0, slots := 0, locals := 22 } : Room) s m ([.ref k0, .int (nI n)] : List Value).toArray below meth c s.heap [] 0 0 (MQ below (q_Q (some (.int (hiF (atF sto sig) n)))) ([.ref k0, .int (nI n)] : List Value).toArray s 0 0 (fun _ => False)) (F0 m 4 ls []) := by
    intro n_
    induction n_ with
    | zero => intro i  hi_ hn_; exact absurd hn_ (by omega)
    | succ n_ ih_4 =>
      intro i  hi_i hn_i  ls hl
      refine lv_iload_n hx hb dX2_highest_4 rfl (lv_at hl 0 rfl) ?_
      refine lv_iload_n hx hb dX2_highest_5 rfl (lv_at hl 3 rfl) ?_
      refine q_icmp_ge (tgt := 28) hx hb (by omega) (by omega) dX2_highest_6 (by decide) (fun c_1 => ?_) (fun c_1 => ?_)
      · refine lv_iload_n hx hb dX2_highest_28 rfl (lv_at hl 1 rfl) ?_
        exact q_iret hx hb hr hlocks dX2_highest_29 (by rw [show i = n by omega])
      · refine lv_iload_n hx hb dX2_highest_9 rfl (lv_at hl 1 rfl) ?_
        refine lv_aload_n hx hb dX2_highest_10 rfl (lv_at hl 2 rfl) ?_
        refine lv_iload_n hx hb dX2_highest_11 rfl (lv_at hl 0 rfl) ?_
        refine q_roV (As := [.int (nI i)]) (rest := [.int (hiF (atF sto sig) i)]) ⟨hx, hb, hml, hown, hts⟩ (c_X2_at (t := i) (by omega)) (cwV 1 hts gX2_highest_X2_at rfl rfl rfl (by decide +kernel) ⟨Nat.le_of_ble_eq_true rfl, Nat.le_of_ble_eq_true rfl⟩) hE hA ⟨h_k, h_st, h_sg⟩ (va_recv hE.K (q_P1 h_k) (ci := 3) (q0 := 0) rfl rfl) rfl hl.1 rfl (Nat.le_of_ble_eq_true rfl) dX2_highest_12 ⟨Nat.zero_le _, Nat.zero_le _⟩ ?_
        refine q_mabs (v := ab (atF sto sig i)) hx hb (hml.trans hl.1.symm) hown (hts _ (List.mem_of_getElem? (i := 1) rfl)) (hts _ (List.mem_of_getElem? (i := 2) rfl)) (hts _ (List.mem_of_getElem? (i := 3) rfl)) (hts _ (List.mem_of_getElem? (i := 4) rfl)) (Nat.le_of_ble_eq_true rfl) (Nat.le_of_ble_eq_true rfl) (Nat.zero_le _) (Nat.zero_le _) dX2_highest_15 rfl ?_
        refine q_mmax (v := hiF (atF sto sig) (i + 1)) hx hb (hml.trans hl.1.symm) hown (hts _ (List.mem_of_getElem? (i := 5) rfl)) (hts _ (List.mem_of_getElem? (i := 6) rfl)) (hts _ (List.mem_of_getElem? (i := 3) rfl)) (hts _ (List.mem_of_getElem? (i := 7) rfl)) (Nat.le_of_ble_eq_true rfl) (Nat.le_of_ble_eq_true rfl) (Nat.zero_le _) (Nat.zero_le _) dX2_highest_18 rfl ?_
        refine lv_istore_n (lv' := [(2, .int (hiF (atF sto sig) (i + 1))), (3, .int (nI i)), (0, .ref k0), (1, .int (nI n))]) hx hb dX2_highest_21 rfl hl (by decide) rfl (fun ls hl => ?_)
        refine lv_iinc (v := nI (i + 1)) (lv' := [(3, .int (nI (i + 1))), (2, .int (hiF (atF sto sig) (i + 1))), (0, .ref k0), (1, .int (nI n))]) hx hb dX2_highest_22 hl (k := 1) rfl (nI_1 _) (by decide) rfl (fun ls hl => ?_)
        refine lv_goto (tgt := 4) hx hb dX2_highest_25 (by decide) ?_
        exact ih_4 (i + 1)  (by omega) (by omega)  _ (lv_sub hl [0, 1, 2, 3] rfl)
  exact lp_4 (n + 1) 0  (Nat.zero_le _) (by omega)  _ (lv_sub hl [0, 1, 2, 3] rfl)
set_option maxHeartbeats 4000000 in
set_option maxRecDepth 100000 in
theorem c_X2_sum {l : Launch} {g : gT} {k0 st0 sg0 c0 : Nat} {sto sig : Nat → Int32} {n : Nat} (hn : n < 2000) : RO l yX2_sum wsX2_sum ({ frames := 1, cells := 0, slots := 0, locals := 22 } : Room) [.ref k0, .int (nI n)] g (fun H => va_at g.1 vwCl (k0, .inr (3, [.ref st0, .ref sg0, .ref c0])) H ∧ va_at g.1 vwCl (st0, .inl (gI g, 20, .inl sto)) H ∧ va_at g.1 vwCl (sg0, .inl (gI g, 207, .inl sig)) H) (some (.int (sumI (atF sto sig) n))) := by
  refine RO.of (cc := cX2_sum) (maxL := 4) (ret := (some .int)) (by decide) rfl (Nat.le_of_ble_eq_true rfl) ?_
  intro p e s m below meth c hx hb hml hr hlocks hown hts hE hF ls hl
  have hown : s.vm.findClass RX2 = some m.cls := hown
  have hA : ∀ q, s.heap.size ≤ q → q_n s.heap q := fun _ h => h
  obtain ⟨h_k, h_st, h_sg⟩ := hF
  have hl : lv_has ls 4 [(0, .ref k0), (1, .int (nI n))] := hl
  refine lv_iconst (v := nI 0) hx hb dX2_sum_0 (by decide) ?_
  refine lv_istore_n (lv' := [(2, .int (nI 0)), (0, .ref k0), (1, .int (nI n))]) hx hb dX2_sum_1 rfl hl (by decide) rfl (fun ls hl => ?_)
  refine lv_iconst (v := nI 0) hx hb dX2_sum_2 (by decide) ?_
  refine lv_istore_n (lv' := [(3, .int (nI 0)), (2, .int (nI 0)), (0, .ref k0), (1, .int (nI n))]) hx hb dX2_sum_3 rfl hl (by decide) rfl (fun ls hl => ?_)
  have lp_4 : ∀ (n_ i : Nat) , i ≤ n → n + 1 ≤ i + n_ → ∀ (ls : Array Slot), lv_has ls 4 [(3, .int (nI i)), (2, .int (sumI (atF sto sig) i)), (0, .ref k0), (1, .int (nI n))] → W p l e ({ frames := 1, cells := 0, slots := 0, locals := 22 } : Room) s m ([.ref k0, .int (nI n)] : List Value).toArray below meth c s.heap [] 0 0 (MQ below (q_Q (some (.int (sumI (atF sto sig) n)))) ([.ref k0, .int (nI n)] : List Value).toArray s 0 0 (fun _ => False)) (F0 m 4 ls []) := by
    intro n_
    induction n_ with
    | zero => intro i  hi_ hn_; exact absurd hn_ (by omega)
    | succ n_ ih_4 =>
      intro i  hi_i hn_i  ls hl
      refine lv_iload_n hx hb dX2_sum_4 rfl (lv_at hl 0 rfl) ?_
      refine lv_iload_n hx hb dX2_sum_5 rfl (lv_at hl 3 rfl) ?_
      refine q_icmp_ge (tgt := 23) hx hb (by omega) (by omega) dX2_sum_6 (by decide) (fun c_1 => ?_) (fun c_1 => ?_)
      · refine lv_iload_n hx hb dX2_sum_23 rfl (lv_at hl 1 rfl) ?_
        exact q_iret hx hb hr hlocks dX2_sum_24 (by rw [show i = n by omega])
      · refine lv_iload_n hx hb dX2_sum_9 rfl (lv_at hl 1 rfl) ?_
        refine lv_aload_n hx hb dX2_sum_10 rfl (lv_at hl 2 rfl) ?_
        refine lv_iload_n hx hb dX2_sum_11 rfl (lv_at hl 0 rfl) ?_
        refine q_roV (As := [.int (nI i)]) (rest := [.int (sumI (atF sto sig) i)]) ⟨hx, hb, hml, hown, hts⟩ (c_X2_at (t := i) (by omega)) (cwV 1 hts gX2_sum_X2_at rfl rfl rfl (by decide +kernel) ⟨Nat.le_of_ble_eq_true rfl, Nat.le_of_ble_eq_true rfl⟩) hE hA ⟨h_k, h_st, h_sg⟩ (va_recv hE.K (q_P1 h_k) (ci := 3) (q0 := 0) rfl rfl) rfl hl.1 rfl (Nat.le_of_ble_eq_true rfl) dX2_sum_12 ⟨Nat.zero_le _, Nat.zero_le _⟩ ?_
        refine q_iadd (v := sumI (atF sto sig) (i + 1)) hx hb dX2_sum_15 rfl ?_
        refine lv_istore_n (lv' := [(2, .int (sumI (atF sto sig) (i + 1))), (3, .int (nI i)), (0, .ref k0), (1, .int (nI n))]) hx hb dX2_sum_16 rfl hl (by decide) rfl (fun ls hl => ?_)
        refine lv_iinc (v := nI (i + 1)) (lv' := [(3, .int (nI (i + 1))), (2, .int (sumI (atF sto sig) (i + 1))), (0, .ref k0), (1, .int (nI n))]) hx hb dX2_sum_17 hl (k := 1) rfl (nI_1 _) (by decide) rfl (fun ls hl => ?_)
        refine lv_goto (tgt := 4) hx hb dX2_sum_20 (by decide) ?_
        exact ih_4 (i + 1)  (by omega) (by omega)  _ (lv_sub hl [0, 1, 2, 3] rfl)
  exact lp_4 (n + 1) 0  (Nat.zero_le _) (by omega)  _ (lv_sub hl [0, 1, 2, 3] rfl)
