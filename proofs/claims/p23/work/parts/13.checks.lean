/-! ===== FlagChips: checks ===== -/
set_option maxHeartbeats 4000000 in
set_option maxRecDepth 100000 in
theorem c_X3_checkCode {l : Launch} {g : gT} {ad : Nat → Nat} {mc : Int32} {M : Nat} {sig : Nat → Int32} {z : sT} (hM : wM M (sn z)) (hV : VS z) {x : Int32} (hx_ : inR x (sL z)) : RO l yX3_checkCode wsX3_checkCode ({ frames := 1, cells := 0, slots := 0, locals := 21 } : Room) [.ref (ad 0), .int x] g (fun H => va_P g.1 vwCl (wC g ad mc M sig z) H) (none) := by
  refine RO.of (cc := cX3_checkCode) (maxL := 2) (ret := none) (by decide) rfl (Nat.le_of_ble_eq_true rfl) ?_
  intro p e s m below meth c hx hb hml hr hlocks hown hts hE hF ls hl
  have hown : s.vm.findClass RX3 = some m.cls := hown
  have hA : ∀ q, s.heap.size ≤ q → q_n s.heap q := fun _ h => h
  have hP := hF
  have hl : lv_has ls 2 [(0, .ref (ad 0)), (1, .int x)] := hl
  have hL := hV.L
  have hn := hV.n
  have h_x : va_at g.1 vwCl (ad 0, .inr (4, [.ref (ad 1), .ref (ad 2), .ref (ad 5)])) s.heap := hP 0 _ rfl
  have h_c : va_at g.1 vwCl (ad 1, .inr (1, [.int (nI (sL z))])) s.heap := hP 1 _ rfl
  have h_k : va_at g.1 vwCl (ad 2, .inr (3, [.ref (ad 3), .ref (ad 4), .ref (ad 1)])) s.heap := hP 2 _ rfl
  have h_st : va_at g.1 vwCl (ad 3, .inl (gI g, 20, .inl (sst z))) s.heap := hP 3 _ rfl
  have h_sg : va_at g.1 vwCl (ad 4, .inl (gI g, 207, .inl sig)) s.heap := hP 4 _ rfl
  have h_l : va_at g.1 vwCl (ad 5, .inr (0, [.int mc, .ref (if M = 0 then gE g else ad 6), .int (nI (sn z))])) s.heap := hP 5 _ rfl
  refine lv_aload_n hx hb dX3_checkCode_0 rfl (lv_at hl 0 rfl) ?_
  refine va_get (v := .ref (ad 1)) (C := RX3) (T := TX3) (N := 3) hx hb hts (q_sub wsX30 10 rfl) hown hE.K (q_P1 h_x) 0 rfl rfl 0 (by decide) (hts _ (List.mem_of_getElem? (i := 3) rfl)) (fun _ h9 => h9) rfl dX3_checkCode_1 ?_
  refine lv_iload_n hx hb dX3_checkCode_4 rfl (lv_at hl 1 rfl) ?_
  refine q_roV (As := [.int x]) (rest := []) ⟨hx, hb, hml, hown, hts⟩ (c_X0_has (L := sL z) (by omega)) (cwV 1 hts gX3_checkCode_X0_has rfl rfl rfl (by decide +kernel) ⟨Nat.le_of_ble_eq_true rfl, Nat.le_of_ble_eq_true rfl⟩) hE hA h_c (va_recv hE.K (q_P1 h_c) (ci := 1) (q0 := 0) rfl rfl) rfl hl.1 rfl (Nat.le_of_ble_eq_true rfl) dX3_checkCode_5 ⟨Nat.zero_le _, Nat.zero_le _⟩ ?_
  refine q_ifb_ne (tgt := 21) hx hb dX3_checkCode_8 (by decide) (fun c_1 => ?_) (fun c_1 => ?_)
  · exact q_vret hx hb hr hlocks dX3_checkCode_21
  · exact absurd hx_ c_1
set_option maxHeartbeats 4000000 in
set_option maxRecDepth 100000 in
theorem ct_X3_checkCode {l : Launch} (hl0 : l.stackTraces = false) {g : gT} {ad : Nat → Nat} {mc : Int32} {M : Nat} {sig : Nat → Int32} {z : sT} (hM : wM M (sn z)) (hV : VS z) {x : Int32} (hx_ : ¬ inR x (sL z)) : TH l yX3_checkCode wsX3_checkCode ({ frames := 6, cells := 1, slots := 6, locals := 90 } : Room) [.ref (ad 0), .int x] g (fun H => va_P g.1 vwCl (wC g ad mc M sig z) H) xI := by
  refine TH.of (cc := cX3_checkCode) (maxL := 2) (ret := none) (by decide) rfl (Nat.le_of_ble_eq_true rfl) ?_
  intro p e s m below meth c hx hb hml hr hlocks hown hts hno hE hF ls hl
  have hown : s.vm.findClass RX3 = some m.cls := hown
  have hA : ∀ q, s.heap.size ≤ q → q_n s.heap q := fun _ h => h
  have hP := hF
  have hl : lv_has ls 2 [(0, .ref (ad 0)), (1, .int x)] := hl
  have hL := hV.L
  have hn := hV.n
  have h_x : va_at g.1 vwCl (ad 0, .inr (4, [.ref (ad 1), .ref (ad 2), .ref (ad 5)])) s.heap := hP 0 _ rfl
  have h_c : va_at g.1 vwCl (ad 1, .inr (1, [.int (nI (sL z))])) s.heap := hP 1 _ rfl
  have h_k : va_at g.1 vwCl (ad 2, .inr (3, [.ref (ad 3), .ref (ad 4), .ref (ad 1)])) s.heap := hP 2 _ rfl
  have h_st : va_at g.1 vwCl (ad 3, .inl (gI g, 20, .inl (sst z))) s.heap := hP 3 _ rfl
  have h_sg : va_at g.1 vwCl (ad 4, .inl (gI g, 207, .inl sig)) s.heap := hP 4 _ rfl
  have h_l : va_at g.1 vwCl (ad 5, .inr (0, [.int mc, .ref (if M = 0 then gE g else ad 6), .int (nI (sn z))])) s.heap := hP 5 _ rfl
  refine lv_aload_n hx hb dX3_checkCode_0 rfl (lv_at hl 0 rfl) ?_
  refine va_get (v := .ref (ad 1)) (C := RX3) (T := TX3) (N := 3) hx hb hts (q_sub wsX30 10 rfl) hown hE.K (q_P1 h_x) 0 rfl rfl 0 (by decide) (hts _ (List.mem_of_getElem? (i := 3) rfl)) (fun _ h9 => h9) rfl dX3_checkCode_1 ?_
  refine lv_iload_n hx hb dX3_checkCode_4 rfl (lv_at hl 1 rfl) ?_
  refine q_roV (As := [.int x]) (rest := []) ⟨hx, hb, hml, hown, hts⟩ (c_X0_has (L := sL z) (by omega)) (cwV 1 hts gX3_checkCode_X0_has rfl rfl rfl (by decide +kernel) ⟨Nat.le_of_ble_eq_true rfl, Nat.le_of_ble_eq_true rfl⟩) hE hA h_c (va_recv hE.K (q_P1 h_c) (ci := 1) (q0 := 0) rfl rfl) rfl hl.1 rfl (Nat.le_of_ble_eq_true rfl) dX3_checkCode_5 ⟨Nat.zero_le _, Nat.zero_le _⟩ ?_
  refine q_ifb_ne (tgt := 21) hx hb dX3_checkCode_8 (by decide) (fun c_1 => ?_) (fun c_1 => ?_)
  · exact absurd c_1 hx_
  · exact q_throw (E := xI) (text := "there is no such code") (ik := 106) (is := 223) (ic := 110) hx hb hl0 hno hlocks hown hE hts (by decide +kernel) (by decide +kernel) (List.mem_of_getElem? (i := 1) rfl) (List.mem_of_getElem? (i := 2) rfl) (List.mem_of_getElem? (i := 10) rfl) (fun w h => List.mem_cons_of_mem _ (List.mem_append_right _ h)) (fun w h => List.mem_append_right _ (List.mem_append_left _ h)) (by decide +kernel) (hl.1.trans hml.symm) dX3_checkCode_11 dX3_checkCode_14 dX3_checkCode_15 dX3_checkCode_17 dX3_checkCode_20 (Nat.le_of_ble_eq_true rfl) (Nat.le_of_ble_eq_true rfl) (Nat.le_of_ble_eq_true rfl) (Nat.le_of_ble_eq_true rfl)
set_option maxHeartbeats 4000000 in
set_option maxRecDepth 100000 in
theorem c_X3_checkStrength {l : Launch} {g : gT} {ad : Nat → Nat} {mc : Int32} {M : Nat} {sig : Nat → Int32} {z : sT} (hM : wM M (sn z)) (hV : VS z) {x : Int32} (hx_ : inB x 1 9) : RO l yX3_checkStrength wsX3_checkStrength ({ frames := 0, cells := 0, slots := 0, locals := 0 } : Room) [.ref (ad 0), .int x] g (fun H => va_P g.1 vwCl (wC g ad mc M sig z) H) (none) := by
  refine RO.of (cc := cX3_checkStrength) (maxL := 2) (ret := none) (by decide) rfl (Nat.le_of_ble_eq_true rfl) ?_
  intro p e s m below meth c hx hb hml hr hlocks hown hts hE hF ls hl
  have hown : s.vm.findClass RX3 = some m.cls := hown
  have hA : ∀ q, s.heap.size ≤ q → q_n s.heap q := fun _ h => h
  have hP := hF
  have hl : lv_has ls 2 [(0, .ref (ad 0)), (1, .int x)] := hl
  have hL := hV.L
  have hn := hV.n
  have h_x : va_at g.1 vwCl (ad 0, .inr (4, [.ref (ad 1), .ref (ad 2), .ref (ad 5)])) s.heap := hP 0 _ rfl
  have h_c : va_at g.1 vwCl (ad 1, .inr (1, [.int (nI (sL z))])) s.heap := hP 1 _ rfl
  have h_k : va_at g.1 vwCl (ad 2, .inr (3, [.ref (ad 3), .ref (ad 4), .ref (ad 1)])) s.heap := hP 2 _ rfl
  have h_st : va_at g.1 vwCl (ad 3, .inl (gI g, 20, .inl (sst z))) s.heap := hP 3 _ rfl
  have h_sg : va_at g.1 vwCl (ad 4, .inl (gI g, 207, .inl sig)) s.heap := hP 4 _ rfl
  have h_l : va_at g.1 vwCl (ad 5, .inr (0, [.int mc, .ref (if M = 0 then gE g else ad 6), .int (nI (sn z))])) s.heap := hP 5 _ rfl
  obtain ⟨hx1_, hx2_⟩ := hx_
  refine lv_iload_n hx hb dX3_checkStrength_0 rfl (lv_at hl 1 rfl) ?_
  refine lv_iconst (v := nI 1) hx hb dX3_checkStrength_1 (by decide) ?_
  refine lv_icmp_lt (tgt := 11) hx hb dX3_checkStrength_2 (by decide) (fun c_1 => ?_) (fun c_1 => ?_)
  · have c_1 := (rlt_nI (by omega)).mp c_1
    exfalso; omega
  · have c_1 := mt (rlt_nI (by omega)).mpr c_1
    refine lv_iload_n hx hb dX3_checkStrength_5 rfl (lv_at hl 1 rfl) ?_
    refine lv_bipush (v := nI 9) hx hb dX3_checkStrength_6 (by decide) ?_
    refine lv_icmp_le (tgt := 21) hx hb dX3_checkStrength_8 (by decide) (fun c_2 => ?_) (fun c_2 => ?_)
    · have c_2 := (rle_nI (by omega)).mp c_2
      exact q_vret hx hb hr hlocks dX3_checkStrength_21
    · have c_2 := mt (rle_nI (by omega)).mpr c_2
      exfalso; omega
set_option maxHeartbeats 4000000 in
set_option maxRecDepth 100000 in
theorem ct_X3_checkStrength {l : Launch} (hl0 : l.stackTraces = false) {g : gT} {ad : Nat → Nat} {mc : Int32} {M : Nat} {sig : Nat → Int32} {z : sT} (hM : wM M (sn z)) (hV : VS z) {x : Int32} (hx_ : ¬ inB x 1 9) : TH l yX3_checkStrength wsX3_checkStrength ({ frames := 6, cells := 1, slots := 6, locals := 90 } : Room) [.ref (ad 0), .int x] g (fun H => va_P g.1 vwCl (wC g ad mc M sig z) H) xA := by
  refine TH.of (cc := cX3_checkStrength) (maxL := 2) (ret := none) (by decide) rfl (Nat.le_of_ble_eq_true rfl) ?_
  intro p e s m below meth c hx hb hml hr hlocks hown hts hno hE hF ls hl
  have hown : s.vm.findClass RX3 = some m.cls := hown
  have hA : ∀ q, s.heap.size ≤ q → q_n s.heap q := fun _ h => h
  have hP := hF
  have hl : lv_has ls 2 [(0, .ref (ad 0)), (1, .int x)] := hl
  have hL := hV.L
  have hn := hV.n
  have h_x : va_at g.1 vwCl (ad 0, .inr (4, [.ref (ad 1), .ref (ad 2), .ref (ad 5)])) s.heap := hP 0 _ rfl
  have h_c : va_at g.1 vwCl (ad 1, .inr (1, [.int (nI (sL z))])) s.heap := hP 1 _ rfl
  have h_k : va_at g.1 vwCl (ad 2, .inr (3, [.ref (ad 3), .ref (ad 4), .ref (ad 1)])) s.heap := hP 2 _ rfl
  have h_st : va_at g.1 vwCl (ad 3, .inl (gI g, 20, .inl (sst z))) s.heap := hP 3 _ rfl
  have h_sg : va_at g.1 vwCl (ad 4, .inl (gI g, 207, .inl sig)) s.heap := hP 4 _ rfl
  have h_l : va_at g.1 vwCl (ad 5, .inr (0, [.int mc, .ref (if M = 0 then gE g else ad 6), .int (nI (sn z))])) s.heap := hP 5 _ rfl
  have hx_ : ¬ (1 ≤ x.toInt ∧ x.toInt ≤ 9) := hx_
  refine lv_iload_n hx hb dX3_checkStrength_0 rfl (lv_at hl 1 rfl) ?_
  refine lv_iconst (v := nI 1) hx hb dX3_checkStrength_1 (by decide) ?_
  refine lv_icmp_lt (tgt := 11) hx hb dX3_checkStrength_2 (by decide) (fun c_1 => ?_) (fun c_1 => ?_)
  · have c_1 := (rlt_nI (by omega)).mp c_1
    exact q_throw (E := xA) (text := "strength is not 1 to 9") (ik := 32) (is := 225) (ic := 36) hx hb hl0 hno hlocks hown hE hts (by decide +kernel) (by decide +kernel) (List.mem_of_getElem? (i := 1) rfl) (List.mem_of_getElem? (i := 2) rfl) (List.mem_of_getElem? (i := 11) rfl) (fun w h => List.mem_cons_of_mem _ (List.mem_append_right _ h)) (fun w h => List.mem_append_right _ (List.mem_append_right _ (List.mem_append_left _ h))) (by decide +kernel) (hl.1.trans hml.symm) dX3_checkStrength_11 dX3_checkStrength_14 dX3_checkStrength_15 dX3_checkStrength_17 dX3_checkStrength_20 (Nat.le_of_ble_eq_true rfl) (Nat.le_of_ble_eq_true rfl) (Nat.le_of_ble_eq_true rfl) (Nat.le_of_ble_eq_true rfl)
  · have c_1 := mt (rlt_nI (by omega)).mpr c_1
    refine lv_iload_n hx hb dX3_checkStrength_5 rfl (lv_at hl 1 rfl) ?_
    refine lv_bipush (v := nI 9) hx hb dX3_checkStrength_6 (by decide) ?_
    refine lv_icmp_le (tgt := 21) hx hb dX3_checkStrength_8 (by decide) (fun c_2 => ?_) (fun c_2 => ?_)
    · have c_2 := (rle_nI (by omega)).mp c_2
      exfalso; omega
    · have c_2 := mt (rle_nI (by omega)).mpr c_2
      exact q_throw (E := xA) (text := "strength is not 1 to 9") (ik := 32) (is := 225) (ic := 36) hx hb hl0 hno hlocks hown hE hts (by decide +kernel) (by decide +kernel) (List.mem_of_getElem? (i := 1) rfl) (List.mem_of_getElem? (i := 2) rfl) (List.mem_of_getElem? (i := 11) rfl) (fun w h => List.mem_cons_of_mem _ (List.mem_append_right _ h)) (fun w h => List.mem_append_right _ (List.mem_append_right _ (List.mem_append_left _ h))) (by decide +kernel) (hl.1.trans hml.symm) dX3_checkStrength_11 dX3_checkStrength_14 dX3_checkStrength_15 dX3_checkStrength_17 dX3_checkStrength_20 (Nat.le_of_ble_eq_true rfl) (Nat.le_of_ble_eq_true rfl) (Nat.le_of_ble_eq_true rfl) (Nat.le_of_ble_eq_true rfl)
set_option maxHeartbeats 4000000 in
set_option maxRecDepth 100000 in
theorem c_X3_checkDelay {l : Launch} {g : gT} {ad : Nat → Nat} {mc : Int32} {M : Nat} {sig : Nat → Int32} {z : sT} (hM : wM M (sn z)) (hV : VS z) {x : Int32} (hx_ : inR x (sL z)) : RO l yX3_checkDelay wsX3_checkDelay ({ frames := 0, cells := 0, slots := 0, locals := 0 } : Room) [.ref (ad 0), .int x] g (fun H => va_P g.1 vwCl (wC g ad mc M sig z) H) (none) := by
  refine RO.of (cc := cX3_checkDelay) (maxL := 2) (ret := none) (by decide) rfl (Nat.le_of_ble_eq_true rfl) ?_
  intro p e s m below meth c hx hb hml hr hlocks hown hts hE hF ls hl
  have hown : s.vm.findClass RX3 = some m.cls := hown
  have hA : ∀ q, s.heap.size ≤ q → q_n s.heap q := fun _ h => h
  have hP := hF
  have hl : lv_has ls 2 [(0, .ref (ad 0)), (1, .int x)] := hl
  have hL := hV.L
  have hn := hV.n
  have h_x : va_at g.1 vwCl (ad 0, .inr (4, [.ref (ad 1), .ref (ad 2), .ref (ad 5)])) s.heap := hP 0 _ rfl
  have h_c : va_at g.1 vwCl (ad 1, .inr (1, [.int (nI (sL z))])) s.heap := hP 1 _ rfl
  have h_k : va_at g.1 vwCl (ad 2, .inr (3, [.ref (ad 3), .ref (ad 4), .ref (ad 1)])) s.heap := hP 2 _ rfl
  have h_st : va_at g.1 vwCl (ad 3, .inl (gI g, 20, .inl (sst z))) s.heap := hP 3 _ rfl
  have h_sg : va_at g.1 vwCl (ad 4, .inl (gI g, 207, .inl sig)) s.heap := hP 4 _ rfl
  have h_l : va_at g.1 vwCl (ad 5, .inr (0, [.int mc, .ref (if M = 0 then gE g else ad 6), .int (nI (sn z))])) s.heap := hP 5 _ rfl
  obtain ⟨hx1_, hx2_⟩ := hx_
  refine lv_iload_n hx hb dX3_checkDelay_0 rfl (lv_at hl 1 rfl) ?_
  refine lv_if_lt (tgt := 15) hx hb dX3_checkDelay_1 (by decide) (fun c_1 => ?_) (fun c_1 => ?_)
  · have c_1 := rlt_0.mp c_1
    exfalso; omega
  · have c_1 := mt rlt_0.mpr c_1
    refine lv_iload_n hx hb dX3_checkDelay_4 rfl (lv_at hl 1 rfl) ?_
    refine lv_aload_n hx hb dX3_checkDelay_5 rfl (lv_at hl 0 rfl) ?_
    refine va_get (v := .ref (ad 1)) (C := RX3) (T := TX3) (N := 3) hx hb hts (q_sub wsX30 5 rfl) hown hE.K (q_P1 h_x) 0 rfl rfl 0 (by decide) (hts _ (List.mem_of_getElem? (i := 3) rfl)) (fun _ h9 => h9) rfl dX3_checkDelay_6 ?_
    refine va_get (v := .int (nI (sL z))) (C := RX0) (T := TX0) (N := 1) hx hb hts (q_sub wsX00 8 rfl) hown hE.K (q_P1 h_c) 0 rfl rfl 0 (by decide) (hts _ (List.mem_of_getElem? (i := 4) rfl)) (fun _ h9 => h9) rfl dX3_checkDelay_9 ?_
    refine lv_icmp_lt (tgt := 25) hx hb dX3_checkDelay_12 (by decide) (fun c_2 => ?_) (fun c_2 => ?_)
    · have c_2 := (rlt_nI (by omega)).mp c_2
      exact q_vret hx hb hr hlocks dX3_checkDelay_25
    · have c_2 := mt (rlt_nI (by omega)).mpr c_2
      exfalso; omega
set_option maxHeartbeats 4000000 in
set_option maxRecDepth 100000 in
theorem ct_X3_checkDelay {l : Launch} (hl0 : l.stackTraces = false) {g : gT} {ad : Nat → Nat} {mc : Int32} {M : Nat} {sig : Nat → Int32} {z : sT} (hM : wM M (sn z)) (hV : VS z) {x : Int32} (hx_ : ¬ inR x (sL z)) : TH l yX3_checkDelay wsX3_checkDelay ({ frames := 6, cells := 1, slots := 6, locals := 90 } : Room) [.ref (ad 0), .int x] g (fun H => va_P g.1 vwCl (wC g ad mc M sig z) H) xA := by
  refine TH.of (cc := cX3_checkDelay) (maxL := 2) (ret := none) (by decide) rfl (Nat.le_of_ble_eq_true rfl) ?_
  intro p e s m below meth c hx hb hml hr hlocks hown hts hno hE hF ls hl
  have hown : s.vm.findClass RX3 = some m.cls := hown
  have hA : ∀ q, s.heap.size ≤ q → q_n s.heap q := fun _ h => h
  have hP := hF
  have hl : lv_has ls 2 [(0, .ref (ad 0)), (1, .int x)] := hl
  have hL := hV.L
  have hn := hV.n
  have h_x : va_at g.1 vwCl (ad 0, .inr (4, [.ref (ad 1), .ref (ad 2), .ref (ad 5)])) s.heap := hP 0 _ rfl
  have h_c : va_at g.1 vwCl (ad 1, .inr (1, [.int (nI (sL z))])) s.heap := hP 1 _ rfl
  have h_k : va_at g.1 vwCl (ad 2, .inr (3, [.ref (ad 3), .ref (ad 4), .ref (ad 1)])) s.heap := hP 2 _ rfl
  have h_st : va_at g.1 vwCl (ad 3, .inl (gI g, 20, .inl (sst z))) s.heap := hP 3 _ rfl
  have h_sg : va_at g.1 vwCl (ad 4, .inl (gI g, 207, .inl sig)) s.heap := hP 4 _ rfl
  have h_l : va_at g.1 vwCl (ad 5, .inr (0, [.int mc, .ref (if M = 0 then gE g else ad 6), .int (nI (sn z))])) s.heap := hP 5 _ rfl
  have hx_ : ¬ (0 ≤ x.toInt ∧ x.toInt < (sL z : Int)) := hx_
  refine lv_iload_n hx hb dX3_checkDelay_0 rfl (lv_at hl 1 rfl) ?_
  refine lv_if_lt (tgt := 15) hx hb dX3_checkDelay_1 (by decide) (fun c_1 => ?_) (fun c_1 => ?_)
  · have c_1 := rlt_0.mp c_1
    exact q_throw (E := xA) (text := "delay is not 0 to L - 1") (ik := 32) (is := 227) (ic := 36) hx hb hl0 hno hlocks hown hE hts (by decide +kernel) (by decide +kernel) (List.mem_of_getElem? (i := 1) rfl) (List.mem_of_getElem? (i := 2) rfl) (List.mem_of_getElem? (i := 12) rfl) (fun w h => List.mem_cons_of_mem _ (List.mem_append_right _ h)) (fun w h => List.mem_append_right _ (List.mem_append_right _ (List.mem_append_left _ h))) (by decide +kernel) (hl.1.trans hml.symm) dX3_checkDelay_15 dX3_checkDelay_18 dX3_checkDelay_19 dX3_checkDelay_21 dX3_checkDelay_24 (Nat.le_of_ble_eq_true rfl) (Nat.le_of_ble_eq_true rfl) (Nat.le_of_ble_eq_true rfl) (Nat.le_of_ble_eq_true rfl)
  · have c_1 := mt rlt_0.mpr c_1
    refine lv_iload_n hx hb dX3_checkDelay_4 rfl (lv_at hl 1 rfl) ?_
    refine lv_aload_n hx hb dX3_checkDelay_5 rfl (lv_at hl 0 rfl) ?_
    refine va_get (v := .ref (ad 1)) (C := RX3) (T := TX3) (N := 3) hx hb hts (q_sub wsX30 5 rfl) hown hE.K (q_P1 h_x) 0 rfl rfl 0 (by decide) (hts _ (List.mem_of_getElem? (i := 3) rfl)) (fun _ h9 => h9) rfl dX3_checkDelay_6 ?_
    refine va_get (v := .int (nI (sL z))) (C := RX0) (T := TX0) (N := 1) hx hb hts (q_sub wsX00 8 rfl) hown hE.K (q_P1 h_c) 0 rfl rfl 0 (by decide) (hts _ (List.mem_of_getElem? (i := 4) rfl)) (fun _ h9 => h9) rfl dX3_checkDelay_9 ?_
    refine lv_icmp_lt (tgt := 25) hx hb dX3_checkDelay_12 (by decide) (fun c_2 => ?_) (fun c_2 => ?_)
    · have c_2 := (rlt_nI (by omega)).mp c_2
      exfalso; omega
    · have c_2 := mt (rlt_nI (by omega)).mpr c_2
      exact q_throw (E := xA) (text := "delay is not 0 to L - 1") (ik := 32) (is := 227) (ic := 36) hx hb hl0 hno hlocks hown hE hts (by decide +kernel) (by decide +kernel) (List.mem_of_getElem? (i := 1) rfl) (List.mem_of_getElem? (i := 2) rfl) (List.mem_of_getElem? (i := 12) rfl) (fun w h => List.mem_cons_of_mem _ (List.mem_append_right _ h)) (fun w h => List.mem_append_right _ (List.mem_append_right _ (List.mem_append_left _ h))) (by decide +kernel) (hl.1.trans hml.symm) dX3_checkDelay_15 dX3_checkDelay_18 dX3_checkDelay_19 dX3_checkDelay_21 dX3_checkDelay_24 (Nat.le_of_ble_eq_true rfl) (Nat.le_of_ble_eq_true rfl) (Nat.le_of_ble_eq_true rfl) (Nat.le_of_ble_eq_true rfl)
set_option maxHeartbeats 4000000 in
set_option maxRecDepth 100000 in
theorem c_X3_checkTime {l : Launch} {g : gT} {ad : Nat → Nat} {mc : Int32} {M : Nat} {sig : Nat → Int32} {z : sT} (hM : wM M (sn z)) (hV : VS z) {x : Int32} (hx_ : inR x 1000) : RO l yX3_checkTime wsX3_checkTime ({ frames := 0, cells := 0, slots := 0, locals := 0 } : Room) [.ref (ad 0), .int x] g (fun H => va_P g.1 vwCl (wC g ad mc M sig z) H) (none) := by
  refine RO.of (cc := cX3_checkTime) (maxL := 2) (ret := none) (by decide) rfl (Nat.le_of_ble_eq_true rfl) ?_
  intro p e s m below meth c hx hb hml hr hlocks hown hts hE hF ls hl
  have hown : s.vm.findClass RX3 = some m.cls := hown
  have hA : ∀ q, s.heap.size ≤ q → q_n s.heap q := fun _ h => h
  have hP := hF
  have hl : lv_has ls 2 [(0, .ref (ad 0)), (1, .int x)] := hl
  have hL := hV.L
  have hn := hV.n
  have h_x : va_at g.1 vwCl (ad 0, .inr (4, [.ref (ad 1), .ref (ad 2), .ref (ad 5)])) s.heap := hP 0 _ rfl
  have h_c : va_at g.1 vwCl (ad 1, .inr (1, [.int (nI (sL z))])) s.heap := hP 1 _ rfl
  have h_k : va_at g.1 vwCl (ad 2, .inr (3, [.ref (ad 3), .ref (ad 4), .ref (ad 1)])) s.heap := hP 2 _ rfl
  have h_st : va_at g.1 vwCl (ad 3, .inl (gI g, 20, .inl (sst z))) s.heap := hP 3 _ rfl
  have h_sg : va_at g.1 vwCl (ad 4, .inl (gI g, 207, .inl sig)) s.heap := hP 4 _ rfl
  have h_l : va_at g.1 vwCl (ad 5, .inr (0, [.int mc, .ref (if M = 0 then gE g else ad 6), .int (nI (sn z))])) s.heap := hP 5 _ rfl
  obtain ⟨hx1_, hx2_⟩ := hx_
  refine lv_iload_n hx hb dX3_checkTime_0 rfl (lv_at hl 1 rfl) ?_
  refine lv_if_lt (tgt := 11) hx hb dX3_checkTime_1 (by decide) (fun c_1 => ?_) (fun c_1 => ?_)
  · have c_1 := rlt_0.mp c_1
    exfalso; omega
  · have c_1 := mt rlt_0.mpr c_1
    refine lv_iload_n hx hb dX3_checkTime_4 rfl (lv_at hl 1 rfl) ?_
    refine lv_sipush (v := nI 999) hx hb dX3_checkTime_5 (by decide) ?_
    refine lv_icmp_le (tgt := 21) hx hb dX3_checkTime_8 (by decide) (fun c_2 => ?_) (fun c_2 => ?_)
    · have c_2 := (rle_nI (by omega)).mp c_2
      exact q_vret hx hb hr hlocks dX3_checkTime_21
    · have c_2 := mt (rle_nI (by omega)).mpr c_2
      exfalso; omega
set_option maxHeartbeats 4000000 in
set_option maxRecDepth 100000 in
theorem ct_X3_checkTime {l : Launch} (hl0 : l.stackTraces = false) {g : gT} {ad : Nat → Nat} {mc : Int32} {M : Nat} {sig : Nat → Int32} {z : sT} (hM : wM M (sn z)) (hV : VS z) {x : Int32} (hx_ : ¬ inR x 1000) : TH l yX3_checkTime wsX3_checkTime ({ frames := 6, cells := 1, slots := 6, locals := 90 } : Room) [.ref (ad 0), .int x] g (fun H => va_P g.1 vwCl (wC g ad mc M sig z) H) xA := by
  refine TH.of (cc := cX3_checkTime) (maxL := 2) (ret := none) (by decide) rfl (Nat.le_of_ble_eq_true rfl) ?_
  intro p e s m below meth c hx hb hml hr hlocks hown hts hno hE hF ls hl
  have hown : s.vm.findClass RX3 = some m.cls := hown
  have hA : ∀ q, s.heap.size ≤ q → q_n s.heap q := fun _ h => h
  have hP := hF
  have hl : lv_has ls 2 [(0, .ref (ad 0)), (1, .int x)] := hl
  have hL := hV.L
  have hn := hV.n
  have h_x : va_at g.1 vwCl (ad 0, .inr (4, [.ref (ad 1), .ref (ad 2), .ref (ad 5)])) s.heap := hP 0 _ rfl
  have h_c : va_at g.1 vwCl (ad 1, .inr (1, [.int (nI (sL z))])) s.heap := hP 1 _ rfl
  have h_k : va_at g.1 vwCl (ad 2, .inr (3, [.ref (ad 3), .ref (ad 4), .ref (ad 1)])) s.heap := hP 2 _ rfl
  have h_st : va_at g.1 vwCl (ad 3, .inl (gI g, 20, .inl (sst z))) s.heap := hP 3 _ rfl
  have h_sg : va_at g.1 vwCl (ad 4, .inl (gI g, 207, .inl sig)) s.heap := hP 4 _ rfl
  have h_l : va_at g.1 vwCl (ad 5, .inr (0, [.int mc, .ref (if M = 0 then gE g else ad 6), .int (nI (sn z))])) s.heap := hP 5 _ rfl
  have hx_ : ¬ (0 ≤ x.toInt ∧ x.toInt < ((1000 : Nat) : Int)) := hx_
  refine lv_iload_n hx hb dX3_checkTime_0 rfl (lv_at hl 1 rfl) ?_
  refine lv_if_lt (tgt := 11) hx hb dX3_checkTime_1 (by decide) (fun c_1 => ?_) (fun c_1 => ?_)
  · have c_1 := rlt_0.mp c_1
    exact q_throw (E := xA) (text := "time is not 0 to 999") (ik := 32) (is := 229) (ic := 36) hx hb hl0 hno hlocks hown hE hts (by decide +kernel) (by decide +kernel) (List.mem_of_getElem? (i := 1) rfl) (List.mem_of_getElem? (i := 2) rfl) (List.mem_of_getElem? (i := 13) rfl) (fun w h => List.mem_cons_of_mem _ (List.mem_append_right _ h)) (fun w h => List.mem_append_right _ (List.mem_append_right _ (List.mem_append_left _ h))) (by decide +kernel) (hl.1.trans hml.symm) dX3_checkTime_11 dX3_checkTime_14 dX3_checkTime_15 dX3_checkTime_17 dX3_checkTime_20 (Nat.le_of_ble_eq_true rfl) (Nat.le_of_ble_eq_true rfl) (Nat.le_of_ble_eq_true rfl) (Nat.le_of_ble_eq_true rfl)
  · have c_1 := mt rlt_0.mpr c_1
    refine lv_iload_n hx hb dX3_checkTime_4 rfl (lv_at hl 1 rfl) ?_
    refine lv_sipush (v := nI 999) hx hb dX3_checkTime_5 (by decide) ?_
    refine lv_icmp_le (tgt := 21) hx hb dX3_checkTime_8 (by decide) (fun c_2 => ?_) (fun c_2 => ?_)
    · have c_2 := (rle_nI (by omega)).mp c_2
      exfalso; omega
    · have c_2 := mt (rle_nI (by omega)).mpr c_2
      exact q_throw (E := xA) (text := "time is not 0 to 999") (ik := 32) (is := 229) (ic := 36) hx hb hl0 hno hlocks hown hE hts (by decide +kernel) (by decide +kernel) (List.mem_of_getElem? (i := 1) rfl) (List.mem_of_getElem? (i := 2) rfl) (List.mem_of_getElem? (i := 13) rfl) (fun w h => List.mem_cons_of_mem _ (List.mem_append_right _ h)) (fun w h => List.mem_append_right _ (List.mem_append_right _ (List.mem_append_left _ h))) (by decide +kernel) (hl.1.trans hml.symm) dX3_checkTime_11 dX3_checkTime_14 dX3_checkTime_15 dX3_checkTime_17 dX3_checkTime_20 (Nat.le_of_ble_eq_true rfl) (Nat.le_of_ble_eq_true rfl) (Nat.le_of_ble_eq_true rfl) (Nat.le_of_ble_eq_true rfl)
set_option maxHeartbeats 4000000 in
set_option maxRecDepth 100000 in
theorem c_X3_hillAt {l : Launch} {g : gT} {ad : Nat → Nat} {mc : Int32} {M : Nat} {sig : Nat → Int32} {z : sT} (hM : wM M (sn z)) (hV : VS z) {k : Nat} (hk_ : k < sn z) : RO l yX3_hillAt wsX3_hillAt ({ frames := 3, cells := 0, slots := 0, locals := 64 } : Room) [.ref (ad 0), .int (nI k)] g (fun H => va_P g.1 vwCl (wC g ad mc M sig z) H) (some (.ref (ad (2 * k + 7)))) := by
  refine RO.of (cc := cX3_hillAt) (maxL := 2) (ret := (some (.object "FlagChips$Hill"))) (by decide) rfl (Nat.le_of_ble_eq_true rfl) ?_
  intro p e s m below meth c hx hb hml hr hlocks hown hts hE hF ls hl
  have hown : s.vm.findClass RX3 = some m.cls := hown
  have hA : ∀ q, s.heap.size ≤ q → q_n s.heap q := fun _ h => h
  have hP := hF
  have hl : lv_has ls 2 [(0, .ref (ad 0)), (1, .int (nI k))] := hl
  have hL := hV.L
  have hn := hV.n
  have h_x : va_at g.1 vwCl (ad 0, .inr (4, [.ref (ad 1), .ref (ad 2), .ref (ad 5)])) s.heap := hP 0 _ rfl
  have h_c : va_at g.1 vwCl (ad 1, .inr (1, [.int (nI (sL z))])) s.heap := hP 1 _ rfl
  have h_k : va_at g.1 vwCl (ad 2, .inr (3, [.ref (ad 3), .ref (ad 4), .ref (ad 1)])) s.heap := hP 2 _ rfl
  have h_st : va_at g.1 vwCl (ad 3, .inl (gI g, 20, .inl (sst z))) s.heap := hP 3 _ rfl
  have h_sg : va_at g.1 vwCl (ad 4, .inl (gI g, 207, .inl sig)) s.heap := hP 4 _ rfl
  have h_l : va_at g.1 vwCl (ad 5, .inr (0, [.int mc, .ref (if M = 0 then gE g else ad 6), .int (nI (sn z))])) s.heap := hP 5 _ rfl
  have hb_ := hV.h hk_
  have h_h := hP (2 * k + 7) _ (wC_h hM hk_)
  have h_w := hP (2 * k + 8) _ (wC_w hM hk_)
  have h_e := hP 6 _ (wC_e (by omega))
  have h_l6 : va_at g.1 vwCl (ad 5, .inr (0, [.int mc, .ref (ad 6), .int (nI (sn z))])) s.heap := by
    have := h_l
    rwa [if_neg (show ¬ M = 0 by omega)] at this
  refine lv_iload_n hx hb dX3_hillAt_0 rfl (lv_at hl 1 rfl) ?_
  refine q_if_lt (tgt := 15) hx hb (by omega) dX3_hillAt_1 (by decide) ?_
  refine lv_iload_n hx hb dX3_hillAt_4 rfl (lv_at hl 1 rfl) ?_
  refine lv_aload_n hx hb dX3_hillAt_5 rfl (lv_at hl 0 rfl) ?_
  refine va_get (v := .ref (ad 5)) (C := RX3) (T := TX3) (N := 3) hx hb hts (q_sub wsX30 28 rfl) hown hE.K (q_P1 h_x) 0 rfl rfl 2 (by decide) (hts _ (List.mem_of_getElem? (i := 3) rfl)) (fun _ h9 => h9) rfl dX3_hillAt_6 ?_
  refine q_roV (As := []) (rest := [.int (nI k)]) ⟨hx, hb, hml, hown, hts⟩ (c_size ) (cwV 0 hts gX3_hillAt_Jx4a65c_size_8abf5 rfl rfl rfl (by decide +kernel) ⟨Nat.le_of_ble_eq_true rfl, Nat.le_of_ble_eq_true rfl⟩) hE hA h_l (va_recv hE.K (q_P1 h_l) (ci := 0) (q0 := 0) rfl rfl) rfl hl.1 rfl (Nat.le_of_ble_eq_true rfl) dX3_hillAt_9 ⟨Nat.zero_le _, Nat.zero_le _⟩ ?_
  refine q_icmp_lt (tgt := 25) hx hb (by omega) (by omega) dX3_hillAt_12 (by decide) (fun c_2 => ?_) (fun c_2 => ?_)
  · refine lv_aload_n hx hb dX3_hillAt_25 rfl (lv_at hl 0 rfl) ?_
    refine va_get (v := .ref (ad 5)) (C := RX3) (T := TX3) (N := 3) hx hb hts (q_sub wsX30 28 rfl) hown hE.K (q_P1 h_x) 0 rfl rfl 2 (by decide) (hts _ (List.mem_of_getElem? (i := 3) rfl)) (fun _ h9 => h9) rfl dX3_hillAt_26 ?_
    refine lv_iload_n hx hb dX3_hillAt_29 rfl (lv_at hl 1 rfl) ?_
    refine q_roV (As := [.int (nI k)]) (rest := []) ⟨hx, hb, hml, hown, hts⟩ (c_get (i := k) (b := ad (2 * k + 7)) hk_ hn (rowF_lt hk_)) (cwV 1 hts gX3_hillAt_Jx4a65c_get_915e3 rfl rfl rfl (by decide +kernel) ⟨Nat.le_of_ble_eq_true rfl, Nat.le_of_ble_eq_true rfl⟩) hE hA ⟨h_l6, h_e⟩ (va_recv hE.K (q_P1 h_l) (ci := 0) (q0 := 0) rfl rfl) rfl hl.1 rfl (Nat.le_of_ble_eq_true rfl) dX3_hillAt_30 ⟨Nat.zero_le _, Nat.zero_le _⟩ ?_
    refine va_castY (C := RX1) (nm := RX1) hx hb hown (hts _ (List.mem_of_getElem? (i := 4) rfl)) (hE.1.2.2.2.1 _ (List.mem_of_getElem? (i := 0) rfl)) (va_recv hE.K (q_P1 h_h) (ci := 2) (q0 := 0) rfl rfl) dX3_hillAt_33 ?_
    exact q_aret hx hb hr (Or.inl ⟨_, rfl⟩) hlocks dX3_hillAt_36
  · exact absurd c_2 (by omega)
set_option maxHeartbeats 4000000 in
set_option maxRecDepth 100000 in
theorem ct_X3_hillAt {l : Launch} (hl0 : l.stackTraces = false) {g : gT} {ad : Nat → Nat} {mc : Int32} {M : Nat} {sig : Nat → Int32} {z : sT} (hM : wM M (sn z)) (hV : VS z) {x : Int32} (hx_ : ¬ inR x (sn z)) : TH l yX3_hillAt wsX3_hillAt ({ frames := 6, cells := 1, slots := 6, locals := 90 } : Room) [.ref (ad 0), .int x] g (fun H => va_P g.1 vwCl (wC g ad mc M sig z) H) xI := by
  refine TH.of (cc := cX3_hillAt) (maxL := 2) (ret := (some (.object "FlagChips$Hill"))) (by decide) rfl (Nat.le_of_ble_eq_true rfl) ?_
  intro p e s m below meth c hx hb hml hr hlocks hown hts hno hE hF ls hl
  have hown : s.vm.findClass RX3 = some m.cls := hown
  have hA : ∀ q, s.heap.size ≤ q → q_n s.heap q := fun _ h => h
  have hP := hF
  have hl : lv_has ls 2 [(0, .ref (ad 0)), (1, .int x)] := hl
  have hL := hV.L
  have hn := hV.n
  have h_x : va_at g.1 vwCl (ad 0, .inr (4, [.ref (ad 1), .ref (ad 2), .ref (ad 5)])) s.heap := hP 0 _ rfl
  have h_c : va_at g.1 vwCl (ad 1, .inr (1, [.int (nI (sL z))])) s.heap := hP 1 _ rfl
  have h_k : va_at g.1 vwCl (ad 2, .inr (3, [.ref (ad 3), .ref (ad 4), .ref (ad 1)])) s.heap := hP 2 _ rfl
  have h_st : va_at g.1 vwCl (ad 3, .inl (gI g, 20, .inl (sst z))) s.heap := hP 3 _ rfl
  have h_sg : va_at g.1 vwCl (ad 4, .inl (gI g, 207, .inl sig)) s.heap := hP 4 _ rfl
  have h_l : va_at g.1 vwCl (ad 5, .inr (0, [.int mc, .ref (if M = 0 then gE g else ad 6), .int (nI (sn z))])) s.heap := hP 5 _ rfl
  have hx_ : ¬ (0 ≤ x.toInt ∧ x.toInt < (sn z : Int)) := hx_
  refine lv_iload_n hx hb dX3_hillAt_0 rfl (lv_at hl 1 rfl) ?_
  refine lv_if_lt (tgt := 15) hx hb dX3_hillAt_1 (by decide) (fun c_1 => ?_) (fun c_1 => ?_)
  · have c_1 := rlt_0.mp c_1
    exact q_throw (E := xI) (text := "there is no such hill") (ik := 106) (is := 217) (ic := 110) hx hb hl0 hno hlocks hown hE hts (by decide +kernel) (by decide +kernel) (List.mem_of_getElem? (i := 1) rfl) (List.mem_of_getElem? (i := 2) rfl) (List.mem_of_getElem? (i := 9) rfl) (fun w h => List.mem_cons_of_mem _ (List.mem_append_right _ h)) (fun w h => List.mem_append_right _ (List.mem_append_left _ h)) (by decide +kernel) (hl.1.trans hml.symm) dX3_hillAt_15 dX3_hillAt_18 dX3_hillAt_19 dX3_hillAt_21 dX3_hillAt_24 (Nat.le_of_ble_eq_true rfl) (Nat.le_of_ble_eq_true rfl) (Nat.le_of_ble_eq_true rfl) (Nat.le_of_ble_eq_true rfl)
  · have c_1 := mt rlt_0.mpr c_1
    refine lv_iload_n hx hb dX3_hillAt_4 rfl (lv_at hl 1 rfl) ?_
    refine lv_aload_n hx hb dX3_hillAt_5 rfl (lv_at hl 0 rfl) ?_
    refine va_get (v := .ref (ad 5)) (C := RX3) (T := TX3) (N := 3) hx hb hts (q_sub wsX30 28 rfl) hown hE.K (q_P1 h_x) 0 rfl rfl 2 (by decide) (hts _ (List.mem_of_getElem? (i := 3) rfl)) (fun _ h9 => h9) rfl dX3_hillAt_6 ?_
    refine q_roV (As := []) (rest := [.int x]) ⟨hx, hb, hml, hown, hts⟩ (c_size ) (cwV 0 hts gX3_hillAt_Jx4a65c_size_8abf5 rfl rfl rfl (by decide +kernel) ⟨Nat.le_of_ble_eq_true rfl, Nat.le_of_ble_eq_true rfl⟩) hE hA h_l (va_recv hE.K (q_P1 h_l) (ci := 0) (q0 := 0) rfl rfl) rfl hl.1 rfl (Nat.le_of_ble_eq_true rfl) dX3_hillAt_9 ⟨Nat.zero_le _, Nat.zero_le _⟩ ?_
    refine lv_icmp_lt (tgt := 25) hx hb dX3_hillAt_12 (by decide) (fun c_2 => ?_) (fun c_2 => ?_)
    · have c_2 := (rlt_nI (by omega)).mp c_2
      exfalso; omega
    · have c_2 := mt (rlt_nI (by omega)).mpr c_2
      exact q_throw (E := xI) (text := "there is no such hill") (ik := 106) (is := 217) (ic := 110) hx hb hl0 hno hlocks hown hE hts (by decide +kernel) (by decide +kernel) (List.mem_of_getElem? (i := 1) rfl) (List.mem_of_getElem? (i := 2) rfl) (List.mem_of_getElem? (i := 9) rfl) (fun w h => List.mem_cons_of_mem _ (List.mem_append_right _ h)) (fun w h => List.mem_append_right _ (List.mem_append_left _ h)) (by decide +kernel) (hl.1.trans hml.symm) dX3_hillAt_15 dX3_hillAt_18 dX3_hillAt_19 dX3_hillAt_21 dX3_hillAt_24 (Nat.le_of_ble_eq_true rfl) (Nat.le_of_ble_eq_true rfl) (Nat.le_of_ble_eq_true rfl) (Nat.le_of_ble_eq_true rfl)
