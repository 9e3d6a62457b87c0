/-! ===== FlagChips: what the writers throw ===== -/
set_option maxHeartbeats 4000000 in
set_option maxRecDepth 100000 in
theorem ct_X3_setCodes_1 {l : Launch} (hl0 : l.stackTraces = false) {g : gT} {ad : Nat → Nat} {mc : Int32} {M : Nat} {sig : Nat → Int32} {z : sT} (hM : wM M (sn z)) (hV : VS z) {x : Int32} (hx_ : ¬ inB x 0 4) : TH l yX3_setCodes wsX3_setCodes ({ frames := 6, cells := 1, slots := 6, locals := 90 } : Room) [.ref (ad 0), .int x] g (fun H => va_P g.1 vwCl (wC g ad mc M sig z) H) xA := by
  refine TH.of (cc := cX3_setCodes) (maxL := 3) (ret := (some .int)) (by decide) rfl (Nat.le_of_ble_eq_true rfl) ?_
  intro p e s m below meth c hx hb hml hr hlocks hown hts hno hE hF ls hl
  have hown : s.vm.findClass RX3 = some m.cls := hown
  have hA : ∀ q, s.heap.size ≤ q → q_n s.heap q := fun _ h => h
  have hP := hF
  have hl : lv_has ls 3 [(0, .ref (ad 0)), (1, .int x)] := hl
  have hL := hV.L
  have hn := hV.n
  have h_x : va_at g.1 vwCl (ad 0, .inr (4, [.ref (ad 1), .ref (ad 2), .ref (ad 5)])) s.heap := hP 0 _ rfl
  have h_c : va_at g.1 vwCl (ad 1, .inr (1, [.int (nI (sL z))])) s.heap := hP 1 _ rfl
  have h_k : va_at g.1 vwCl (ad 2, .inr (3, [.ref (ad 3), .ref (ad 4), .ref (ad 1)])) s.heap := hP 2 _ rfl
  have h_st : va_at g.1 vwCl (ad 3, .inl (gI g, 20, .inl (sst z))) s.heap := hP 3 _ rfl
  have h_sg : va_at g.1 vwCl (ad 4, .inl (gI g, 207, .inl sig)) s.heap := hP 4 _ rfl
  have h_l : va_at g.1 vwCl (ad 5, .inr (0, [.int mc, .ref (if M = 0 then gE g else ad 6), .int (nI (sn z))])) s.heap := hP 5 _ rfl
  have hx_ : ¬ (0 ≤ x.toInt ∧ x.toInt ≤ 4) := hx_
  refine lv_iload_n hx hb dX3_setCodes_0 rfl (lv_at hl 1 rfl) ?_
  refine lv_if_lt (tgt := 9) hx hb dX3_setCodes_1 (by decide) (fun c_1 => ?_) (fun c_1 => ?_)
  · have c_1 := rlt_0.mp c_1
    exact q_throw (E := xA) (text := "power is not 0 to 4") (ik := 32) (is := 34) (ic := 36) hx hb hl0 hno hlocks hown hE hts (by decide +kernel) (by decide +kernel) (List.mem_of_getElem? (i := 1) rfl) (List.mem_of_getElem? (i := 2) rfl) (List.mem_of_getElem? (i := 0) rfl) (fun w h => List.mem_cons_of_mem _ (List.mem_append_right _ h)) (fun w h => List.mem_append_right _ (List.mem_append_right _ (List.mem_append_left _ h))) (by decide +kernel) (hl.1.trans hml.symm) dX3_setCodes_9 dX3_setCodes_12 dX3_setCodes_13 dX3_setCodes_15 dX3_setCodes_18 (Nat.le_of_ble_eq_true rfl) (Nat.le_of_ble_eq_true rfl) (Nat.le_of_ble_eq_true rfl) (Nat.le_of_ble_eq_true rfl)
  · have c_1 := mt rlt_0.mpr c_1
    refine lv_iload_n hx hb dX3_setCodes_4 rfl (lv_at hl 1 rfl) ?_
    refine lv_iconst (v := nI 4) hx hb dX3_setCodes_5 (by decide) ?_
    refine lv_icmp_le (tgt := 19) hx hb dX3_setCodes_6 (by decide) (fun c_2 => ?_) (fun c_2 => ?_)
    · have c_2 := (rle_nI (by omega)).mp c_2
      exfalso; omega
    · have c_2 := mt (rle_nI (by omega)).mpr c_2
      exact q_throw (E := xA) (text := "power is not 0 to 4") (ik := 32) (is := 34) (ic := 36) hx hb hl0 hno hlocks hown hE hts (by decide +kernel) (by decide +kernel) (List.mem_of_getElem? (i := 1) rfl) (List.mem_of_getElem? (i := 2) rfl) (List.mem_of_getElem? (i := 0) rfl) (fun w h => List.mem_cons_of_mem _ (List.mem_append_right _ h)) (fun w h => List.mem_append_right _ (List.mem_append_right _ (List.mem_append_left _ h))) (by decide +kernel) (hl.1.trans hml.symm) dX3_setCodes_9 dX3_setCodes_12 dX3_setCodes_13 dX3_setCodes_15 dX3_setCodes_18 (Nat.le_of_ble_eq_true rfl) (Nat.le_of_ble_eq_true rfl) (Nat.le_of_ble_eq_true rfl) (Nat.le_of_ble_eq_true rfl)
set_option maxHeartbeats 4000000 in
set_option maxRecDepth 100000 in
theorem ct_X3_hill_1 {l : Launch} (hl0 : l.stackTraces = false) {g : gT} {ad : Nat → Nat} {mc : Int32} {M : Nat} {sig : Nat → Int32} {z : sT} (hM : wM M (sn z)) (hV : VS z) {x y : Int32} (hx_ : ¬ inR x (sL z)) : TH l yX3_hill wsX3_hill ({ frames := 7, cells := 1, slots := 6, locals := 111 } : Room) [.ref (ad 0), .int x, .int y] g (fun H => va_P g.1 vwCl (wC g ad mc M sig z) H) xI := by
  refine TH.of (cc := cX3_hill) (maxL := 3) (ret := (some .int)) (by decide) rfl (Nat.le_of_ble_eq_true rfl) ?_
  intro p e s m below meth c hx hb hml hr hlocks hown hts hno hE hF ls hl
  have hown : s.vm.findClass RX3 = some m.cls := hown
  have hA : ∀ q, s.heap.size ≤ q → q_n s.heap q := fun _ h => h
  have hP := hF
  have hl : lv_has ls 3 [(0, .ref (ad 0)), (1, .int x), (2, .int y)] := hl
  have hL := hV.L
  have hn := hV.n
  have h_x : va_at g.1 vwCl (ad 0, .inr (4, [.ref (ad 1), .ref (ad 2), .ref (ad 5)])) s.heap := hP 0 _ rfl
  have h_c : va_at g.1 vwCl (ad 1, .inr (1, [.int (nI (sL z))])) s.heap := hP 1 _ rfl
  have h_k : va_at g.1 vwCl (ad 2, .inr (3, [.ref (ad 3), .ref (ad 4), .ref (ad 1)])) s.heap := hP 2 _ rfl
  have h_st : va_at g.1 vwCl (ad 3, .inl (gI g, 20, .inl (sst z))) s.heap := hP 3 _ rfl
  have h_sg : va_at g.1 vwCl (ad 4, .inl (gI g, 207, .inl sig)) s.heap := hP 4 _ rfl
  have h_l : va_at g.1 vwCl (ad 5, .inr (0, [.int mc, .ref (if M = 0 then gE g else ad 6), .int (nI (sn z))])) s.heap := hP 5 _ rfl
  refine lv_aload_n hx hb dX3_hill_0 rfl (lv_at hl 0 rfl) ?_
  refine lv_iload_n hx hb dX3_hill_1 rfl (lv_at hl 1 rfl) ?_
  exact q_thVo (As := [.int x]) (rest := []) hno hlocks ⟨hx, hb, hml, hown, hts⟩ (ct_X3_checkCode hl0 hM hV hx_) (cwV 1 hts gX3_hill_X3_checkCode rfl rfl rfl (by decide +kernel) ⟨Nat.le_of_ble_eq_true rfl, Nat.le_of_ble_eq_true rfl⟩) hE hA hP (va_recv hE.K (q_P1 h_x) (ci := 4) (q0 := 0) rfl rfl) rfl hl.1 rfl (Nat.le_of_ble_eq_true rfl) dX3_hill_2 ⟨Nat.le_of_ble_eq_true rfl, Nat.le_of_ble_eq_true rfl⟩
set_option maxHeartbeats 4000000 in
set_option maxRecDepth 100000 in
theorem ct_X3_hill_2 {l : Launch} (hl0 : l.stackTraces = false) {g : gT} {ad : Nat → Nat} {mc : Int32} {M : Nat} {sig : Nat → Int32} {z : sT} (hM : wM M (sn z)) (hV : VS z) {a : Nat} {x : Int32} (ha : a < sL z) (hx_ : ¬ inB x 1 9) : TH l yX3_hill wsX3_hill ({ frames := 7, cells := 1, slots := 6, locals := 111 } : Room) [.ref (ad 0), .int (nI a), .int x] g (fun H => va_P g.1 vwCl (wC g ad mc M sig z) H) xA := by
  refine TH.of (cc := cX3_hill) (maxL := 3) (ret := (some .int)) (by decide) rfl (Nat.le_of_ble_eq_true rfl) ?_
  intro p e s m below meth c hx hb hml hr hlocks hown hts hno hE hF ls hl
  have hown : s.vm.findClass RX3 = some m.cls := hown
  have hA : ∀ q, s.heap.size ≤ q → q_n s.heap q := fun _ h => h
  have hP := hF
  have hl : lv_has ls 3 [(0, .ref (ad 0)), (1, .int (nI a)), (2, .int x)] := hl
  have hL := hV.L
  have hn := hV.n
  have h_x : va_at g.1 vwCl (ad 0, .inr (4, [.ref (ad 1), .ref (ad 2), .ref (ad 5)])) s.heap := hP 0 _ rfl
  have h_c : va_at g.1 vwCl (ad 1, .inr (1, [.int (nI (sL z))])) s.heap := hP 1 _ rfl
  have h_k : va_at g.1 vwCl (ad 2, .inr (3, [.ref (ad 3), .ref (ad 4), .ref (ad 1)])) s.heap := hP 2 _ rfl
  have h_st : va_at g.1 vwCl (ad 3, .inl (gI g, 20, .inl (sst z))) s.heap := hP 3 _ rfl
  have h_sg : va_at g.1 vwCl (ad 4, .inl (gI g, 207, .inl sig)) s.heap := hP 4 _ rfl
  have h_l : va_at g.1 vwCl (ad 5, .inr (0, [.int mc, .ref (if M = 0 then gE g else ad 6), .int (nI (sn z))])) s.heap := hP 5 _ rfl
  refine lv_aload_n hx hb dX3_hill_0 rfl (lv_at hl 0 rfl) ?_
  refine lv_iload_n hx hb dX3_hill_1 rfl (lv_at hl 1 rfl) ?_
  refine q_roV (As := [.int (nI a)]) (rest := []) ⟨hx, hb, hml, hown, hts⟩ (c_X3_checkCode hM hV (x := nI a) (inR_nI ha (by omega))) (cwV 1 hts gX3_hill_X3_checkCode rfl rfl rfl (by decide +kernel) ⟨Nat.le_of_ble_eq_true rfl, Nat.le_of_ble_eq_true rfl⟩) hE hA hP (va_recv hE.K (q_P1 h_x) (ci := 4) (q0 := 0) rfl rfl) rfl hl.1 rfl (Nat.le_of_ble_eq_true rfl) dX3_hill_2 ⟨Nat.zero_le _, Nat.zero_le _⟩ ?_
  refine lv_aload_n hx hb dX3_hill_5 rfl (lv_at hl 0 rfl) ?_
  refine lv_iload_n hx hb dX3_hill_6 rfl (lv_at hl 2 rfl) ?_
  exact q_thVo (As := [.int x]) (rest := []) hno hlocks ⟨hx, hb, hml, hown, hts⟩ (ct_X3_checkStrength hl0 hM hV hx_) (cwV 1 hts gX3_hill_X3_checkStrength rfl rfl rfl (by decide +kernel) ⟨Nat.le_of_ble_eq_true rfl, Nat.le_of_ble_eq_true rfl⟩) hE hA hP (va_recv hE.K (q_P1 h_x) (ci := 4) (q0 := 0) rfl rfl) rfl hl.1 rfl (Nat.le_of_ble_eq_true rfl) dX3_hill_7 ⟨Nat.le_of_ble_eq_true rfl, Nat.le_of_ble_eq_true rfl⟩
set_option maxHeartbeats 4000000 in
set_option maxRecDepth 100000 in
theorem ct_X3_hill_3 {l : Launch} (hl0 : l.stackTraces = false) {g : gT} {ad : Nat → Nat} {mc : Int32} {M : Nat} {sig : Nat → Int32} {z : sT} (hM : wM M (sn z)) (hV : VS z) {a s_ : Nat} (ha : a < sL z) (h1_ : 1 ≤ s_) (h9_ : s_ ≤ 9) (hn_ : 8 ≤ sn z) : TH l yX3_hill wsX3_hill ({ frames := 6, cells := 1, slots := 6, locals := 90 } : Room) [.ref (ad 0), .int (nI a), .int (nI s_)] g (fun H => va_P g.1 vwCl (wC g ad mc M sig z) H) xS := by
  refine TH.of (cc := cX3_hill) (maxL := 3) (ret := (some .int)) (by decide) rfl (Nat.le_of_ble_eq_true rfl) ?_
  intro p e s m below meth c hx hb hml hr hlocks hown hts hno hE hF ls hl
  have hown : s.vm.findClass RX3 = some m.cls := hown
  have hA : ∀ q, s.heap.size ≤ q → q_n s.heap q := fun _ h => h
  have hP := hF
  have hl : lv_has ls 3 [(0, .ref (ad 0)), (1, .int (nI a)), (2, .int (nI s_))] := hl
  have hL := hV.L
  have hn := hV.n
  have h_x : va_at g.1 vwCl (ad 0, .inr (4, [.ref (ad 1), .ref (ad 2), .ref (ad 5)])) s.heap := hP 0 _ rfl
  have h_c : va_at g.1 vwCl (ad 1, .inr (1, [.int (nI (sL z))])) s.heap := hP 1 _ rfl
  have h_k : va_at g.1 vwCl (ad 2, .inr (3, [.ref (ad 3), .ref (ad 4), .ref (ad 1)])) s.heap := hP 2 _ rfl
  have h_st : va_at g.1 vwCl (ad 3, .inl (gI g, 20, .inl (sst z))) s.heap := hP 3 _ rfl
  have h_sg : va_at g.1 vwCl (ad 4, .inl (gI g, 207, .inl sig)) s.heap := hP 4 _ rfl
  have h_l : va_at g.1 vwCl (ad 5, .inr (0, [.int mc, .ref (if M = 0 then gE g else ad 6), .int (nI (sn z))])) s.heap := hP 5 _ rfl
  refine lv_aload_n hx hb dX3_hill_0 rfl (lv_at hl 0 rfl) ?_
  refine lv_iload_n hx hb dX3_hill_1 rfl (lv_at hl 1 rfl) ?_
  refine q_roV (As := [.int (nI a)]) (rest := []) ⟨hx, hb, hml, hown, hts⟩ (c_X3_checkCode hM hV (x := nI a) (inR_nI ha (by omega))) (cwV 1 hts gX3_hill_X3_checkCode rfl rfl rfl (by decide +kernel) ⟨Nat.le_of_ble_eq_true rfl, Nat.le_of_ble_eq_true rfl⟩) hE hA hP (va_recv hE.K (q_P1 h_x) (ci := 4) (q0 := 0) rfl rfl) rfl hl.1 rfl (Nat.le_of_ble_eq_true rfl) dX3_hill_2 ⟨Nat.zero_le _, Nat.zero_le _⟩ ?_
  refine lv_aload_n hx hb dX3_hill_5 rfl (lv_at hl 0 rfl) ?_
  refine lv_iload_n hx hb dX3_hill_6 rfl (lv_at hl 2 rfl) ?_
  refine q_roV (As := [.int (nI s_)]) (rest := []) ⟨hx, hb, hml, hown, hts⟩ (c_X3_checkStrength hM hV (x := nI s_) (inB_nI (by omega) (by omega) (by omega))) (cwV 1 hts gX3_hill_X3_checkStrength rfl rfl rfl (by decide +kernel) ⟨Nat.le_of_ble_eq_true rfl, Nat.le_of_ble_eq_true rfl⟩) hE hA hP (va_recv hE.K (q_P1 h_x) (ci := 4) (q0 := 0) rfl rfl) rfl hl.1 rfl (Nat.le_of_ble_eq_true rfl) dX3_hill_7 ⟨Nat.zero_le _, Nat.zero_le _⟩ ?_
  refine lv_aload_n hx hb dX3_hill_10 rfl (lv_at hl 0 rfl) ?_
  refine va_get (v := .ref (ad 5)) (C := RX3) (T := TX3) (N := 3) hx hb hts (q_sub wsX30 99 rfl) hown hE.K (q_P1 h_x) 0 rfl rfl 2 (by decide) (hts _ (List.mem_of_getElem? (i := 3) rfl)) (fun _ h9 => h9) rfl dX3_hill_11 ?_
  refine q_roV (As := []) (rest := []) ⟨hx, hb, hml, hown, hts⟩ (c_size ) (cwV 0 hts gX3_hill_Jx4a65c_size_8abf5 rfl rfl rfl (by decide +kernel) ⟨Nat.le_of_ble_eq_true rfl, Nat.le_of_ble_eq_true rfl⟩) hE hA h_l (va_recv hE.K (q_P1 h_l) (ci := 0) (q0 := 0) rfl rfl) rfl hl.1 rfl (Nat.le_of_ble_eq_true rfl) dX3_hill_14 ⟨Nat.zero_le _, Nat.zero_le _⟩ ?_
  refine lv_bipush (v := nI 8) hx hb dX3_hill_17 (by decide) ?_
  refine q_icmp_lt (tgt := 32) hx hb (by omega) (by omega) dX3_hill_19 (by decide) (fun c_1 => ?_) (fun c_1 => ?_)
  · exact absurd c_1 (by omega)
  · exact q_throw (E := xS) (text := "there are 8 hills") (ik := 60) (is := 62) (ic := 64) hx hb hl0 hno hlocks hown hE hts (by decide +kernel) (by decide +kernel) (List.mem_of_getElem? (i := 1) rfl) (List.mem_of_getElem? (i := 2) rfl) (List.mem_of_getElem? (i := 1) rfl) (fun w h => List.mem_cons_of_mem _ (List.mem_append_left _ (List.mem_append_left _ (List.mem_append_right _ h)))) (fun w h => List.mem_append_right _ (List.mem_append_right _ (List.mem_append_right _ h))) (by decide +kernel) (hl.1.trans hml.symm) dX3_hill_22 dX3_hill_25 dX3_hill_26 dX3_hill_28 dX3_hill_31 (Nat.le_of_ble_eq_true rfl) (Nat.le_of_ble_eq_true rfl) (Nat.le_of_ble_eq_true rfl) (Nat.le_of_ble_eq_true rfl)
set_option maxHeartbeats 4000000 in
set_option maxRecDepth 100000 in
theorem ct_X3_say_1 {l : Launch} (hl0 : l.stackTraces = false) {g : gT} {ad : Nat → Nat} {mc : Int32} {M : Nat} {sig : Nat → Int32} {z : sT} (hM : wM M (sn z)) (hV : VS z) {x y : Int32} (hx_ : ¬ inR x (sn z)) : TH l yX3_say wsX3_say ({ frames := 7, cells := 1, slots := 6, locals := 111 } : Room) [.ref (ad 0), .int x, .int y] g (fun H => va_P g.1 vwCl (wC g ad mc M sig z) H) xI := by
  refine TH.of (cc := cX3_say) (maxL := 4) (ret := (some .int)) (by decide) rfl (Nat.le_of_ble_eq_true rfl) ?_
  intro p e s m below meth c hx hb hml hr hlocks hown hts hno hE hF ls hl
  have hown : s.vm.findClass RX3 = some m.cls := hown
  have hA : ∀ q, s.heap.size ≤ q → q_n s.heap q := fun _ h => h
  have hP := hF
  have hl : lv_has ls 4 [(0, .ref (ad 0)), (1, .int x), (2, .int y)] := hl
  have hL := hV.L
  have hn := hV.n
  have h_x : va_at g.1 vwCl (ad 0, .inr (4, [.ref (ad 1), .ref (ad 2), .ref (ad 5)])) s.heap := hP 0 _ rfl
  have h_c : va_at g.1 vwCl (ad 1, .inr (1, [.int (nI (sL z))])) s.heap := hP 1 _ rfl
  have h_k : va_at g.1 vwCl (ad 2, .inr (3, [.ref (ad 3), .ref (ad 4), .ref (ad 1)])) s.heap := hP 2 _ rfl
  have h_st : va_at g.1 vwCl (ad 3, .inl (gI g, 20, .inl (sst z))) s.heap := hP 3 _ rfl
  have h_sg : va_at g.1 vwCl (ad 4, .inl (gI g, 207, .inl sig)) s.heap := hP 4 _ rfl
  have h_l : va_at g.1 vwCl (ad 5, .inr (0, [.int mc, .ref (if M = 0 then gE g else ad 6), .int (nI (sn z))])) s.heap := hP 5 _ rfl
  refine lv_aload_n hx hb dX3_say_0 rfl (lv_at hl 0 rfl) ?_
  refine lv_iload_n hx hb dX3_say_1 rfl (lv_at hl 1 rfl) ?_
  exact q_thVo (As := [.int x]) (rest := []) hno hlocks ⟨hx, hb, hml, hown, hts⟩ (ct_X3_hillAt hl0 hM hV hx_) (cwV 1 hts gX3_say_X3_hillAt rfl rfl rfl (by decide +kernel) ⟨Nat.le_of_ble_eq_true rfl, Nat.le_of_ble_eq_true rfl⟩) hE hA hP (va_recv hE.K (q_P1 h_x) (ci := 4) (q0 := 0) rfl rfl) rfl hl.1 rfl (Nat.le_of_ble_eq_true rfl) dX3_say_2 ⟨Nat.le_of_ble_eq_true rfl, Nat.le_of_ble_eq_true rfl⟩
set_option maxHeartbeats 4000000 in
set_option maxRecDepth 100000 in
theorem ct_X3_say_2 {l : Launch} (hl0 : l.stackTraces = false) {g : gT} {ad : Nat → Nat} {mc : Int32} {M : Nat} {sig : Nat → Int32} {z : sT} (hM : wM M (sn z)) (hV : VS z) {k : Nat} {y : Int32} (hk_ : k < sn z) (hsd_ : 12 ≤ ssd z k) : TH l yX3_say wsX3_say ({ frames := 6, cells := 1, slots := 6, locals := 90 } : Room) [.ref (ad 0), .int (nI k), .int y] g (fun H => va_P g.1 vwCl (wC g ad mc M sig z) H) xS := by
  refine TH.of (cc := cX3_say) (maxL := 4) (ret := (some .int)) (by decide) rfl (Nat.le_of_ble_eq_true rfl) ?_
  intro p e s m below meth c hx hb hml hr hlocks hown hts hno hE hF ls hl
  have hown : s.vm.findClass RX3 = some m.cls := hown
  have hA : ∀ q, s.heap.size ≤ q → q_n s.heap q := fun _ h => h
  have hP := hF
  have hl : lv_has ls 4 [(0, .ref (ad 0)), (1, .int (nI k)), (2, .int y)] := hl
  have hL := hV.L
  have hn := hV.n
  have h_x : va_at g.1 vwCl (ad 0, .inr (4, [.ref (ad 1), .ref (ad 2), .ref (ad 5)])) s.heap := hP 0 _ rfl
  have h_c : va_at g.1 vwCl (ad 1, .inr (1, [.int (nI (sL z))])) s.heap := hP 1 _ rfl
  have h_k : va_at g.1 vwCl (ad 2, .inr (3, [.ref (ad 3), .ref (ad 4), .ref (ad 1)])) s.heap := hP 2 _ rfl
  have h_st : va_at g.1 vwCl (ad 3, .inl (gI g, 20, .inl (sst z))) s.heap := hP 3 _ rfl
  have h_sg : va_at g.1 vwCl (ad 4, .inl (gI g, 207, .inl sig)) s.heap := hP 4 _ rfl
  have h_l : va_at g.1 vwCl (ad 5, .inr (0, [.int mc, .ref (if M = 0 then gE g else ad 6), .int (nI (sn z))])) s.heap := hP 5 _ rfl
  have hb_ := hV.h hk_
  have h_h := hP (2 * k + 7) _ (wC_h hM hk_)
  have h_w := hP (2 * k + 8) _ (wC_w hM hk_)
  have h_e := hP 6 _ (wC_e (by omega))
  have h_l6 : va_at g.1 vwCl (ad 5, .inr (0, [.int mc, .ref (ad 6), .int (nI (sn z))])) s.heap := by
    have := h_l
    rwa [if_neg (show ¬ M = 0 by omega)] at this
  refine lv_aload_n hx hb dX3_say_0 rfl (lv_at hl 0 rfl) ?_
  refine lv_iload_n hx hb dX3_say_1 rfl (lv_at hl 1 rfl) ?_
  refine q_roV (As := [.int (nI k)]) (rest := []) ⟨hx, hb, hml, hown, hts⟩ (c_X3_hillAt hM hV hk_) (cwV 1 hts gX3_say_X3_hillAt rfl rfl rfl (by decide +kernel) ⟨Nat.le_of_ble_eq_true rfl, Nat.le_of_ble_eq_true rfl⟩) hE hA hP (va_recv hE.K (q_P1 h_x) (ci := 4) (q0 := 0) rfl rfl) rfl hl.1 rfl (Nat.le_of_ble_eq_true rfl) dX3_say_2 ⟨Nat.zero_le _, Nat.zero_le _⟩ ?_
  refine lv_astore_n (lv' := [(3, .ref (ad (2 * k + 7))), (0, .ref (ad 0)), (1, .int (nI k)), (2, .int y)]) hx hb dX3_say_5 rfl hl (by decide) rfl (fun ls hl => ?_)
  refine lv_aload_n hx hb dX3_say_6 rfl (lv_at hl 0 rfl) ?_
  refine q_roV (As := []) (rest := []) ⟨hx, hb, hml, hown, hts⟩ (c_X1_isFull (sd := ssd z k) (by omega)) (cwV 0 hts gX3_say_X1_isFull rfl rfl rfl (by decide +kernel) ⟨Nat.le_of_ble_eq_true rfl, Nat.le_of_ble_eq_true rfl⟩) hE hA ⟨h_h, h_w⟩ (va_recv hE.K (q_P1 h_h) (ci := 2) (q0 := 0) rfl rfl) rfl hl.1 rfl (Nat.le_of_ble_eq_true rfl) dX3_say_7 ⟨Nat.zero_le _, Nat.zero_le _⟩ ?_
  refine q_ifb_eq (tgt := 23) hx hb dX3_say_10 (by decide) (fun c_1 => ?_) (fun c_1 => ?_)
  · exact absurd hsd_ c_1
  · exact q_throw (E := xS) (text := "the hill has 12 words") (ik := 60) (is := 82) (ic := 64) hx hb hl0 hno hlocks hown hE hts (by decide +kernel) (by decide +kernel) (List.mem_of_getElem? (i := 1) rfl) (List.mem_of_getElem? (i := 2) rfl) (List.mem_of_getElem? (i := 2) rfl) (fun w h => List.mem_cons_of_mem _ (List.mem_append_left _ (List.mem_append_right _ h))) (fun w h => List.mem_append_right _ (List.mem_append_right _ (List.mem_append_right _ h))) (by decide +kernel) (hl.1.trans hml.symm) dX3_say_13 dX3_say_16 dX3_say_17 dX3_say_19 dX3_say_22 (Nat.le_of_ble_eq_true rfl) (Nat.le_of_ble_eq_true rfl) (Nat.le_of_ble_eq_true rfl) (Nat.le_of_ble_eq_true rfl)
set_option maxHeartbeats 4000000 in
set_option maxRecDepth 100000 in
theorem ct_X3_hush_1 {l : Launch} (hl0 : l.stackTraces = false) {g : gT} {ad : Nat → Nat} {mc : Int32} {M : Nat} {sig : Nat → Int32} {z : sT} (hM : wM M (sn z)) (hV : VS z) {x : Int32} (hx_ : ¬ inR x (sn z)) : TH l yX3_hush wsX3_hush ({ frames := 7, cells := 1, slots := 6, locals := 111 } : Room) [.ref (ad 0), .int x] g (fun H => va_P g.1 vwCl (wC g ad mc M sig z) H) xI := by
  refine TH.of (cc := cX3_hush) (maxL := 4) (ret := (some .int)) (by decide) rfl (Nat.le_of_ble_eq_true rfl) ?_
  intro p e s m below meth c hx hb hml hr hlocks hown hts hno hE hF ls hl
  have hown : s.vm.findClass RX3 = some m.cls := hown
  have hA : ∀ q, s.heap.size ≤ q → q_n s.heap q := fun _ h => h
  have hP := hF
  have hl : lv_has ls 4 [(0, .ref (ad 0)), (1, .int x)] := hl
  have hL := hV.L
  have hn := hV.n
  have h_x : va_at g.1 vwCl (ad 0, .inr (4, [.ref (ad 1), .ref (ad 2), .ref (ad 5)])) s.heap := hP 0 _ rfl
  have h_c : va_at g.1 vwCl (ad 1, .inr (1, [.int (nI (sL z))])) s.heap := hP 1 _ rfl
  have h_k : va_at g.1 vwCl (ad 2, .inr (3, [.ref (ad 3), .ref (ad 4), .ref (ad 1)])) s.heap := hP 2 _ rfl
  have h_st : va_at g.1 vwCl (ad 3, .inl (gI g, 20, .inl (sst z))) s.heap := hP 3 _ rfl
  have h_sg : va_at g.1 vwCl (ad 4, .inl (gI g, 207, .inl sig)) s.heap := hP 4 _ rfl
  have h_l : va_at g.1 vwCl (ad 5, .inr (0, [.int mc, .ref (if M = 0 then gE g else ad 6), .int (nI (sn z))])) s.heap := hP 5 _ rfl
  refine lv_aload_n hx hb dX3_hush_0 rfl (lv_at hl 0 rfl) ?_
  refine lv_iload_n hx hb dX3_hush_1 rfl (lv_at hl 1 rfl) ?_
  exact q_thVo (As := [.int x]) (rest := []) hno hlocks ⟨hx, hb, hml, hown, hts⟩ (ct_X3_hillAt hl0 hM hV hx_) (cwV 1 hts gX3_hush_X3_hillAt rfl rfl rfl (by decide +kernel) ⟨Nat.le_of_ble_eq_true rfl, Nat.le_of_ble_eq_true rfl⟩) hE hA hP (va_recv hE.K (q_P1 h_x) (ci := 4) (q0 := 0) rfl rfl) rfl hl.1 rfl (Nat.le_of_ble_eq_true rfl) dX3_hush_2 ⟨Nat.le_of_ble_eq_true rfl, Nat.le_of_ble_eq_true rfl⟩
set_option maxHeartbeats 4000000 in
set_option maxRecDepth 100000 in
theorem ct_X3_setDelay_1 {l : Launch} (hl0 : l.stackTraces = false) {g : gT} {ad : Nat → Nat} {mc : Int32} {M : Nat} {sig : Nat → Int32} {z : sT} (hM : wM M (sn z)) (hV : VS z) {x y : Int32} (hx_ : ¬ inR x (sn z)) : TH l yX3_setDelay wsX3_setDelay ({ frames := 7, cells := 1, slots := 6, locals := 111 } : Room) [.ref (ad 0), .int x, .int y] g (fun H => va_P g.1 vwCl (wC g ad mc M sig z) H) xI := by
  refine TH.of (cc := cX3_setDelay) (maxL := 5) (ret := (some .int)) (by decide) rfl (Nat.le_of_ble_eq_true rfl) ?_
  intro p e s m below meth c hx hb hml hr hlocks hown hts hno hE hF ls hl
  have hown : s.vm.findClass RX3 = some m.cls := hown
  have hA : ∀ q, s.heap.size ≤ q → q_n s.heap q := fun _ h => h
  have hP := hF
  have hl : lv_has ls 5 [(0, .ref (ad 0)), (1, .int x), (2, .int y)] := hl
  have hL := hV.L
  have hn := hV.n
  have h_x : va_at g.1 vwCl (ad 0, .inr (4, [.ref (ad 1), .ref (ad 2), .ref (ad 5)])) s.heap := hP 0 _ rfl
  have h_c : va_at g.1 vwCl (ad 1, .inr (1, [.int (nI (sL z))])) s.heap := hP 1 _ rfl
  have h_k : va_at g.1 vwCl (ad 2, .inr (3, [.ref (ad 3), .ref (ad 4), .ref (ad 1)])) s.heap := hP 2 _ rfl
  have h_st : va_at g.1 vwCl (ad 3, .inl (gI g, 20, .inl (sst z))) s.heap := hP 3 _ rfl
  have h_sg : va_at g.1 vwCl (ad 4, .inl (gI g, 207, .inl sig)) s.heap := hP 4 _ rfl
  have h_l : va_at g.1 vwCl (ad 5, .inr (0, [.int mc, .ref (if M = 0 then gE g else ad 6), .int (nI (sn z))])) s.heap := hP 5 _ rfl
  refine lv_aload_n hx hb dX3_setDelay_0 rfl (lv_at hl 0 rfl) ?_
  refine lv_iload_n hx hb dX3_setDelay_1 rfl (lv_at hl 1 rfl) ?_
  exact q_thVo (As := [.int x]) (rest := []) hno hlocks ⟨hx, hb, hml, hown, hts⟩ (ct_X3_hillAt hl0 hM hV hx_) (cwV 1 hts gX3_setDelay_X3_hillAt rfl rfl rfl (by decide +kernel) ⟨Nat.le_of_ble_eq_true rfl, Nat.le_of_ble_eq_true rfl⟩) hE hA hP (va_recv hE.K (q_P1 h_x) (ci := 4) (q0 := 0) rfl rfl) rfl hl.1 rfl (Nat.le_of_ble_eq_true rfl) dX3_setDelay_2 ⟨Nat.le_of_ble_eq_true rfl, Nat.le_of_ble_eq_true rfl⟩
set_option maxHeartbeats 4000000 in
set_option maxRecDepth 100000 in
theorem ct_X3_setDelay_2 {l : Launch} (hl0 : l.stackTraces = false) {g : gT} {ad : Nat → Nat} {mc : Int32} {M : Nat} {sig : Nat → Int32} {z : sT} (hM : wM M (sn z)) (hV : VS z) {k : Nat} {x : Int32} (hk_ : k < sn z) (hx_ : ¬ inR x (sL z)) : TH l yX3_setDelay wsX3_setDelay ({ frames := 7, cells := 1, slots := 6, locals := 111 } : Room) [.ref (ad 0), .int (nI k), .int x] g (fun H => va_P g.1 vwCl (wC g ad mc M sig z) H) xA := by
  refine TH.of (cc := cX3_setDelay) (maxL := 5) (ret := (some .int)) (by decide) rfl (Nat.le_of_ble_eq_true rfl) ?_
  intro p e s m below meth c hx hb hml hr hlocks hown hts hno hE hF ls hl
  have hown : s.vm.findClass RX3 = some m.cls := hown
  have hA : ∀ q, s.heap.size ≤ q → q_n s.heap q := fun _ h => h
  have hP := hF
  have hl : lv_has ls 5 [(0, .ref (ad 0)), (1, .int (nI k)), (2, .int x)] := hl
  have hL := hV.L
  have hn := hV.n
  have h_x : va_at g.1 vwCl (ad 0, .inr (4, [.ref (ad 1), .ref (ad 2), .ref (ad 5)])) s.heap := hP 0 _ rfl
  have h_c : va_at g.1 vwCl (ad 1, .inr (1, [.int (nI (sL z))])) s.heap := hP 1 _ rfl
  have h_k : va_at g.1 vwCl (ad 2, .inr (3, [.ref (ad 3), .ref (ad 4), .ref (ad 1)])) s.heap := hP 2 _ rfl
  have h_st : va_at g.1 vwCl (ad 3, .inl (gI g, 20, .inl (sst z))) s.heap := hP 3 _ rfl
  have h_sg : va_at g.1 vwCl (ad 4, .inl (gI g, 207, .inl sig)) s.heap := hP 4 _ rfl
  have h_l : va_at g.1 vwCl (ad 5, .inr (0, [.int mc, .ref (if M = 0 then gE g else ad 6), .int (nI (sn z))])) s.heap := hP 5 _ rfl
  refine lv_aload_n hx hb dX3_setDelay_0 rfl (lv_at hl 0 rfl) ?_
  refine lv_iload_n hx hb dX3_setDelay_1 rfl (lv_at hl 1 rfl) ?_
  refine q_roV (As := [.int (nI k)]) (rest := []) ⟨hx, hb, hml, hown, hts⟩ (c_X3_hillAt hM hV hk_) (cwV 1 hts gX3_setDelay_X3_hillAt rfl rfl rfl (by decide +kernel) ⟨Nat.le_of_ble_eq_true rfl, Nat.le_of_ble_eq_true rfl⟩) hE hA hP (va_recv hE.K (q_P1 h_x) (ci := 4) (q0 := 0) rfl rfl) rfl hl.1 rfl (Nat.le_of_ble_eq_true rfl) dX3_setDelay_2 ⟨Nat.zero_le _, Nat.zero_le _⟩ ?_
  refine lv_astore_n (lv' := [(3, .ref (ad (2 * k + 7))), (0, .ref (ad 0)), (1, .int (nI k)), (2, .int x)]) hx hb dX3_setDelay_5 rfl hl (by decide) rfl (fun ls hl => ?_)
  refine lv_aload_n hx hb dX3_setDelay_6 rfl (lv_at hl 1 rfl) ?_
  refine lv_iload_n hx hb dX3_setDelay_7 rfl (lv_at hl 3 rfl) ?_
  exact q_thVo (As := [.int x]) (rest := []) hno hlocks ⟨hx, hb, hml, hown, hts⟩ (ct_X3_checkDelay hl0 hM hV hx_) (cwV 1 hts gX3_setDelay_X3_checkDelay rfl rfl rfl (by decide +kernel) ⟨Nat.le_of_ble_eq_true rfl, Nat.le_of_ble_eq_true rfl⟩) hE hA hP (va_recv hE.K (q_P1 h_x) (ci := 4) (q0 := 0) rfl rfl) rfl hl.1 rfl (Nat.le_of_ble_eq_true rfl) dX3_setDelay_8 ⟨Nat.le_of_ble_eq_true rfl, Nat.le_of_ble_eq_true rfl⟩
set_option maxHeartbeats 4000000 in
set_option maxRecDepth 100000 in
theorem ct_X3_setStrength_1 {l : Launch} (hl0 : l.stackTraces = false) {g : gT} {ad : Nat → Nat} {mc : Int32} {M : Nat} {sig : Nat → Int32} {z : sT} (hM : wM M (sn z)) (hV : VS z) {x y : Int32} (hx_ : ¬ inR x (sn z)) : TH l yX3_setStrength wsX3_setStrength ({ frames := 7, cells := 1, slots := 6, locals := 111 } : Room) [.ref (ad 0), .int x, .int y] g (fun H => va_P g.1 vwCl (wC g ad mc M sig z) H) xI := by
  refine TH.of (cc := cX3_setStrength) (maxL := 5) (ret := (some .int)) (by decide) rfl (Nat.le_of_ble_eq_true rfl) ?_
  intro p e s m below meth c hx hb hml hr hlocks hown hts hno hE hF ls hl
  have hown : s.vm.findClass RX3 = some m.cls := hown
  have hA : ∀ q, s.heap.size ≤ q → q_n s.heap q := fun _ h => h
  have hP := hF
  have hl : lv_has ls 5 [(0, .ref (ad 0)), (1, .int x), (2, .int y)] := hl
  have hL := hV.L
  have hn := hV.n
  have h_x : va_at g.1 vwCl (ad 0, .inr (4, [.ref (ad 1), .ref (ad 2), .ref (ad 5)])) s.heap := hP 0 _ rfl
  have h_c : va_at g.1 vwCl (ad 1, .inr (1, [.int (nI (sL z))])) s.heap := hP 1 _ rfl
  have h_k : va_at g.1 vwCl (ad 2, .inr (3, [.ref (ad 3), .ref (ad 4), .ref (ad 1)])) s.heap := hP 2 _ rfl
  have h_st : va_at g.1 vwCl (ad 3, .inl (gI g, 20, .inl (sst z))) s.heap := hP 3 _ rfl
  have h_sg : va_at g.1 vwCl (ad 4, .inl (gI g, 207, .inl sig)) s.heap := hP 4 _ rfl
  have h_l : va_at g.1 vwCl (ad 5, .inr (0, [.int mc, .ref (if M = 0 then gE g else ad 6), .int (nI (sn z))])) s.heap := hP 5 _ rfl
  refine lv_aload_n hx hb dX3_setStrength_0 rfl (lv_at hl 0 rfl) ?_
  refine lv_iload_n hx hb dX3_setStrength_1 rfl (lv_at hl 1 rfl) ?_
  exact q_thVo (As := [.int x]) (rest := []) hno hlocks ⟨hx, hb, hml, hown, hts⟩ (ct_X3_hillAt hl0 hM hV hx_) (cwV 1 hts gX3_setStrength_X3_hillAt rfl rfl rfl (by decide +kernel) ⟨Nat.le_of_ble_eq_true rfl, Nat.le_of_ble_eq_true rfl⟩) hE hA hP (va_recv hE.K (q_P1 h_x) (ci := 4) (q0 := 0) rfl rfl) rfl hl.1 rfl (Nat.le_of_ble_eq_true rfl) dX3_setStrength_2 ⟨Nat.le_of_ble_eq_true rfl, Nat.le_of_ble_eq_true rfl⟩
set_option maxHeartbeats 4000000 in
set_option maxRecDepth 100000 in
theorem ct_X3_setStrength_2 {l : Launch} (hl0 : l.stackTraces = false) {g : gT} {ad : Nat → Nat} {mc : Int32} {M : Nat} {sig : Nat → Int32} {z : sT} (hM : wM M (sn z)) (hV : VS z) {k : Nat} {x : Int32} (hk_ : k < sn z) (hx_ : ¬ inB x 1 9) : TH l yX3_setStrength wsX3_setStrength ({ frames := 7, cells := 1, slots := 6, locals := 111 } : Room) [.ref (ad 0), .int (nI k), .int x] g (fun H => va_P g.1 vwCl (wC g ad mc M sig z) H) xA := by
  refine TH.of (cc := cX3_setStrength) (maxL := 5) (ret := (some .int)) (by decide) rfl (Nat.le_of_ble_eq_true rfl) ?_
  intro p e s m below meth c hx hb hml hr hlocks hown hts hno hE hF ls hl
  have hown : s.vm.findClass RX3 = some m.cls := hown
  have hA : ∀ q, s.heap.size ≤ q → q_n s.heap q := fun _ h => h
  have hP := hF
  have hl : lv_has ls 5 [(0, .ref (ad 0)), (1, .int (nI k)), (2, .int x)] := hl
  have hL := hV.L
  have hn := hV.n
  have h_x : va_at g.1 vwCl (ad 0, .inr (4, [.ref (ad 1), .ref (ad 2), .ref (ad 5)])) s.heap := hP 0 _ rfl
  have h_c : va_at g.1 vwCl (ad 1, .inr (1, [.int (nI (sL z))])) s.heap := hP 1 _ rfl
  have h_k : va_at g.1 vwCl (ad 2, .inr (3, [.ref (ad 3), .ref (ad 4), .ref (ad 1)])) s.heap := hP 2 _ rfl
  have h_st : va_at g.1 vwCl (ad 3, .inl (gI g, 20, .inl (sst z))) s.heap := hP 3 _ rfl
  have h_sg : va_at g.1 vwCl (ad 4, .inl (gI g, 207, .inl sig)) s.heap := hP 4 _ rfl
  have h_l : va_at g.1 vwCl (ad 5, .inr (0, [.int mc, .ref (if M = 0 then gE g else ad 6), .int (nI (sn z))])) s.heap := hP 5 _ rfl
  refine lv_aload_n hx hb dX3_setStrength_0 rfl (lv_at hl 0 rfl) ?_
  refine lv_iload_n hx hb dX3_setStrength_1 rfl (lv_at hl 1 rfl) ?_
  refine q_roV (As := [.int (nI k)]) (rest := []) ⟨hx, hb, hml, hown, hts⟩ (c_X3_hillAt hM hV hk_) (cwV 1 hts gX3_setStrength_X3_hillAt rfl rfl rfl (by decide +kernel) ⟨Nat.le_of_ble_eq_true rfl, Nat.le_of_ble_eq_true rfl⟩) hE hA hP (va_recv hE.K (q_P1 h_x) (ci := 4) (q0 := 0) rfl rfl) rfl hl.1 rfl (Nat.le_of_ble_eq_true rfl) dX3_setStrength_2 ⟨Nat.zero_le _, Nat.zero_le _⟩ ?_
  refine lv_astore_n (lv' := [(3, .ref (ad (2 * k + 7))), (0, .ref (ad 0)), (1, .int (nI k)), (2, .int x)]) hx hb dX3_setStrength_5 rfl hl (by decide) rfl (fun ls hl => ?_)
  refine lv_aload_n hx hb dX3_setStrength_6 rfl (lv_at hl 1 rfl) ?_
  refine lv_iload_n hx hb dX3_setStrength_7 rfl (lv_at hl 3 rfl) ?_
  exact q_thVo (As := [.int x]) (rest := []) hno hlocks ⟨hx, hb, hml, hown, hts⟩ (ct_X3_checkStrength hl0 hM hV hx_) (cwV 1 hts gX3_setStrength_X3_checkStrength rfl rfl rfl (by decide +kernel) ⟨Nat.le_of_ble_eq_true rfl, Nat.le_of_ble_eq_true rfl⟩) hE hA hP (va_recv hE.K (q_P1 h_x) (ci := 4) (q0 := 0) rfl rfl) rfl hl.1 rfl (Nat.le_of_ble_eq_true rfl) dX3_setStrength_8 ⟨Nat.le_of_ble_eq_true rfl, Nat.le_of_ble_eq_true rfl⟩
set_option maxHeartbeats 4000000 in
set_option maxRecDepth 100000 in
theorem ct_X3_setStorm_1 {l : Launch} (hl0 : l.stackTraces = false) {g : gT} {ad : Nat → Nat} {mc : Int32} {M : Nat} {sig : Nat → Int32} {z : sT} (hM : wM M (sn z)) (hV : VS z) {x y : Int32} (hx_ : ¬ inR x (20)) : TH l yX3_setStorm wsX3_setStorm ({ frames := 6, cells := 1, slots := 6, locals := 90 } : Room) [.ref (ad 0), .int x, .int y] g (fun H => va_P g.1 vwCl (wC g ad mc M sig z) H) xI := by
  refine TH.of (cc := cX3_setStorm) (maxL := 4) (ret := (some .int)) (by decide) rfl (Nat.le_of_ble_eq_true rfl) ?_
  intro p e s m below meth c hx hb hml hr hlocks hown hts hno hE hF ls hl
  have hown : s.vm.findClass RX3 = some m.cls := hown
  have hA : ∀ q, s.heap.size ≤ q → q_n s.heap q := fun _ h => h
  have hP := hF
  have hl : lv_has ls 4 [(0, .ref (ad 0)), (1, .int x), (2, .int y)] := hl
  have hL := hV.L
  have hn := hV.n
  have h_x : va_at g.1 vwCl (ad 0, .inr (4, [.ref (ad 1), .ref (ad 2), .ref (ad 5)])) s.heap := hP 0 _ rfl
  have h_c : va_at g.1 vwCl (ad 1, .inr (1, [.int (nI (sL z))])) s.heap := hP 1 _ rfl
  have h_k : va_at g.1 vwCl (ad 2, .inr (3, [.ref (ad 3), .ref (ad 4), .ref (ad 1)])) s.heap := hP 2 _ rfl
  have h_st : va_at g.1 vwCl (ad 3, .inl (gI g, 20, .inl (sst z))) s.heap := hP 3 _ rfl
  have h_sg : va_at g.1 vwCl (ad 4, .inl (gI g, 207, .inl sig)) s.heap := hP 4 _ rfl
  have h_l : va_at g.1 vwCl (ad 5, .inr (0, [.int mc, .ref (if M = 0 then gE g else ad 6), .int (nI (sn z))])) s.heap := hP 5 _ rfl
  have hx_ : ¬ (0 ≤ x.toInt ∧ x.toInt < ((20 : Nat) : Int)) := hx_
  refine lv_iload_n hx hb dX3_setStorm_0 rfl (lv_at hl 1 rfl) ?_
  refine lv_if_lt (tgt := 10) hx hb dX3_setStorm_1 (by decide) (fun c_1 => ?_) (fun c_1 => ?_)
  · have c_1 := rlt_0.mp c_1
    exact q_throw (E := xI) (text := "place is not 0 to 19") (ik := 106) (is := 108) (ic := 110) hx hb hl0 hno hlocks hown hE hts (by decide +kernel) (by decide +kernel) (List.mem_of_getElem? (i := 1) rfl) (List.mem_of_getElem? (i := 2) rfl) (List.mem_of_getElem? (i := 3) rfl) (fun w h => List.mem_cons_of_mem _ (List.mem_append_left _ (List.mem_append_right _ h))) (fun w h => List.mem_append_right _ (List.mem_append_left _ h)) (by decide +kernel) (hl.1.trans hml.symm) dX3_setStorm_10 dX3_setStorm_13 dX3_setStorm_14 dX3_setStorm_16 dX3_setStorm_19 (Nat.le_of_ble_eq_true rfl) (Nat.le_of_ble_eq_true rfl) (Nat.le_of_ble_eq_true rfl) (Nat.le_of_ble_eq_true rfl)
  · have c_1 := mt rlt_0.mpr c_1
    refine lv_iload_n hx hb dX3_setStorm_4 rfl (lv_at hl 1 rfl) ?_
    refine lv_bipush (v := nI 20) hx hb dX3_setStorm_5 (by decide) ?_
    refine lv_icmp_lt (tgt := 20) hx hb dX3_setStorm_7 (by decide) (fun c_2 => ?_) (fun c_2 => ?_)
    · have c_2 := (rlt_nI (by omega)).mp c_2
      exfalso; omega
    · have c_2 := mt (rlt_nI (by omega)).mpr c_2
      exact q_throw (E := xI) (text := "place is not 0 to 19") (ik := 106) (is := 108) (ic := 110) hx hb hl0 hno hlocks hown hE hts (by decide +kernel) (by decide +kernel) (List.mem_of_getElem? (i := 1) rfl) (List.mem_of_getElem? (i := 2) rfl) (List.mem_of_getElem? (i := 3) rfl) (fun w h => List.mem_cons_of_mem _ (List.mem_append_left _ (List.mem_append_right _ h))) (fun w h => List.mem_append_right _ (List.mem_append_left _ h)) (by decide +kernel) (hl.1.trans hml.symm) dX3_setStorm_10 dX3_setStorm_13 dX3_setStorm_14 dX3_setStorm_16 dX3_setStorm_19 (Nat.le_of_ble_eq_true rfl) (Nat.le_of_ble_eq_true rfl) (Nat.le_of_ble_eq_true rfl) (Nat.le_of_ble_eq_true rfl)
set_option maxHeartbeats 4000000 in
set_option maxRecDepth 100000 in
theorem ct_X3_setStorm_2 {l : Launch} (hl0 : l.stackTraces = false) {g : gT} {ad : Nat → Nat} {mc : Int32} {M : Nat} {sig : Nat → Int32} {z : sT} (hM : wM M (sn z)) (hV : VS z) {p_ : Nat} {x : Int32} (hp_ : p_ < 20) (hx_ : ¬ inB x (-99) 99) : TH l yX3_setStorm wsX3_setStorm ({ frames := 6, cells := 1, slots := 6, locals := 90 } : Room) [.ref (ad 0), .int (nI p_), .int x] g (fun H => va_P g.1 vwCl (wC g ad mc M sig z) H) xA := by
  refine TH.of (cc := cX3_setStorm) (maxL := 4) (ret := (some .int)) (by decide) rfl (Nat.le_of_ble_eq_true rfl) ?_
  intro p e s m below meth c hx hb hml hr hlocks hown hts hno hE hF ls hl
  have hown : s.vm.findClass RX3 = some m.cls := hown
  have hA : ∀ q, s.heap.size ≤ q → q_n s.heap q := fun _ h => h
  have hP := hF
  have hl : lv_has ls 4 [(0, .ref (ad 0)), (1, .int (nI p_)), (2, .int x)] := hl
  have hL := hV.L
  have hn := hV.n
  have h_x : va_at g.1 vwCl (ad 0, .inr (4, [.ref (ad 1), .ref (ad 2), .ref (ad 5)])) s.heap := hP 0 _ rfl
  have h_c : va_at g.1 vwCl (ad 1, .inr (1, [.int (nI (sL z))])) s.heap := hP 1 _ rfl
  have h_k : va_at g.1 vwCl (ad 2, .inr (3, [.ref (ad 3), .ref (ad 4), .ref (ad 1)])) s.heap := hP 2 _ rfl
  have h_st : va_at g.1 vwCl (ad 3, .inl (gI g, 20, .inl (sst z))) s.heap := hP 3 _ rfl
  have h_sg : va_at g.1 vwCl (ad 4, .inl (gI g, 207, .inl sig)) s.heap := hP 4 _ rfl
  have h_l : va_at g.1 vwCl (ad 5, .inr (0, [.int mc, .ref (if M = 0 then gE g else ad 6), .int (nI (sn z))])) s.heap := hP 5 _ rfl
  have hx_ : ¬ (-99 ≤ x.toInt ∧ x.toInt ≤ 99) := hx_
  refine lv_iload_n hx hb dX3_setStorm_0 rfl (lv_at hl 1 rfl) ?_
  refine q_if_lt (tgt := 10) hx hb (by omega) dX3_setStorm_1 (by decide) ?_
  refine lv_iload_n hx hb dX3_setStorm_4 rfl (lv_at hl 1 rfl) ?_
  refine lv_bipush (v := nI 20) hx hb dX3_setStorm_5 (by decide) ?_
  refine q_icmp_lt (tgt := 20) hx hb (by omega) (by omega) dX3_setStorm_7 (by decide) (fun c_2 => ?_) (fun c_2 => ?_)
  · refine lv_iload_n hx hb dX3_setStorm_20 rfl (lv_at hl 2 rfl) ?_
    refine lv_bipush (v := (-99 : Int32)) hx hb dX3_setStorm_21 (by decide) ?_
    refine lv_icmp_lt (tgt := 32) hx hb dX3_setStorm_23 (by decide) (fun c_3 => ?_) (fun c_3 => ?_)
    · exact q_throw (E := xA) (text := "storm is not -99 to 99") (ik := 32) (is := 111) (ic := 36) hx hb hl0 hno hlocks hown hE hts (by decide +kernel) (by decide +kernel) (List.mem_of_getElem? (i := 3) rfl) (List.mem_of_getElem? (i := 4) rfl) (List.mem_of_getElem? (i := 4) rfl) (fun w h => List.mem_cons_of_mem _ (List.mem_append_right _ h)) (fun w h => List.mem_append_right _ (List.mem_append_right _ (List.mem_append_left _ h))) (by decide +kernel) (hl.1.trans hml.symm) dX3_setStorm_32 dX3_setStorm_35 dX3_setStorm_36 dX3_setStorm_38 dX3_setStorm_41 (Nat.le_of_ble_eq_true rfl) (Nat.le_of_ble_eq_true rfl) (Nat.le_of_ble_eq_true rfl) (Nat.le_of_ble_eq_true rfl)
    · have h9 := mt Int32.lt_iff_toInt_lt.mpr c_3
      have e9 : (-99 : Int32).toInt = -99 := rfl
      refine lv_iload_n hx hb dX3_setStorm_26 rfl (lv_at hl 2 rfl) ?_
      refine lv_bipush (v := nI 99) hx hb dX3_setStorm_27 (by decide) ?_
      refine lv_icmp_le (tgt := 42) hx hb dX3_setStorm_29 (by decide) (fun c_4 => ?_) (fun c_4 => ?_)
      · have c_4 := (rle_nI (by omega)).mp c_4
        exfalso; omega
      · have c_4 := mt (rle_nI (by omega)).mpr c_4
        exact q_throw (E := xA) (text := "storm is not -99 to 99") (ik := 32) (is := 111) (ic := 36) hx hb hl0 hno hlocks hown hE hts (by decide +kernel) (by decide +kernel) (List.mem_of_getElem? (i := 3) rfl) (List.mem_of_getElem? (i := 4) rfl) (List.mem_of_getElem? (i := 4) rfl) (fun w h => List.mem_cons_of_mem _ (List.mem_append_right _ h)) (fun w h => List.mem_append_right _ (List.mem_append_right _ (List.mem_append_left _ h))) (by decide +kernel) (hl.1.trans hml.symm) dX3_setStorm_32 dX3_setStorm_35 dX3_setStorm_36 dX3_setStorm_38 dX3_setStorm_41 (Nat.le_of_ble_eq_true rfl) (Nat.le_of_ble_eq_true rfl) (Nat.le_of_ble_eq_true rfl) (Nat.le_of_ble_eq_true rfl)
  · exact absurd c_2 (by omega)
set_option maxHeartbeats 4000000 in
set_option maxRecDepth 100000 in
theorem ct_X3_would_1 {l : Launch} (hl0 : l.stackTraces = false) {g : gT} {ad : Nat → Nat} {mc : Int32} {M : Nat} {sig : Nat → Int32} {z : sT} (hM : wM M (sn z)) (hV : VS z) {x y : Int32} (hx_ : ¬ inR x (sn z)) : TH l yX3_would wsX3_would ({ frames := 7, cells := 1, slots := 6, locals := 111 } : Room) [.ref (ad 0), .int x, .int y] g (fun H => va_P g.1 vwCl (wC g ad mc M sig z) H) xI := by
  refine TH.of (cc := cX3_would) (maxL := 4) (ret := (some .int)) (by decide) rfl (Nat.le_of_ble_eq_true rfl) ?_
  intro p e s m below meth c hx hb hml hr hlocks hown hts hno hE hF ls hl
  have hown : s.vm.findClass RX3 = some m.cls := hown
  have hA : ∀ q, s.heap.size ≤ q → q_n s.heap q := fun _ h => h
  have hP := hF
  have hl : lv_has ls 4 [(0, .ref (ad 0)), (1, .int x), (2, .int y)] := hl
  have hL := hV.L
  have hn := hV.n
  have h_x : va_at g.1 vwCl (ad 0, .inr (4, [.ref (ad 1), .ref (ad 2), .ref (ad 5)])) s.heap := hP 0 _ rfl
  have h_c : va_at g.1 vwCl (ad 1, .inr (1, [.int (nI (sL z))])) s.heap := hP 1 _ rfl
  have h_k : va_at g.1 vwCl (ad 2, .inr (3, [.ref (ad 3), .ref (ad 4), .ref (ad 1)])) s.heap := hP 2 _ rfl
  have h_st : va_at g.1 vwCl (ad 3, .inl (gI g, 20, .inl (sst z))) s.heap := hP 3 _ rfl
  have h_sg : va_at g.1 vwCl (ad 4, .inl (gI g, 207, .inl sig)) s.heap := hP 4 _ rfl
  have h_l : va_at g.1 vwCl (ad 5, .inr (0, [.int mc, .ref (if M = 0 then gE g else ad 6), .int (nI (sn z))])) s.heap := hP 5 _ rfl
  refine lv_aload_n hx hb dX3_would_0 rfl (lv_at hl 0 rfl) ?_
  refine lv_iload_n hx hb dX3_would_1 rfl (lv_at hl 1 rfl) ?_
  exact q_thVo (As := [.int x]) (rest := []) hno hlocks ⟨hx, hb, hml, hown, hts⟩ (ct_X3_hillAt hl0 hM hV hx_) (cwV 1 hts gX3_would_X3_hillAt rfl rfl rfl (by decide +kernel) ⟨Nat.le_of_ble_eq_true rfl, Nat.le_of_ble_eq_true rfl⟩) hE hA hP (va_recv hE.K (q_P1 h_x) (ci := 4) (q0 := 0) rfl rfl) rfl hl.1 rfl (Nat.le_of_ble_eq_true rfl) dX3_would_2 ⟨Nat.le_of_ble_eq_true rfl, Nat.le_of_ble_eq_true rfl⟩
set_option maxHeartbeats 4000000 in
set_option maxRecDepth 100000 in
theorem ct_X3_would_2 {l : Launch} (hl0 : l.stackTraces = false) {g : gT} {ad : Nat → Nat} {mc : Int32} {M : Nat} {sig : Nat → Int32} {z : sT} (hM : wM M (sn z)) (hV : VS z) {k : Nat} {x : Int32} (hk_ : k < sn z) (hx_ : ¬ inB x 1 9) : TH l yX3_would wsX3_would ({ frames := 7, cells := 1, slots := 6, locals := 111 } : Room) [.ref (ad 0), .int (nI k), .int x] g (fun H => va_P g.1 vwCl (wC g ad mc M sig z) H) xA := by
  refine TH.of (cc := cX3_would) (maxL := 4) (ret := (some .int)) (by decide) rfl (Nat.le_of_ble_eq_true rfl) ?_
  intro p e s m below meth c hx hb hml hr hlocks hown hts hno hE hF ls hl
  have hown : s.vm.findClass RX3 = some m.cls := hown
  have hA : ∀ q, s.heap.size ≤ q → q_n s.heap q := fun _ h => h
  have hP := hF
  have hl : lv_has ls 4 [(0, .ref (ad 0)), (1, .int (nI k)), (2, .int x)] := hl
  have hL := hV.L
  have hn := hV.n
  have h_x : va_at g.1 vwCl (ad 0, .inr (4, [.ref (ad 1), .ref (ad 2), .ref (ad 5)])) s.heap := hP 0 _ rfl
  have h_c : va_at g.1 vwCl (ad 1, .inr (1, [.int (nI (sL z))])) s.heap := hP 1 _ rfl
  have h_k : va_at g.1 vwCl (ad 2, .inr (3, [.ref (ad 3), .ref (ad 4), .ref (ad 1)])) s.heap := hP 2 _ rfl
  have h_st : va_at g.1 vwCl (ad 3, .inl (gI g, 20, .inl (sst z))) s.heap := hP 3 _ rfl
  have h_sg : va_at g.1 vwCl (ad 4, .inl (gI g, 207, .inl sig)) s.heap := hP 4 _ rfl
  have h_l : va_at g.1 vwCl (ad 5, .inr (0, [.int mc, .ref (if M = 0 then gE g else ad 6), .int (nI (sn z))])) s.heap := hP 5 _ rfl
  refine lv_aload_n hx hb dX3_would_0 rfl (lv_at hl 0 rfl) ?_
  refine lv_iload_n hx hb dX3_would_1 rfl (lv_at hl 1 rfl) ?_
  refine q_roV (As := [.int (nI k)]) (rest := []) ⟨hx, hb, hml, hown, hts⟩ (c_X3_hillAt hM hV hk_) (cwV 1 hts gX3_would_X3_hillAt rfl rfl rfl (by decide +kernel) ⟨Nat.le_of_ble_eq_true rfl, Nat.le_of_ble_eq_true rfl⟩) hE hA hP (va_recv hE.K (q_P1 h_x) (ci := 4) (q0 := 0) rfl rfl) rfl hl.1 rfl (Nat.le_of_ble_eq_true rfl) dX3_would_2 ⟨Nat.zero_le _, Nat.zero_le _⟩ ?_
  refine lv_astore_n (lv' := [(3, .ref (ad (2 * k + 7))), (0, .ref (ad 0)), (1, .int (nI k)), (2, .int x)]) hx hb dX3_would_5 rfl hl (by decide) rfl (fun ls hl => ?_)
  refine lv_aload_n hx hb dX3_would_6 rfl (lv_at hl 1 rfl) ?_
  refine lv_iload_n hx hb dX3_would_7 rfl (lv_at hl 3 rfl) ?_
  exact q_thVo (As := [.int x]) (rest := []) hno hlocks ⟨hx, hb, hml, hown, hts⟩ (ct_X3_checkStrength hl0 hM hV hx_) (cwV 1 hts gX3_would_X3_checkStrength rfl rfl rfl (by decide +kernel) ⟨Nat.le_of_ble_eq_true rfl, Nat.le_of_ble_eq_true rfl⟩) hE hA hP (va_recv hE.K (q_P1 h_x) (ci := 4) (q0 := 0) rfl rfl) rfl hl.1 rfl (Nat.le_of_ble_eq_true rfl) dX3_would_8 ⟨Nat.le_of_ble_eq_true rfl, Nat.le_of_ble_eq_true rfl⟩
set_option maxHeartbeats 4000000 in
set_option maxRecDepth 100000 in
theorem ct_X3_tune_1 {l : Launch} (hl0 : l.stackTraces = false) {g : gT} {ad : Nat → Nat} {mc : Int32} {M : Nat} {sig : Nat → Int32} {z : sT} (hM : wM M (sn z)) (hV : VS z) {x : Int32} (hx_ : ¬ inR x (sn z)) : TH l yX3_tune wsX3_tune ({ frames := 7, cells := 1, slots := 6, locals := 111 } : Room) [.ref (ad 0), .int x] g (fun H => va_P g.1 vwCl (wC g ad mc M sig z) H) xI := by
  refine TH.of (cc := cX3_tune) (maxL := 7) (ret := (some .int)) (by decide) rfl (Nat.le_of_ble_eq_true rfl) ?_
  intro p e s m below meth c hx hb hml hr hlocks hown hts hno hE hF ls hl
  have hown : s.vm.findClass RX3 = some m.cls := hown
  have hA : ∀ q, s.heap.size ≤ q → q_n s.heap q := fun _ h => h
  have hP := hF
  have hl : lv_has ls 7 [(0, .ref (ad 0)), (1, .int x)] := hl
  have hL := hV.L
  have hn := hV.n
  have h_x : va_at g.1 vwCl (ad 0, .inr (4, [.ref (ad 1), .ref (ad 2), .ref (ad 5)])) s.heap := hP 0 _ rfl
  have h_c : va_at g.1 vwCl (ad 1, .inr (1, [.int (nI (sL z))])) s.heap := hP 1 _ rfl
  have h_k : va_at g.1 vwCl (ad 2, .inr (3, [.ref (ad 3), .ref (ad 4), .ref (ad 1)])) s.heap := hP 2 _ rfl
  have h_st : va_at g.1 vwCl (ad 3, .inl (gI g, 20, .inl (sst z))) s.heap := hP 3 _ rfl
  have h_sg : va_at g.1 vwCl (ad 4, .inl (gI g, 207, .inl sig)) s.heap := hP 4 _ rfl
  have h_l : va_at g.1 vwCl (ad 5, .inr (0, [.int mc, .ref (if M = 0 then gE g else ad 6), .int (nI (sn z))])) s.heap := hP 5 _ rfl
  refine lv_aload_n hx hb dX3_tune_0 rfl (lv_at hl 0 rfl) ?_
  refine lv_iload_n hx hb dX3_tune_1 rfl (lv_at hl 1 rfl) ?_
  exact q_thVo (As := [.int x]) (rest := []) hno hlocks ⟨hx, hb, hml, hown, hts⟩ (ct_X3_hillAt hl0 hM hV hx_) (cwV 1 hts gX3_tune_X3_hillAt rfl rfl rfl (by decide +kernel) ⟨Nat.le_of_ble_eq_true rfl, Nat.le_of_ble_eq_true rfl⟩) hE hA hP (va_recv hE.K (q_P1 h_x) (ci := 4) (q0 := 0) rfl rfl) rfl hl.1 rfl (Nat.le_of_ble_eq_true rfl) dX3_tune_2 ⟨Nat.le_of_ble_eq_true rfl, Nat.le_of_ble_eq_true rfl⟩
