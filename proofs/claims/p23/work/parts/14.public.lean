/-! ===== FlagChips: the public readers ===== -/
set_option maxHeartbeats 4000000 in
set_option maxRecDepth 100000 in
theorem c_X3_sky {l : Launch} {g : gT} {ad : Nat → Nat} {mc : Int32} {M : Nat} {sig : Nat → Int32} {z : sT} (hM : wM M (sn z)) (hV : VS z) {t : Nat} (ht : t < 1000) : RO l yX3_sky wsX3_sky ({ frames := 1, cells := 0, slots := 0, locals := 22 } : Room) [.ref (ad 0), .int (nI t)] g (fun H => va_P g.1 vwCl (wC g ad mc M sig z) H) (some (.int (atF (sst z) sig t))) := by
  refine RO.of (cc := cX3_sky) (maxL := 2) (ret := (some .int)) (by decide) rfl (Nat.le_of_ble_eq_true rfl) ?_
  intro p e s m below meth c hx hb hml hr hlocks hown hts hE hF ls hl
  have hown : s.vm.findClass RX3 = some m.cls := hown
  have hA : ∀ q, s.heap.size ≤ q → q_n s.heap q := fun _ h => h
  have hP := hF
  have hl : lv_has ls 2 [(0, .ref (ad 0)), (1, .int (nI t))] := hl
  have hL := hV.L
  have hn := hV.n
  have h_x : va_at g.1 vwCl (ad 0, .inr (4, [.ref (ad 1), .ref (ad 2), .ref (ad 5)])) s.heap := hP 0 _ rfl
  have h_c : va_at g.1 vwCl (ad 1, .inr (1, [.int (nI (sL z))])) s.heap := hP 1 _ rfl
  have h_k : va_at g.1 vwCl (ad 2, .inr (3, [.ref (ad 3), .ref (ad 4), .ref (ad 1)])) s.heap := hP 2 _ rfl
  have h_st : va_at g.1 vwCl (ad 3, .inl (gI g, 20, .inl (sst z))) s.heap := hP 3 _ rfl
  have h_sg : va_at g.1 vwCl (ad 4, .inl (gI g, 207, .inl sig)) s.heap := hP 4 _ rfl
  have h_l : va_at g.1 vwCl (ad 5, .inr (0, [.int mc, .ref (if M = 0 then gE g else ad 6), .int (nI (sn z))])) s.heap := hP 5 _ rfl
  refine lv_aload_n hx hb dX3_sky_0 rfl (lv_at hl 0 rfl) ?_
  refine lv_iload_n hx hb dX3_sky_1 rfl (lv_at hl 1 rfl) ?_
  refine q_roV (As := [.int (nI t)]) (rest := []) ⟨hx, hb, hml, hown, hts⟩ (c_X3_checkTime hM hV (x := nI t) (inR_nI ht (by omega))) (cwV 1 hts gX3_sky_X3_checkTime rfl rfl rfl (by decide +kernel) ⟨Nat.le_of_ble_eq_true rfl, Nat.le_of_ble_eq_true rfl⟩) hE hA hP (va_recv hE.K (q_P1 h_x) (ci := 4) (q0 := 0) rfl rfl) rfl hl.1 rfl (Nat.le_of_ble_eq_true rfl) dX3_sky_2 ⟨Nat.zero_le _, Nat.zero_le _⟩ ?_
  refine lv_aload_n hx hb dX3_sky_5 rfl (lv_at hl 0 rfl) ?_
  refine va_get (v := .ref (ad 2)) (C := RX3) (T := TX3) (N := 3) hx hb hts (q_sub wsX30 16 rfl) hown hE.K (q_P1 h_x) 0 rfl rfl 1 (by decide) (hts _ (List.mem_of_getElem? (i := 1) rfl)) (fun _ h9 => h9) rfl dX3_sky_6 ?_
  refine lv_iload_n hx hb dX3_sky_9 rfl (lv_at hl 1 rfl) ?_
  refine q_roV (As := [.int (nI t)]) (rest := []) ⟨hx, hb, hml, hown, hts⟩ (c_X2_at (t := t) (by omega)) (cwV 1 hts gX3_sky_X2_at rfl rfl rfl (by decide +kernel) ⟨Nat.le_of_ble_eq_true rfl, Nat.le_of_ble_eq_true rfl⟩) hE hA ⟨h_k, h_st, h_sg⟩ (va_recv hE.K (q_P1 h_k) (ci := 3) (q0 := 0) rfl rfl) rfl hl.1 rfl (Nat.le_of_ble_eq_true rfl) dX3_sky_10 ⟨Nat.zero_le _, Nat.zero_le _⟩ ?_
  exact q_iret hx hb hr hlocks dX3_sky_13 rfl
set_option maxHeartbeats 4000000 in
set_option maxRecDepth 100000 in
theorem ct_X3_sky_1 {l : Launch} (hl0 : l.stackTraces = false) {g : gT} {ad : Nat → Nat} {mc : Int32} {M : Nat} {sig : Nat → Int32} {z : sT} (hM : wM M (sn z)) (hV : VS z) {x : Int32} (hx_ : ¬ inR x (1000)) : TH l yX3_sky wsX3_sky ({ frames := 7, cells := 1, slots := 6, locals := 111 } : Room) [.ref (ad 0), .int x] g (fun H => va_P g.1 vwCl (wC g ad mc M sig z) H) xA := by
  refine TH.of (cc := cX3_sky) (maxL := 2) (ret := (some .int)) (by decide) rfl (Nat.le_of_ble_eq_true rfl) ?_
  intro p e s m below meth c hx hb hml hr hlocks hown hts hno hE hF ls hl
  have hown : s.vm.findClass RX3 = some m.cls := hown
  have hA : ∀ q, s.heap.size ≤ q → q_n s.heap q := fun _ h => h
  have hP := hF
  have hl : lv_has ls 2 [(0, .ref (ad 0)), (1, .int x)] := hl
  have hL := hV.L
  have hn := hV.n
  have h_x : va_at g.1 vwCl (ad 0, .inr (4, [.ref (ad 1), .ref (ad 2), .ref (ad 5)])) s.heap := hP 0 _ rfl
  have h_c : va_at g.1 vwCl (ad 1, .inr (1, [.int (nI (sL z))])) s.heap := hP 1 _ rfl
  have h_k : va_at g.1 vwCl (ad 2, .inr (3, [.ref (ad 3), .ref (ad 4), .ref (ad 1)])) s.heap := hP 2 _ rfl
  have h_st : va_at g.1 vwCl (ad 3, .inl (gI g, 20, .inl (sst z))) s.heap := hP 3 _ rfl
  have h_sg : va_at g.1 vwCl (ad 4, .inl (gI g, 207, .inl sig)) s.heap := hP 4 _ rfl
  have h_l : va_at g.1 vwCl (ad 5, .inr (0, [.int mc, .ref (if M = 0 then gE g else ad 6), .int (nI (sn z))])) s.heap := hP 5 _ rfl
  refine lv_aload_n hx hb dX3_sky_0 rfl (lv_at hl 0 rfl) ?_
  refine lv_iload_n hx hb dX3_sky_1 rfl (lv_at hl 1 rfl) ?_
  exact q_thVo (As := [.int x]) (rest := []) hno hlocks ⟨hx, hb, hml, hown, hts⟩ (ct_X3_checkTime hl0 hM hV hx_) (cwV 1 hts gX3_sky_X3_checkTime rfl rfl rfl (by decide +kernel) ⟨Nat.le_of_ble_eq_true rfl, Nat.le_of_ble_eq_true rfl⟩) hE hA hP (va_recv hE.K (q_P1 h_x) (ci := 4) (q0 := 0) rfl rfl) rfl hl.1 rfl (Nat.le_of_ble_eq_true rfl) dX3_sky_2 ⟨Nat.le_of_ble_eq_true rfl, Nat.le_of_ble_eq_true rfl⟩
set_option maxHeartbeats 4000000 in
set_option maxRecDepth 100000 in
theorem c_X3_hear {l : Launch} {g : gT} {ad : Nat → Nat} {mc : Int32} {M : Nat} {sig : Nat → Int32} {z : sT} (hM : wM M (sn z)) (hV : VS z) {a t : Nat} (ha : a < sL z) (ht : t < 1000) : RO l yX3_hear wsX3_hear ({ frames := 3, cells := 0, slots := 0, locals := 66 } : Room) [.ref (ad 0), .int (nI a), .int (nI t)] g (fun H => va_P g.1 vwCl (wC g ad mc M sig z) H) (some (.int (hearF (sL z) (atF (sst z) sig) a t))) := by
  refine RO.of (cc := cX3_hear) (maxL := 3) (ret := (some .int)) (by decide) rfl (Nat.le_of_ble_eq_true rfl) ?_
  intro p e s m below meth c hx hb hml hr hlocks hown hts hE hF ls hl
  have hown : s.vm.findClass RX3 = some m.cls := hown
  have hA : ∀ q, s.heap.size ≤ q → q_n s.heap q := fun _ h => h
  have hP := hF
  have hl : lv_has ls 3 [(0, .ref (ad 0)), (1, .int (nI a)), (2, .int (nI t))] := hl
  have hL := hV.L
  have hn := hV.n
  have h_x : va_at g.1 vwCl (ad 0, .inr (4, [.ref (ad 1), .ref (ad 2), .ref (ad 5)])) s.heap := hP 0 _ rfl
  have h_c : va_at g.1 vwCl (ad 1, .inr (1, [.int (nI (sL z))])) s.heap := hP 1 _ rfl
  have h_k : va_at g.1 vwCl (ad 2, .inr (3, [.ref (ad 3), .ref (ad 4), .ref (ad 1)])) s.heap := hP 2 _ rfl
  have h_st : va_at g.1 vwCl (ad 3, .inl (gI g, 20, .inl (sst z))) s.heap := hP 3 _ rfl
  have h_sg : va_at g.1 vwCl (ad 4, .inl (gI g, 207, .inl sig)) s.heap := hP 4 _ rfl
  have h_l : va_at g.1 vwCl (ad 5, .inr (0, [.int mc, .ref (if M = 0 then gE g else ad 6), .int (nI (sn z))])) s.heap := hP 5 _ rfl
  refine lv_aload_n hx hb dX3_hear_0 rfl (lv_at hl 0 rfl) ?_
  refine lv_iload_n hx hb dX3_hear_1 rfl (lv_at hl 1 rfl) ?_
  refine q_roV (As := [.int (nI a)]) (rest := []) ⟨hx, hb, hml, hown, hts⟩ (c_X3_checkCode hM hV (x := nI a) (inR_nI ha (by omega))) (cwV 1 hts gX3_hear_X3_checkCode rfl rfl rfl (by decide +kernel) ⟨Nat.le_of_ble_eq_true rfl, Nat.le_of_ble_eq_true rfl⟩) hE hA hP (va_recv hE.K (q_P1 h_x) (ci := 4) (q0 := 0) rfl rfl) rfl hl.1 rfl (Nat.le_of_ble_eq_true rfl) dX3_hear_2 ⟨Nat.zero_le _, Nat.zero_le _⟩ ?_
  refine lv_aload_n hx hb dX3_hear_5 rfl (lv_at hl 0 rfl) ?_
  refine lv_iload_n hx hb dX3_hear_6 rfl (lv_at hl 2 rfl) ?_
  refine q_roV (As := [.int (nI t)]) (rest := []) ⟨hx, hb, hml, hown, hts⟩ (c_X3_checkTime hM hV (x := nI t) (inR_nI ht (by omega))) (cwV 1 hts gX3_hear_X3_checkTime rfl rfl rfl (by decide +kernel) ⟨Nat.le_of_ble_eq_true rfl, Nat.le_of_ble_eq_true rfl⟩) hE hA hP (va_recv hE.K (q_P1 h_x) (ci := 4) (q0 := 0) rfl rfl) rfl hl.1 rfl (Nat.le_of_ble_eq_true rfl) dX3_hear_7 ⟨Nat.zero_le _, Nat.zero_le _⟩ ?_
  refine lv_aload_n hx hb dX3_hear_10 rfl (lv_at hl 0 rfl) ?_
  refine va_get (v := .ref (ad 2)) (C := RX3) (T := TX3) (N := 3) hx hb hts (q_sub wsX30 46 rfl) hown hE.K (q_P1 h_x) 0 rfl rfl 1 (by decide) (hts _ (List.mem_of_getElem? (i := 1) rfl)) (fun _ h9 => h9) rfl dX3_hear_11 ?_
  refine lv_iload_n hx hb dX3_hear_14 rfl (lv_at hl 1 rfl) ?_
  refine lv_iload_n hx hb dX3_hear_15 rfl (lv_at hl 2 rfl) ?_
  refine q_roV (As := [.int (nI a), .int (nI t)]) (rest := []) ⟨hx, hb, hml, hown, hts⟩ (c_X2_heard (t := t) hL.2 (by omega) (by omega)) (cwV 2 hts gX3_hear_X2_heard rfl rfl rfl (by decide +kernel) ⟨Nat.le_of_ble_eq_true rfl, Nat.le_of_ble_eq_true rfl⟩) hE hA ⟨h_k, h_st, h_sg, h_c⟩ (va_recv hE.K (q_P1 h_k) (ci := 3) (q0 := 0) rfl rfl) rfl hl.1 rfl (Nat.le_of_ble_eq_true rfl) dX3_hear_16 ⟨Nat.zero_le _, Nat.zero_le _⟩ ?_
  exact q_iret hx hb hr hlocks dX3_hear_19 rfl
set_option maxHeartbeats 4000000 in
set_option maxRecDepth 100000 in
theorem ct_X3_hear_1 {l : Launch} (hl0 : l.stackTraces = false) {g : gT} {ad : Nat → Nat} {mc : Int32} {M : Nat} {sig : Nat → Int32} {z : sT} (hM : wM M (sn z)) (hV : VS z) {x y : Int32} (hx_ : ¬ inR x (sL z)) : TH l yX3_hear wsX3_hear ({ frames := 7, cells := 1, slots := 6, locals := 111 } : Room) [.ref (ad 0), .int x, .int y] g (fun H => va_P g.1 vwCl (wC g ad mc M sig z) H) xI := by
  refine TH.of (cc := cX3_hear) (maxL := 3) (ret := (some .int)) (by decide) rfl (Nat.le_of_ble_eq_true rfl) ?_
  intro p e s m below meth c hx hb hml hr hlocks hown hts hno hE hF ls hl
  have hown : s.vm.findClass RX3 = some m.cls := hown
  have hA : ∀ q, s.heap.size ≤ q → q_n s.heap q := fun _ h => h
  have hP := hF
  have hl : lv_has ls 3 [(0, .ref (ad 0)), (1, .int x), (2, .int y)] := hl
  have hL := hV.L
  have hn := hV.n
  have h_x : va_at g.1 vwCl (ad 0, .inr (4, [.ref (ad 1), .ref (ad 2), .ref (ad 5)])) s.heap := hP 0 _ rfl
  have h_c : va_at g.1 vwCl (ad 1, .inr (1, [.int (nI (sL z))])) s.heap := hP 1 _ rfl
  have h_k : va_at g.1 vwCl (ad 2, .inr (3, [.ref (ad 3), .ref (ad 4), .ref (ad 1)])) s.heap := hP 2 _ rfl
  have h_st : va_at g.1 vwCl (ad 3, .inl (gI g, 20, .inl (sst z))) s.heap := hP 3 _ rfl
  have h_sg : va_at g.1 vwCl (ad 4, .inl (gI g, 207, .inl sig)) s.heap := hP 4 _ rfl
  have h_l : va_at g.1 vwCl (ad 5, .inr (0, [.int mc, .ref (if M = 0 then gE g else ad 6), .int (nI (sn z))])) s.heap := hP 5 _ rfl
  refine lv_aload_n hx hb dX3_hear_0 rfl (lv_at hl 0 rfl) ?_
  refine lv_iload_n hx hb dX3_hear_1 rfl (lv_at hl 1 rfl) ?_
  exact q_thVo (As := [.int x]) (rest := []) hno hlocks ⟨hx, hb, hml, hown, hts⟩ (ct_X3_checkCode hl0 hM hV hx_) (cwV 1 hts gX3_hear_X3_checkCode rfl rfl rfl (by decide +kernel) ⟨Nat.le_of_ble_eq_true rfl, Nat.le_of_ble_eq_true rfl⟩) hE hA hP (va_recv hE.K (q_P1 h_x) (ci := 4) (q0 := 0) rfl rfl) rfl hl.1 rfl (Nat.le_of_ble_eq_true rfl) dX3_hear_2 ⟨Nat.le_of_ble_eq_true rfl, Nat.le_of_ble_eq_true rfl⟩
set_option maxHeartbeats 4000000 in
set_option maxRecDepth 100000 in
theorem ct_X3_hear_2 {l : Launch} (hl0 : l.stackTraces = false) {g : gT} {ad : Nat → Nat} {mc : Int32} {M : Nat} {sig : Nat → Int32} {z : sT} (hM : wM M (sn z)) (hV : VS z) {a : Nat} {x : Int32} (ha : a < sL z) (hx_ : ¬ inR x (1000)) : TH l yX3_hear wsX3_hear ({ frames := 7, cells := 1, slots := 6, locals := 111 } : Room) [.ref (ad 0), .int (nI a), .int x] g (fun H => va_P g.1 vwCl (wC g ad mc M sig z) H) xA := by
  refine TH.of (cc := cX3_hear) (maxL := 3) (ret := (some .int)) (by decide) rfl (Nat.le_of_ble_eq_true rfl) ?_
  intro p e s m below meth c hx hb hml hr hlocks hown hts hno hE hF ls hl
  have hown : s.vm.findClass RX3 = some m.cls := hown
  have hA : ∀ q, s.heap.size ≤ q → q_n s.heap q := fun _ h => h
  have hP := hF
  have hl : lv_has ls 3 [(0, .ref (ad 0)), (1, .int (nI a)), (2, .int x)] := hl
  have hL := hV.L
  have hn := hV.n
  have h_x : va_at g.1 vwCl (ad 0, .inr (4, [.ref (ad 1), .ref (ad 2), .ref (ad 5)])) s.heap := hP 0 _ rfl
  have h_c : va_at g.1 vwCl (ad 1, .inr (1, [.int (nI (sL z))])) s.heap := hP 1 _ rfl
  have h_k : va_at g.1 vwCl (ad 2, .inr (3, [.ref (ad 3), .ref (ad 4), .ref (ad 1)])) s.heap := hP 2 _ rfl
  have h_st : va_at g.1 vwCl (ad 3, .inl (gI g, 20, .inl (sst z))) s.heap := hP 3 _ rfl
  have h_sg : va_at g.1 vwCl (ad 4, .inl (gI g, 207, .inl sig)) s.heap := hP 4 _ rfl
  have h_l : va_at g.1 vwCl (ad 5, .inr (0, [.int mc, .ref (if M = 0 then gE g else ad 6), .int (nI (sn z))])) s.heap := hP 5 _ rfl
  refine lv_aload_n hx hb dX3_hear_0 rfl (lv_at hl 0 rfl) ?_
  refine lv_iload_n hx hb dX3_hear_1 rfl (lv_at hl 1 rfl) ?_
  refine q_roV (As := [.int (nI a)]) (rest := []) ⟨hx, hb, hml, hown, hts⟩ (c_X3_checkCode hM hV (x := nI a) (inR_nI ha (by omega))) (cwV 1 hts gX3_hear_X3_checkCode rfl rfl rfl (by decide +kernel) ⟨Nat.le_of_ble_eq_true rfl, Nat.le_of_ble_eq_true rfl⟩) hE hA hP (va_recv hE.K (q_P1 h_x) (ci := 4) (q0 := 0) rfl rfl) rfl hl.1 rfl (Nat.le_of_ble_eq_true rfl) dX3_hear_2 ⟨Nat.zero_le _, Nat.zero_le _⟩ ?_
  refine lv_aload_n hx hb dX3_hear_5 rfl (lv_at hl 0 rfl) ?_
  refine lv_iload_n hx hb dX3_hear_6 rfl (lv_at hl 2 rfl) ?_
  exact q_thVo (As := [.int x]) (rest := []) hno hlocks ⟨hx, hb, hml, hown, hts⟩ (ct_X3_checkTime hl0 hM hV hx_) (cwV 1 hts gX3_hear_X3_checkTime rfl rfl rfl (by decide +kernel) ⟨Nat.le_of_ble_eq_true rfl, Nat.le_of_ble_eq_true rfl⟩) hE hA hP (va_recv hE.K (q_P1 h_x) (ci := 4) (q0 := 0) rfl rfl) rfl hl.1 rfl (Nat.le_of_ble_eq_true rfl) dX3_hear_7 ⟨Nat.le_of_ble_eq_true rfl, Nat.le_of_ble_eq_true rfl⟩
set_option maxHeartbeats 4000000 in
set_option maxRecDepth 100000 in
theorem c_X3_word {l : Launch} {g : gT} {ad : Nat → Nat} {mc : Int32} {M : Nat} {sig : Nat → Int32} {z : sT} (hM : wM M (sn z)) (hV : VS z) {k w q : Nat} (hk_ : k < sn z) (hw : w < ssd z k) (hq : q < 3) : RO l yX3_word wsX3_word ({ frames := 4, cells := 0, slots := 0, locals := 88 } : Room) [.ref (ad 0), .int (nI k), .int (nI w), .int (nI q)] g (fun H => va_P g.1 vwCl (wC g ad mc M sig z) H) (some (.int (wrdV z (atF (sst z) sig) k w q))) := by
  refine RO.of (cc := cX3_word) (maxL := 5) (ret := (some .int)) (by decide) rfl (Nat.le_of_ble_eq_true rfl) ?_
  intro p e s m below meth c hx hb hml hr hlocks hown hts hE hF ls hl
  have hown : s.vm.findClass RX3 = some m.cls := hown
  have hA : ∀ q, s.heap.size ≤ q → q_n s.heap q := fun _ h => h
  have hP := hF
  have hl : lv_has ls 5 [(0, .ref (ad 0)), (1, .int (nI k)), (2, .int (nI w)), (3, .int (nI q))] := hl
  have hL := hV.L
  have hn := hV.n
  have h_x : va_at g.1 vwCl (ad 0, .inr (4, [.ref (ad 1), .ref (ad 2), .ref (ad 5)])) s.heap := hP 0 _ rfl
  have h_c : va_at g.1 vwCl (ad 1, .inr (1, [.int (nI (sL z))])) s.heap := hP 1 _ rfl
  have h_k : va_at g.1 vwCl (ad 2, .inr (3, [.ref (ad 3), .ref (ad 4), .ref (ad 1)])) s.heap := hP 2 _ rfl
  have h_st : va_at g.1 vwCl (ad 3, .inl (gI g, 20, .inl (sst z))) s.heap := hP 3 _ rfl
  have h_sg : va_at g.1 vwCl (ad 4, .inl (gI g, 207, .inl sig)) s.heap := hP 4 _ rfl
  have h_l : va_at g.1 vwCl (ad 5, .inr (0, [.int mc, .ref (if M = 0 then gE g else ad 6), .int (nI (sn z))])) s.heap := hP 5 _ rfl
  have hb_ := hV.h hk_
  have h_h := hP (2 * k + 7) _ (wC_h hM hk_)
  have h_w := hP (2 * k + 8) _ (wC_w hM hk_)
  have h_e := hP 6 _ (wC_e (by omega))
  have h_l6 : va_at g.1 vwCl (ad 5, .inr (0, [.int mc, .ref (ad 6), .int (nI (sn z))])) s.heap := by
    have := h_l
    rwa [if_neg (show ¬ M = 0 by omega)] at this
  refine lv_aload_n hx hb dX3_word_0 rfl (lv_at hl 0 rfl) ?_
  refine lv_iload_n hx hb dX3_word_1 rfl (lv_at hl 1 rfl) ?_
  refine q_roV (As := [.int (nI k)]) (rest := []) ⟨hx, hb, hml, hown, hts⟩ (c_X3_hillAt hM hV hk_) (cwV 1 hts gX3_word_X3_hillAt rfl rfl rfl (by decide +kernel) ⟨Nat.le_of_ble_eq_true rfl, Nat.le_of_ble_eq_true rfl⟩) hE hA hP (va_recv hE.K (q_P1 h_x) (ci := 4) (q0 := 0) rfl rfl) rfl hl.1 rfl (Nat.le_of_ble_eq_true rfl) dX3_word_2 ⟨Nat.zero_le _, Nat.zero_le _⟩ ?_
  refine lv_astore (lv' := [(4, .ref (ad (2 * k + 7))), (0, .ref (ad 0)), (1, .int (nI k)), (2, .int (nI w)), (3, .int (nI q))]) hx hb dX3_word_5 hl (by decide) rfl (fun ls hl => ?_)
  refine lv_iload_n hx hb dX3_word_7 rfl (lv_at hl 3 rfl) ?_
  refine q_if_lt (tgt := 20) hx hb (by omega) dX3_word_8 (by decide) ?_
  refine lv_iload_n hx hb dX3_word_11 rfl (lv_at hl 3 rfl) ?_
  refine lv_aload hx hb dX3_word_12 (lv_at hl 0 rfl) ?_
  refine va_get (v := .int (nI (ssd z k))) (C := RX1) (T := TX1) (N := 5) hx hb hts (q_sub wsX10 81 rfl) hown hE.K (q_P1 h_h) 0 rfl rfl 3 (by decide) (hts _ (List.mem_of_getElem? (i := 3) rfl)) (fun _ h9 => h9) rfl dX3_word_14 ?_
  refine q_icmp_lt (tgt := 30) hx hb (by omega) (by omega) dX3_word_17 (by decide) (fun c_2 => ?_) (fun c_2 => ?_)
  · refine lv_iload_n hx hb dX3_word_30 rfl (lv_at hl 4 rfl) ?_
    rcases (show q = 0 ∨ q = 1 ∨ q = 2 by omega) with rfl | rfl | rfl
    · refine lv_tableIn (tgt := 56) hx hb dX3_word_31 (by decide) (by decide) rfl (by decide) ?_
      refine lv_aload hx hb dX3_word_56 (lv_at hl 0 rfl) ?_
      refine lv_iload_n hx hb dX3_word_58 rfl (lv_at hl 3 rfl) ?_
      refine q_roV (As := [.int (nI w)]) (rest := []) ⟨hx, hb, hml, hown, hts⟩ (c_X1_wordAt (i := w) (by omega)) (cwV 1 hts gX3_word_X1_wordAt rfl rfl rfl (by decide +kernel) ⟨Nat.le_of_ble_eq_true rfl, Nat.le_of_ble_eq_true rfl⟩) hE hA ⟨h_h, h_w⟩ (va_recv hE.K (q_P1 h_h) (ci := 2) (q0 := 0) rfl rfl) rfl hl.1 rfl (Nat.le_of_ble_eq_true rfl) dX3_word_59 ⟨Nat.zero_le _, Nat.zero_le _⟩ ?_
      exact q_iret hx hb hr hlocks dX3_word_62 rfl
    · refine lv_tableIn (tgt := 63) hx hb dX3_word_31 (by decide) (by decide) rfl (by decide) ?_
      refine lv_aload_n hx hb dX3_word_63 rfl (lv_at hl 1 rfl) ?_
      refine va_get (v := .ref (ad 2)) (C := RX3) (T := TX3) (N := 3) hx hb hts (q_sub wsX30 86 rfl) hown hE.K (q_P1 h_x) 0 rfl rfl 1 (by decide) (hts _ (List.mem_of_getElem? (i := 4) rfl)) (fun _ h9 => h9) rfl dX3_word_64 ?_
      refine lv_aload hx hb dX3_word_67 (lv_at hl 0 rfl) ?_
      refine lv_iload_n hx hb dX3_word_69 rfl (lv_at hl 3 rfl) ?_
      refine q_roV (As := [.ref (ad (2 * k + 7)), .int (nI w)]) (rest := []) ⟨hx, hb, hml, hown, hts⟩ (c_X2_heardWord (w := w) hL.2 hb_.1 hb_.2.2.1 (by omega)) (cwV 2 hts gX3_word_X2_heardWord rfl rfl rfl (by decide +kernel) ⟨Nat.le_of_ble_eq_true rfl, Nat.le_of_ble_eq_true rfl⟩) hE hA ⟨h_k, h_st, h_sg, h_c, h_h⟩ (va_recv hE.K (q_P1 h_k) (ci := 3) (q0 := 0) rfl rfl) rfl hl.1 rfl (Nat.le_of_ble_eq_true rfl) dX3_word_70 ⟨Nat.zero_le _, Nat.zero_le _⟩ ?_
      exact q_iret hx hb hr hlocks dX3_word_73 rfl
    · refine lv_tableIn (tgt := 74) hx hb dX3_word_31 (by decide) (by decide) rfl (by decide) ?_
      refine lv_aload hx hb dX3_word_74 (lv_at hl 0 rfl) ?_
      refine lv_iload_n hx hb dX3_word_76 rfl (lv_at hl 3 rfl) ?_
      refine lv_aload_n hx hb dX3_word_77 rfl (lv_at hl 1 rfl) ?_
      refine va_get (v := .ref (ad 2)) (C := RX3) (T := TX3) (N := 3) hx hb hts (q_sub wsX30 86 rfl) hown hE.K (q_P1 h_x) 0 rfl rfl 1 (by decide) (hts _ (List.mem_of_getElem? (i := 4) rfl)) (fun _ h9 => h9) rfl dX3_word_78 ?_
      refine lv_aload hx hb dX3_word_81 (lv_at hl 0 rfl) ?_
      refine lv_iload_n hx hb dX3_word_83 rfl (lv_at hl 3 rfl) ?_
      refine q_roV (As := [.ref (ad (2 * k + 7)), .int (nI w)]) (rest := [.int (nI w), .ref (ad (2 * k + 7))]) ⟨hx, hb, hml, hown, hts⟩ (c_X2_heardWord (w := w) hL.2 hb_.1 hb_.2.2.1 (by omega)) (cwV 2 hts gX3_word_X2_heardWord rfl rfl rfl (by decide +kernel) ⟨Nat.le_of_ble_eq_true rfl, Nat.le_of_ble_eq_true rfl⟩) hE hA ⟨h_k, h_st, h_sg, h_c, h_h⟩ (va_recv hE.K (q_P1 h_k) (ci := 3) (q0 := 0) rfl rfl) rfl hl.1 rfl (Nat.le_of_ble_eq_true rfl) dX3_word_84 ⟨Nat.zero_le _, Nat.zero_le _⟩ ?_
      refine q_roV (As := [.int (nI w), .int (hearF (sL z) (atF (sst z) sig) (scd z k) (w * sL z + sdl z k))]) (rest := []) ⟨hx, hb, hml, hown, hts⟩ (c_X1_isWrong (i := w) (by omega)) (cwV 2 hts gX3_word_X1_isWrong rfl rfl rfl (by decide +kernel) ⟨Nat.le_of_ble_eq_true rfl, Nat.le_of_ble_eq_true rfl⟩) hE hA ⟨h_h, h_w⟩ (va_recv hE.K (q_P1 h_h) (ci := 2) (q0 := 0) rfl rfl) rfl hl.1 rfl (Nat.le_of_ble_eq_true rfl) dX3_word_87 ⟨Nat.zero_le _, Nat.zero_le _⟩ ?_
      refine q_ifb_eq (tgt := 97) hx hb dX3_word_90 (by decide) (fun c_q => ?_) (fun c_q => ?_)
      · refine lv_iconst (v := nI 0) hx hb dX3_word_97 (by decide) ?_
        exact q_iret hx hb hr hlocks dX3_word_98 (by rw [wrdV_2, wrC_f c_q])
      · refine lv_iconst (v := nI 1) hx hb dX3_word_93 (by decide) ?_
        refine lv_goto (tgt := 98) hx hb dX3_word_94 (by decide) ?_
        exact q_iret hx hb hr hlocks dX3_word_98 (by rw [wrdV_2, wrC_t c_q])
  · exact absurd c_2 (by omega)
set_option maxHeartbeats 4000000 in
set_option maxRecDepth 100000 in
theorem ct_X3_word_1 {l : Launch} (hl0 : l.stackTraces = false) {g : gT} {ad : Nat → Nat} {mc : Int32} {M : Nat} {sig : Nat → Int32} {z : sT} (hM : wM M (sn z)) (hV : VS z) {x y u : Int32} (hx_ : ¬ inR x (sn z)) : TH l yX3_word wsX3_word ({ frames := 7, cells := 1, slots := 6, locals := 111 } : Room) [.ref (ad 0), .int x, .int y, .int u] g (fun H => va_P g.1 vwCl (wC g ad mc M sig z) H) xI := by
  refine TH.of (cc := cX3_word) (maxL := 5) (ret := (some .int)) (by decide) rfl (Nat.le_of_ble_eq_true rfl) ?_
  intro p e s m below meth c hx hb hml hr hlocks hown hts hno hE hF ls hl
  have hown : s.vm.findClass RX3 = some m.cls := hown
  have hA : ∀ q, s.heap.size ≤ q → q_n s.heap q := fun _ h => h
  have hP := hF
  have hl : lv_has ls 5 [(0, .ref (ad 0)), (1, .int x), (2, .int y), (3, .int u)] := hl
  have hL := hV.L
  have hn := hV.n
  have h_x : va_at g.1 vwCl (ad 0, .inr (4, [.ref (ad 1), .ref (ad 2), .ref (ad 5)])) s.heap := hP 0 _ rfl
  have h_c : va_at g.1 vwCl (ad 1, .inr (1, [.int (nI (sL z))])) s.heap := hP 1 _ rfl
  have h_k : va_at g.1 vwCl (ad 2, .inr (3, [.ref (ad 3), .ref (ad 4), .ref (ad 1)])) s.heap := hP 2 _ rfl
  have h_st : va_at g.1 vwCl (ad 3, .inl (gI g, 20, .inl (sst z))) s.heap := hP 3 _ rfl
  have h_sg : va_at g.1 vwCl (ad 4, .inl (gI g, 207, .inl sig)) s.heap := hP 4 _ rfl
  have h_l : va_at g.1 vwCl (ad 5, .inr (0, [.int mc, .ref (if M = 0 then gE g else ad 6), .int (nI (sn z))])) s.heap := hP 5 _ rfl
  refine lv_aload_n hx hb dX3_word_0 rfl (lv_at hl 0 rfl) ?_
  refine lv_iload_n hx hb dX3_word_1 rfl (lv_at hl 1 rfl) ?_
  exact q_thVo (As := [.int x]) (rest := []) hno hlocks ⟨hx, hb, hml, hown, hts⟩ (ct_X3_hillAt hl0 hM hV hx_) (cwV 1 hts gX3_word_X3_hillAt rfl rfl rfl (by decide +kernel) ⟨Nat.le_of_ble_eq_true rfl, Nat.le_of_ble_eq_true rfl⟩) hE hA hP (va_recv hE.K (q_P1 h_x) (ci := 4) (q0 := 0) rfl rfl) rfl hl.1 rfl (Nat.le_of_ble_eq_true rfl) dX3_word_2 ⟨Nat.le_of_ble_eq_true rfl, Nat.le_of_ble_eq_true rfl⟩
set_option maxHeartbeats 4000000 in
set_option maxRecDepth 100000 in
theorem ct_X3_word_2 {l : Launch} (hl0 : l.stackTraces = false) {g : gT} {ad : Nat → Nat} {mc : Int32} {M : Nat} {sig : Nat → Int32} {z : sT} (hM : wM M (sn z)) (hV : VS z) {k : Nat} {x u : Int32} (hk_ : k < sn z) (hx_ : ¬ inR x (ssd z k)) : TH l yX3_word wsX3_word ({ frames := 6, cells := 1, slots := 6, locals := 90 } : Room) [.ref (ad 0), .int (nI k), .int x, .int u] g (fun H => va_P g.1 vwCl (wC g ad mc M sig z) H) xI := by
  refine TH.of (cc := cX3_word) (maxL := 5) (ret := (some .int)) (by decide) rfl (Nat.le_of_ble_eq_true rfl) ?_
  intro p e s m below meth c hx hb hml hr hlocks hown hts hno hE hF ls hl
  have hown : s.vm.findClass RX3 = some m.cls := hown
  have hA : ∀ q, s.heap.size ≤ q → q_n s.heap q := fun _ h => h
  have hP := hF
  have hl : lv_has ls 5 [(0, .ref (ad 0)), (1, .int (nI k)), (2, .int x), (3, .int u)] := hl
  have hL := hV.L
  have hn := hV.n
  have h_x : va_at g.1 vwCl (ad 0, .inr (4, [.ref (ad 1), .ref (ad 2), .ref (ad 5)])) s.heap := hP 0 _ rfl
  have h_c : va_at g.1 vwCl (ad 1, .inr (1, [.int (nI (sL z))])) s.heap := hP 1 _ rfl
  have h_k : va_at g.1 vwCl (ad 2, .inr (3, [.ref (ad 3), .ref (ad 4), .ref (ad 1)])) s.heap := hP 2 _ rfl
  have h_st : va_at g.1 vwCl (ad 3, .inl (gI g, 20, .inl (sst z))) s.heap := hP 3 _ rfl
  have h_sg : va_at g.1 vwCl (ad 4, .inl (gI g, 207, .inl sig)) s.heap := hP 4 _ rfl
  have h_l : va_at g.1 vwCl (ad 5, .inr (0, [.int mc, .ref (if M = 0 then gE g else ad 6), .int (nI (sn z))])) s.heap := hP 5 _ rfl
  have hb_ := hV.h hk_
  have h_h := hP (2 * k + 7) _ (wC_h hM hk_)
  have h_w := hP (2 * k + 8) _ (wC_w hM hk_)
  have h_e := hP 6 _ (wC_e (by omega))
  have h_l6 : va_at g.1 vwCl (ad 5, .inr (0, [.int mc, .ref (ad 6), .int (nI (sn z))])) s.heap := by
    have := h_l
    rwa [if_neg (show ¬ M = 0 by omega)] at this
  have hx_ : ¬ (0 ≤ x.toInt ∧ x.toInt < (ssd z k : Int)) := hx_
  refine lv_aload_n hx hb dX3_word_0 rfl (lv_at hl 0 rfl) ?_
  refine lv_iload_n hx hb dX3_word_1 rfl (lv_at hl 1 rfl) ?_
  refine q_roV (As := [.int (nI k)]) (rest := []) ⟨hx, hb, hml, hown, hts⟩ (c_X3_hillAt hM hV hk_) (cwV 1 hts gX3_word_X3_hillAt rfl rfl rfl (by decide +kernel) ⟨Nat.le_of_ble_eq_true rfl, Nat.le_of_ble_eq_true rfl⟩) hE hA hP (va_recv hE.K (q_P1 h_x) (ci := 4) (q0 := 0) rfl rfl) rfl hl.1 rfl (Nat.le_of_ble_eq_true rfl) dX3_word_2 ⟨Nat.zero_le _, Nat.zero_le _⟩ ?_
  refine lv_astore (lv' := [(4, .ref (ad (2 * k + 7))), (0, .ref (ad 0)), (1, .int (nI k)), (2, .int x), (3, .int u)]) hx hb dX3_word_5 hl (by decide) rfl (fun ls hl => ?_)
  refine lv_iload_n hx hb dX3_word_7 rfl (lv_at hl 3 rfl) ?_
  refine lv_if_lt (tgt := 20) hx hb dX3_word_8 (by decide) (fun c_1 => ?_) (fun c_1 => ?_)
  · have c_1 := rlt_0.mp c_1
    exact q_throw (E := xI) (text := "there is no such word") (ik := 106) (is := 137) (ic := 110) hx hb hl0 hno hlocks hown hE hts (by decide +kernel) (by decide +kernel) (List.mem_of_getElem? (i := 1) rfl) (List.mem_of_getElem? (i := 2) rfl) (List.mem_of_getElem? (i := 5) rfl) (fun w h => List.mem_cons_of_mem _ (List.mem_append_right _ h)) (fun w h => List.mem_append_right _ (List.mem_append_left _ h)) (by decide +kernel) (hl.1.trans hml.symm) dX3_word_20 dX3_word_23 dX3_word_24 dX3_word_26 dX3_word_29 (Nat.le_of_ble_eq_true rfl) (Nat.le_of_ble_eq_true rfl) (Nat.le_of_ble_eq_true rfl) (Nat.le_of_ble_eq_true rfl)
  · have c_1 := mt rlt_0.mpr c_1
    refine lv_iload_n hx hb dX3_word_11 rfl (lv_at hl 3 rfl) ?_
    refine lv_aload hx hb dX3_word_12 (lv_at hl 0 rfl) ?_
    refine va_get (v := .int (nI (ssd z k))) (C := RX1) (T := TX1) (N := 5) hx hb hts (q_sub wsX10 81 rfl) hown hE.K (q_P1 h_h) 0 rfl rfl 3 (by decide) (hts _ (List.mem_of_getElem? (i := 3) rfl)) (fun _ h9 => h9) rfl dX3_word_14 ?_
    refine lv_icmp_lt (tgt := 30) hx hb dX3_word_17 (by decide) (fun c_2 => ?_) (fun c_2 => ?_)
    · have c_2 := (rlt_nI (by omega)).mp c_2
      exfalso; omega
    · have c_2 := mt (rlt_nI (by omega)).mpr c_2
      exact q_throw (E := xI) (text := "there is no such word") (ik := 106) (is := 137) (ic := 110) hx hb hl0 hno hlocks hown hE hts (by decide +kernel) (by decide +kernel) (List.mem_of_getElem? (i := 1) rfl) (List.mem_of_getElem? (i := 2) rfl) (List.mem_of_getElem? (i := 5) rfl) (fun w h => List.mem_cons_of_mem _ (List.mem_append_right _ h)) (fun w h => List.mem_append_right _ (List.mem_append_left _ h)) (by decide +kernel) (hl.1.trans hml.symm) dX3_word_20 dX3_word_23 dX3_word_24 dX3_word_26 dX3_word_29 (Nat.le_of_ble_eq_true rfl) (Nat.le_of_ble_eq_true rfl) (Nat.le_of_ble_eq_true rfl) (Nat.le_of_ble_eq_true rfl)
set_option maxHeartbeats 4000000 in
set_option maxRecDepth 100000 in
theorem ct_X3_word_3 {l : Launch} (hl0 : l.stackTraces = false) {g : gT} {ad : Nat → Nat} {mc : Int32} {M : Nat} {sig : Nat → Int32} {z : sT} (hM : wM M (sn z)) (hV : VS z) {k w : Nat} {x : Int32} (hk_ : k < sn z) (hw : w < ssd z k) (hx_ : ¬ inR x (3)) : TH l yX3_word wsX3_word ({ frames := 6, cells := 1, slots := 6, locals := 90 } : Room) [.ref (ad 0), .int (nI k), .int (nI w), .int x] g (fun H => va_P g.1 vwCl (wC g ad mc M sig z) H) xI := by
  refine TH.of (cc := cX3_word) (maxL := 5) (ret := (some .int)) (by decide) rfl (Nat.le_of_ble_eq_true rfl) ?_
  intro p e s m below meth c hx hb hml hr hlocks hown hts hno hE hF ls hl
  have hown : s.vm.findClass RX3 = some m.cls := hown
  have hA : ∀ q, s.heap.size ≤ q → q_n s.heap q := fun _ h => h
  have hP := hF
  have hl : lv_has ls 5 [(0, .ref (ad 0)), (1, .int (nI k)), (2, .int (nI w)), (3, .int x)] := hl
  have hL := hV.L
  have hn := hV.n
  have h_x : va_at g.1 vwCl (ad 0, .inr (4, [.ref (ad 1), .ref (ad 2), .ref (ad 5)])) s.heap := hP 0 _ rfl
  have h_c : va_at g.1 vwCl (ad 1, .inr (1, [.int (nI (sL z))])) s.heap := hP 1 _ rfl
  have h_k : va_at g.1 vwCl (ad 2, .inr (3, [.ref (ad 3), .ref (ad 4), .ref (ad 1)])) s.heap := hP 2 _ rfl
  have h_st : va_at g.1 vwCl (ad 3, .inl (gI g, 20, .inl (sst z))) s.heap := hP 3 _ rfl
  have h_sg : va_at g.1 vwCl (ad 4, .inl (gI g, 207, .inl sig)) s.heap := hP 4 _ rfl
  have h_l : va_at g.1 vwCl (ad 5, .inr (0, [.int mc, .ref (if M = 0 then gE g else ad 6), .int (nI (sn z))])) s.heap := hP 5 _ rfl
  have hb_ := hV.h hk_
  have h_h := hP (2 * k + 7) _ (wC_h hM hk_)
  have h_w := hP (2 * k + 8) _ (wC_w hM hk_)
  have h_e := hP 6 _ (wC_e (by omega))
  have h_l6 : va_at g.1 vwCl (ad 5, .inr (0, [.int mc, .ref (ad 6), .int (nI (sn z))])) s.heap := by
    have := h_l
    rwa [if_neg (show ¬ M = 0 by omega)] at this
  have hx_ : ¬ (0 ≤ x.toInt ∧ x.toInt < ((3 : Nat) : Int)) := hx_
  refine lv_aload_n hx hb dX3_word_0 rfl (lv_at hl 0 rfl) ?_
  refine lv_iload_n hx hb dX3_word_1 rfl (lv_at hl 1 rfl) ?_
  refine q_roV (As := [.int (nI k)]) (rest := []) ⟨hx, hb, hml, hown, hts⟩ (c_X3_hillAt hM hV hk_) (cwV 1 hts gX3_word_X3_hillAt rfl rfl rfl (by decide +kernel) ⟨Nat.le_of_ble_eq_true rfl, Nat.le_of_ble_eq_true rfl⟩) hE hA hP (va_recv hE.K (q_P1 h_x) (ci := 4) (q0 := 0) rfl rfl) rfl hl.1 rfl (Nat.le_of_ble_eq_true rfl) dX3_word_2 ⟨Nat.zero_le _, Nat.zero_le _⟩ ?_
  refine lv_astore (lv' := [(4, .ref (ad (2 * k + 7))), (0, .ref (ad 0)), (1, .int (nI k)), (2, .int (nI w)), (3, .int x)]) hx hb dX3_word_5 hl (by decide) rfl (fun ls hl => ?_)
  refine lv_iload_n hx hb dX3_word_7 rfl (lv_at hl 3 rfl) ?_
  refine q_if_lt (tgt := 20) hx hb (by omega) dX3_word_8 (by decide) ?_
  refine lv_iload_n hx hb dX3_word_11 rfl (lv_at hl 3 rfl) ?_
  refine lv_aload hx hb dX3_word_12 (lv_at hl 0 rfl) ?_
  refine va_get (v := .int (nI (ssd z k))) (C := RX1) (T := TX1) (N := 5) hx hb hts (q_sub wsX10 81 rfl) hown hE.K (q_P1 h_h) 0 rfl rfl 3 (by decide) (hts _ (List.mem_of_getElem? (i := 3) rfl)) (fun _ h9 => h9) rfl dX3_word_14 ?_
  refine q_icmp_lt (tgt := 30) hx hb (by omega) (by omega) dX3_word_17 (by decide) (fun c_2 => ?_) (fun c_2 => ?_)
  · refine lv_iload_n hx hb dX3_word_30 rfl (lv_at hl 4 rfl) ?_
    refine lv_tableOut (tgt := 99) hx hb dX3_word_31 (by omega) (by decide) ?_
    exact q_throw (E := xI) (text := "what is not 0 to 2") (ik := 106) (is := 150) (ic := 110) hx hb hl0 hno hlocks hown hE hts (by decide +kernel) (by decide +kernel) (List.mem_of_getElem? (i := 1) rfl) (List.mem_of_getElem? (i := 2) rfl) (List.mem_of_getElem? (i := 6) rfl) (fun w h => List.mem_cons_of_mem _ (List.mem_append_right _ h)) (fun w h => List.mem_append_right _ (List.mem_append_left _ h)) (by decide +kernel) (hl.1.trans hml.symm) dX3_word_99 dX3_word_102 dX3_word_103 dX3_word_105 dX3_word_108 (Nat.le_of_ble_eq_true rfl) (Nat.le_of_ble_eq_true rfl) (Nat.le_of_ble_eq_true rfl) (Nat.le_of_ble_eq_true rfl)
  · exact absurd c_2 (by omega)
set_option maxHeartbeats 4000000 in
set_option maxRecDepth 100000 in
theorem c_X3_about {l : Launch} {g : gT} {ad : Nat → Nat} {mc : Int32} {M : Nat} {sig : Nat → Int32} {z : sT} (hM : wM M (sn z)) (hV : VS z) {k q : Nat} (hk_ : k < sn z) (hq : q < 7) : RO l yX3_about wsX3_about ({ frames := 5, cells := 0, slots := 0, locals := 112 } : Room) [.ref (ad 0), .int (nI k), .int (nI q)] g (fun H => va_P g.1 vwCl (wC g ad mc M sig z) H) (some (.int (abtV z (atF (sst z) sig) k q))) := by
  refine RO.of (cc := cX3_about) (maxL := 4) (ret := (some .int)) (by decide) rfl (Nat.le_of_ble_eq_true rfl) ?_
  intro p e s m below meth c hx hb hml hr hlocks hown hts hE hF ls hl
  have hown : s.vm.findClass RX3 = some m.cls := hown
  have hA : ∀ q, s.heap.size ≤ q → q_n s.heap q := fun _ h => h
  have hP := hF
  have hl : lv_has ls 4 [(0, .ref (ad 0)), (1, .int (nI k)), (2, .int (nI q))] := hl
  have hL := hV.L
  have hn := hV.n
  have h_x : va_at g.1 vwCl (ad 0, .inr (4, [.ref (ad 1), .ref (ad 2), .ref (ad 5)])) s.heap := hP 0 _ rfl
  have h_c : va_at g.1 vwCl (ad 1, .inr (1, [.int (nI (sL z))])) s.heap := hP 1 _ rfl
  have h_k : va_at g.1 vwCl (ad 2, .inr (3, [.ref (ad 3), .ref (ad 4), .ref (ad 1)])) s.heap := hP 2 _ rfl
  have h_st : va_at g.1 vwCl (ad 3, .inl (gI g, 20, .inl (sst z))) s.heap := hP 3 _ rfl
  have h_sg : va_at g.1 vwCl (ad 4, .inl (gI g, 207, .inl sig)) s.heap := hP 4 _ rfl
  have h_l : va_at g.1 vwCl (ad 5, .inr (0, [.int mc, .ref (if M = 0 then gE g else ad 6), .int (nI (sn z))])) s.heap := hP 5 _ rfl
  have hb_ := hV.h hk_
  have h_h := hP (2 * k + 7) _ (wC_h hM hk_)
  have h_w := hP (2 * k + 8) _ (wC_w hM hk_)
  have h_e := hP 6 _ (wC_e (by omega))
  have h_l6 : va_at g.1 vwCl (ad 5, .inr (0, [.int mc, .ref (ad 6), .int (nI (sn z))])) s.heap := by
    have := h_l
    rwa [if_neg (show ¬ M = 0 by omega)] at this
  refine lv_aload_n hx hb dX3_about_0 rfl (lv_at hl 0 rfl) ?_
  refine lv_iload_n hx hb dX3_about_1 rfl (lv_at hl 1 rfl) ?_
  refine q_roV (As := [.int (nI k)]) (rest := []) ⟨hx, hb, hml, hown, hts⟩ (c_X3_hillAt hM hV hk_) (cwV 1 hts gX3_about_X3_hillAt rfl rfl rfl (by decide +kernel) ⟨Nat.le_of_ble_eq_true rfl, Nat.le_of_ble_eq_true rfl⟩) hE hA hP (va_recv hE.K (q_P1 h_x) (ci := 4) (q0 := 0) rfl rfl) rfl hl.1 rfl (Nat.le_of_ble_eq_true rfl) dX3_about_2 ⟨Nat.zero_le _, Nat.zero_le _⟩ ?_
  refine lv_astore_n (lv' := [(3, .ref (ad (2 * k + 7))), (0, .ref (ad 0)), (1, .int (nI k)), (2, .int (nI q))]) hx hb dX3_about_5 rfl hl (by decide) rfl (fun ls hl => ?_)
  refine lv_iload_n hx hb dX3_about_6 rfl (lv_at hl 3 rfl) ?_
  rcases (show q = 0 ∨ q = 1 ∨ q = 2 ∨ q = 3 ∨ q = 4 ∨ q = 5 ∨ q = 6 by omega) with rfl | rfl | rfl | rfl | rfl | rfl | rfl
  · refine lv_tableIn (tgt := 48) hx hb dX3_about_7 (by decide) (by decide) rfl (by decide) ?_
    refine lv_aload_n hx hb dX3_about_48 rfl (lv_at hl 0 rfl) ?_
    refine va_get (v := .int (nI (scd z k))) (C := RX1) (T := TX1) (N := 5) hx hb hts (q_sub wsX10 104 rfl) hown hE.K (q_P1 h_h) 0 rfl rfl 0 (by decide) (hts _ (List.mem_of_getElem? (i := 3) rfl)) (fun _ h9 => h9) rfl dX3_about_49 ?_
    exact q_iret hx hb hr hlocks dX3_about_52 rfl
  · refine lv_tableIn (tgt := 53) hx hb dX3_about_7 (by decide) (by decide) rfl (by decide) ?_
    refine lv_aload_n hx hb dX3_about_53 rfl (lv_at hl 0 rfl) ?_
    refine va_get (v := .int (nI (ssr z k))) (C := RX1) (T := TX1) (N := 5) hx hb hts (q_sub wsX10 104 rfl) hown hE.K (q_P1 h_h) 0 rfl rfl 1 (by decide) (hts _ (List.mem_of_getElem? (i := 4) rfl)) (fun _ h9 => h9) rfl dX3_about_54 ?_
    exact q_iret hx hb hr hlocks dX3_about_57 rfl
  · refine lv_tableIn (tgt := 58) hx hb dX3_about_7 (by decide) (by decide) rfl (by decide) ?_
    refine lv_aload_n hx hb dX3_about_58 rfl (lv_at hl 0 rfl) ?_
    refine va_get (v := .int (nI (sdl z k))) (C := RX1) (T := TX1) (N := 5) hx hb hts (q_sub wsX10 104 rfl) hown hE.K (q_P1 h_h) 0 rfl rfl 2 (by decide) (hts _ (List.mem_of_getElem? (i := 5) rfl)) (fun _ h9 => h9) rfl dX3_about_59 ?_
    exact q_iret hx hb hr hlocks dX3_about_62 rfl
  · refine lv_tableIn (tgt := 63) hx hb dX3_about_7 (by decide) (by decide) rfl (by decide) ?_
    refine lv_aload_n hx hb dX3_about_63 rfl (lv_at hl 0 rfl) ?_
    refine va_get (v := .int (nI (ssd z k))) (C := RX1) (T := TX1) (N := 5) hx hb hts (q_sub wsX10 104 rfl) hown hE.K (q_P1 h_h) 0 rfl rfl 3 (by decide) (hts _ (List.mem_of_getElem? (i := 6) rfl)) (fun _ h9 => h9) rfl dX3_about_64 ?_
    exact q_iret hx hb hr hlocks dX3_about_67 rfl
  · refine lv_tableIn (tgt := 68) hx hb dX3_about_7 (by decide) (by decide) rfl (by decide) ?_
    refine lv_aload_n hx hb dX3_about_68 rfl (lv_at hl 1 rfl) ?_
    refine va_get (v := .ref (ad 2)) (C := RX3) (T := TX3) (N := 3) hx hb hts (q_sub wsX30 109 rfl) hown hE.K (q_P1 h_x) 0 rfl rfl 1 (by decide) (hts _ (List.mem_of_getElem? (i := 7) rfl)) (fun _ h9 => h9) rfl dX3_about_69 ?_
    refine lv_aload_n hx hb dX3_about_72 rfl (lv_at hl 0 rfl) ?_
    refine q_roV (As := [.ref (ad (2 * k + 7))]) (rest := []) ⟨hx, hb, hml, hown, hts⟩ (c_X2_wrongWords hL.2 hb_.1 hb_.2.2.1 hb_.2.2.2) (cwV 1 hts gX3_about_X2_wrongWords rfl rfl rfl (by decide +kernel) ⟨Nat.le_of_ble_eq_true rfl, Nat.le_of_ble_eq_true rfl⟩) hE hA ⟨h_k, h_st, h_sg, h_c, h_h, h_w⟩ (va_recv hE.K (q_P1 h_k) (ci := 3) (q0 := 0) rfl rfl) rfl hl.1 rfl (Nat.le_of_ble_eq_true rfl) dX3_about_73 ⟨Nat.zero_le _, Nat.zero_le _⟩ ?_
    exact q_iret hx hb hr hlocks dX3_about_76 rfl
  · refine lv_tableIn (tgt := 77) hx hb dX3_about_7 (by decide) (by decide) rfl (by decide) ?_
    refine lv_aload_n hx hb dX3_about_77 rfl (lv_at hl 0 rfl) ?_
    refine lv_aload_n hx hb dX3_about_78 rfl (lv_at hl 1 rfl) ?_
    refine va_get (v := .ref (ad 1)) (C := RX3) (T := TX3) (N := 3) hx hb hts (q_sub wsX30 109 rfl) hown hE.K (q_P1 h_x) 0 rfl rfl 0 (by decide) (hts _ (List.mem_of_getElem? (i := 8) rfl)) (fun _ h9 => h9) rfl dX3_about_79 ?_
    refine va_get (v := .int (nI (sL z))) (C := RX0) (T := TX0) (N := 1) hx hb hts (q_sub wsX00 112 rfl) hown hE.K (q_P1 h_c) 0 rfl rfl 0 (by decide) (hts _ (List.mem_of_getElem? (i := 9) rfl)) (fun _ h9 => h9) rfl dX3_about_82 ?_
    refine q_roV (As := [.int (nI (sL z))]) (rest := []) ⟨hx, hb, hml, hown, hts⟩ (c_X1_end (L := sL z) (by omega)) (cwV 1 hts gX3_about_X1_end rfl rfl rfl (by decide +kernel) ⟨Nat.le_of_ble_eq_true rfl, Nat.le_of_ble_eq_true rfl⟩) hE hA h_h (va_recv hE.K (q_P1 h_h) (ci := 2) (q0 := 0) rfl rfl) rfl hl.1 rfl (Nat.le_of_ble_eq_true rfl) dX3_about_85 ⟨Nat.zero_le _, Nat.zero_le _⟩ ?_
    exact q_iret hx hb hr hlocks dX3_about_88 rfl
  · refine lv_tableIn (tgt := 89) hx hb dX3_about_7 (by decide) (by decide) rfl (by decide) ?_
    refine lv_aload_n hx hb dX3_about_89 rfl (lv_at hl 1 rfl) ?_
    refine va_get (v := .ref (ad 2)) (C := RX3) (T := TX3) (N := 3) hx hb hts (q_sub wsX30 109 rfl) hown hE.K (q_P1 h_x) 0 rfl rfl 1 (by decide) (hts _ (List.mem_of_getElem? (i := 7) rfl)) (fun _ h9 => h9) rfl dX3_about_90 ?_
    refine lv_aload_n hx hb dX3_about_93 rfl (lv_at hl 0 rfl) ?_
    refine q_roV (As := [.ref (ad (2 * k + 7))]) (rest := []) ⟨hx, hb, hml, hown, hts⟩ (c_X2_faintest hL.2 hb_.1 hb_.2.2.1 hb_.2.2.2) (cwV 1 hts gX3_about_X2_faintest rfl rfl rfl (by decide +kernel) ⟨Nat.le_of_ble_eq_true rfl, Nat.le_of_ble_eq_true rfl⟩) hE hA ⟨h_k, h_st, h_sg, h_c, h_h⟩ (va_recv hE.K (q_P1 h_k) (ci := 3) (q0 := 0) rfl rfl) rfl hl.1 rfl (Nat.le_of_ble_eq_true rfl) dX3_about_94 ⟨Nat.zero_le _, Nat.zero_le _⟩ ?_
    exact q_iret hx hb hr hlocks dX3_about_97 rfl
set_option maxHeartbeats 4000000 in
set_option maxRecDepth 100000 in
theorem ct_X3_about_1 {l : Launch} (hl0 : l.stackTraces = false) {g : gT} {ad : Nat → Nat} {mc : Int32} {M : Nat} {sig : Nat → Int32} {z : sT} (hM : wM M (sn z)) (hV : VS z) {x y : Int32} (hx_ : ¬ inR x (sn z)) : TH l yX3_about wsX3_about ({ frames := 7, cells := 1, slots := 6, locals := 111 } : Room) [.ref (ad 0), .int x, .int y] g (fun H => va_P g.1 vwCl (wC g ad mc M sig z) H) xI := by
  refine TH.of (cc := cX3_about) (maxL := 4) (ret := (some .int)) (by decide) rfl (Nat.le_of_ble_eq_true rfl) ?_
  intro p e s m below meth c hx hb hml hr hlocks hown hts hno hE hF ls hl
  have hown : s.vm.findClass RX3 = some m.cls := hown
  have hA : ∀ q, s.heap.size ≤ q → q_n s.heap q := fun _ h => h
  have hP := hF
  have hl : lv_has ls 4 [(0, .ref (ad 0)), (1, .int x), (2, .int y)] := hl
  have hL := hV.L
  have hn := hV.n
  have h_x : va_at g.1 vwCl (ad 0, .inr (4, [.ref (ad 1), .ref (ad 2), .ref (ad 5)])) s.heap := hP 0 _ rfl
  have h_c : va_at g.1 vwCl (ad 1, .inr (1, [.int (nI (sL z))])) s.heap := hP 1 _ rfl
  have h_k : va_at g.1 vwCl (ad 2, .inr (3, [.ref (ad 3), .ref (ad 4), .ref (ad 1)])) s.heap := hP 2 _ rfl
  have h_st : va_at g.1 vwCl (ad 3, .inl (gI g, 20, .inl (sst z))) s.heap := hP 3 _ rfl
  have h_sg : va_at g.1 vwCl (ad 4, .inl (gI g, 207, .inl sig)) s.heap := hP 4 _ rfl
  have h_l : va_at g.1 vwCl (ad 5, .inr (0, [.int mc, .ref (if M = 0 then gE g else ad 6), .int (nI (sn z))])) s.heap := hP 5 _ rfl
  refine lv_aload_n hx hb dX3_about_0 rfl (lv_at hl 0 rfl) ?_
  refine lv_iload_n hx hb dX3_about_1 rfl (lv_at hl 1 rfl) ?_
  exact q_thVo (As := [.int x]) (rest := []) hno hlocks ⟨hx, hb, hml, hown, hts⟩ (ct_X3_hillAt hl0 hM hV hx_) (cwV 1 hts gX3_about_X3_hillAt rfl rfl rfl (by decide +kernel) ⟨Nat.le_of_ble_eq_true rfl, Nat.le_of_ble_eq_true rfl⟩) hE hA hP (va_recv hE.K (q_P1 h_x) (ci := 4) (q0 := 0) rfl rfl) rfl hl.1 rfl (Nat.le_of_ble_eq_true rfl) dX3_about_2 ⟨Nat.le_of_ble_eq_true rfl, Nat.le_of_ble_eq_true rfl⟩
set_option maxHeartbeats 4000000 in
set_option maxRecDepth 100000 in
theorem ct_X3_about_2 {l : Launch} (hl0 : l.stackTraces = false) {g : gT} {ad : Nat → Nat} {mc : Int32} {M : Nat} {sig : Nat → Int32} {z : sT} (hM : wM M (sn z)) (hV : VS z) {k : Nat} {x : Int32} (hk_ : k < sn z) (hx_ : ¬ inR x (7)) : TH l yX3_about wsX3_about ({ frames := 6, cells := 1, slots := 6, locals := 90 } : Room) [.ref (ad 0), .int (nI k), .int x] g (fun H => va_P g.1 vwCl (wC g ad mc M sig z) H) xI := by
  refine TH.of (cc := cX3_about) (maxL := 4) (ret := (some .int)) (by decide) rfl (Nat.le_of_ble_eq_true rfl) ?_
  intro p e s m below meth c hx hb hml hr hlocks hown hts hno hE hF ls hl
  have hown : s.vm.findClass RX3 = some m.cls := hown
  have hA : ∀ q, s.heap.size ≤ q → q_n s.heap q := fun _ h => h
  have hP := hF
  have hl : lv_has ls 4 [(0, .ref (ad 0)), (1, .int (nI k)), (2, .int x)] := hl
  have hL := hV.L
  have hn := hV.n
  have h_x : va_at g.1 vwCl (ad 0, .inr (4, [.ref (ad 1), .ref (ad 2), .ref (ad 5)])) s.heap := hP 0 _ rfl
  have h_c : va_at g.1 vwCl (ad 1, .inr (1, [.int (nI (sL z))])) s.heap := hP 1 _ rfl
  have h_k : va_at g.1 vwCl (ad 2, .inr (3, [.ref (ad 3), .ref (ad 4), .ref (ad 1)])) s.heap := hP 2 _ rfl
  have h_st : va_at g.1 vwCl (ad 3, .inl (gI g, 20, .inl (sst z))) s.heap := hP 3 _ rfl
  have h_sg : va_at g.1 vwCl (ad 4, .inl (gI g, 207, .inl sig)) s.heap := hP 4 _ rfl
  have h_l : va_at g.1 vwCl (ad 5, .inr (0, [.int mc, .ref (if M = 0 then gE g else ad 6), .int (nI (sn z))])) s.heap := hP 5 _ rfl
  have hx_ : ¬ (0 ≤ x.toInt ∧ x.toInt < ((7 : Nat) : Int)) := hx_
  refine lv_aload_n hx hb dX3_about_0 rfl (lv_at hl 0 rfl) ?_
  refine lv_iload_n hx hb dX3_about_1 rfl (lv_at hl 1 rfl) ?_
  refine q_roV (As := [.int (nI k)]) (rest := []) ⟨hx, hb, hml, hown, hts⟩ (c_X3_hillAt hM hV hk_) (cwV 1 hts gX3_about_X3_hillAt rfl rfl rfl (by decide +kernel) ⟨Nat.le_of_ble_eq_true rfl, Nat.le_of_ble_eq_true rfl⟩) hE hA hP (va_recv hE.K (q_P1 h_x) (ci := 4) (q0 := 0) rfl rfl) rfl hl.1 rfl (Nat.le_of_ble_eq_true rfl) dX3_about_2 ⟨Nat.zero_le _, Nat.zero_le _⟩ ?_
  refine lv_astore_n (lv' := [(3, .ref (ad (2 * k + 7))), (0, .ref (ad 0)), (1, .int (nI k)), (2, .int x)]) hx hb dX3_about_5 rfl hl (by decide) rfl (fun ls hl => ?_)
  refine lv_iload_n hx hb dX3_about_6 rfl (lv_at hl 3 rfl) ?_
  refine lv_tableOut (tgt := 98) hx hb dX3_about_7 (by omega) (by decide) ?_
  exact q_throw (E := xI) (text := "what is not 0 to 6") (ik := 106) (is := 165) (ic := 110) hx hb hl0 hno hlocks hown hE hts (by decide +kernel) (by decide +kernel) (List.mem_of_getElem? (i := 1) rfl) (List.mem_of_getElem? (i := 2) rfl) (List.mem_of_getElem? (i := 7) rfl) (fun w h => List.mem_cons_of_mem _ (List.mem_append_right _ h)) (fun w h => List.mem_append_right _ (List.mem_append_left _ h)) (by decide +kernel) (hl.1.trans hml.symm) dX3_about_98 dX3_about_101 dX3_about_102 dX3_about_104 dX3_about_107 (Nat.le_of_ble_eq_true rfl) (Nat.le_of_ble_eq_true rfl) (Nat.le_of_ble_eq_true rfl) (Nat.le_of_ble_eq_true rfl)
set_option maxHeartbeats 4000000 in
set_option maxRecDepth 100000 in
theorem c_X3_count {l : Launch} {g : gT} {ad : Nat → Nat} {mc : Int32} {M : Nat} {sig : Nat → Int32} {z : sT} (hM : wM M (sn z)) (hV : VS z) {q : Nat} (hq : q < 7) : RO l yX3_count wsX3_count ({ frames := 6, cells := 0, slots := 0, locals := 133 } : Room) [.ref (ad 0), .int (nI q)] g (fun H => va_P g.1 vwCl (wC g ad mc M sig z) H) (some (.int (cntV z (atF (sst z) sig) q))) := by
  refine RO.of (cc := cX3_count) (maxL := 2) (ret := (some .int)) (by decide) rfl (Nat.le_of_ble_eq_true rfl) ?_
  intro p e s m below meth c hx hb hml hr hlocks hown hts hE hF ls hl
  have hown : s.vm.findClass RX3 = some m.cls := hown
  have hA : ∀ q, s.heap.size ≤ q → q_n s.heap q := fun _ h => h
  have hP := hF
  have hl : lv_has ls 2 [(0, .ref (ad 0)), (1, .int (nI q))] := hl
  have hL := hV.L
  have hn := hV.n
  have h_x : va_at g.1 vwCl (ad 0, .inr (4, [.ref (ad 1), .ref (ad 2), .ref (ad 5)])) s.heap := hP 0 _ rfl
  have h_c : va_at g.1 vwCl (ad 1, .inr (1, [.int (nI (sL z))])) s.heap := hP 1 _ rfl
  have h_k : va_at g.1 vwCl (ad 2, .inr (3, [.ref (ad 3), .ref (ad 4), .ref (ad 1)])) s.heap := hP 2 _ rfl
  have h_st : va_at g.1 vwCl (ad 3, .inl (gI g, 20, .inl (sst z))) s.heap := hP 3 _ rfl
  have h_sg : va_at g.1 vwCl (ad 4, .inl (gI g, 207, .inl sig)) s.heap := hP 4 _ rfl
  have h_l : va_at g.1 vwCl (ad 5, .inr (0, [.int mc, .ref (if M = 0 then gE g else ad 6), .int (nI (sn z))])) s.heap := hP 5 _ rfl
  refine lv_iload_n hx hb dX3_count_0 rfl (lv_at hl 1 rfl) ?_
  rcases (show q = 0 ∨ q = 1 ∨ q = 2 ∨ q = 3 ∨ q = 4 ∨ q = 5 ∨ q = 6 by omega) with rfl | rfl | rfl | rfl | rfl | rfl | rfl
  · refine lv_tableIn (tgt := 44) hx hb dX3_count_1 (by decide) (by decide) rfl (by decide) ?_
    refine lv_aload_n hx hb dX3_count_44 rfl (lv_at hl 0 rfl) ?_
    refine va_get (v := .ref (ad 1)) (C := RX3) (T := TX3) (N := 3) hx hb hts (q_sub wsX30 122 rfl) hown hE.K (q_P1 h_x) 0 rfl rfl 0 (by decide) (hts _ (List.mem_of_getElem? (i := 3) rfl)) (fun _ h9 => h9) rfl dX3_count_45 ?_
    refine va_get (v := .int (nI (sL z))) (C := RX0) (T := TX0) (N := 1) hx hb hts (q_sub wsX00 125 rfl) hown hE.K (q_P1 h_c) 0 rfl rfl 0 (by decide) (hts _ (List.mem_of_getElem? (i := 4) rfl)) (fun _ h9 => h9) rfl dX3_count_48 ?_
    exact q_iret hx hb hr hlocks dX3_count_51 rfl
  · refine lv_tableIn (tgt := 52) hx hb dX3_count_1 (by decide) (by decide) rfl (by decide) ?_
    refine lv_aload_n hx hb dX3_count_52 rfl (lv_at hl 0 rfl) ?_
    refine va_get (v := .ref (ad 5)) (C := RX3) (T := TX3) (N := 3) hx hb hts (q_sub wsX30 122 rfl) hown hE.K (q_P1 h_x) 0 rfl rfl 2 (by decide) (hts _ (List.mem_of_getElem? (i := 5) rfl)) (fun _ h9 => h9) rfl dX3_count_53 ?_
    refine q_roV (As := []) (rest := []) ⟨hx, hb, hml, hown, hts⟩ (c_size ) (cwV 0 hts gX3_count_Jx4a65c_size_8abf5 rfl rfl rfl (by decide +kernel) ⟨Nat.le_of_ble_eq_true rfl, Nat.le_of_ble_eq_true rfl⟩) hE hA h_l (va_recv hE.K (q_P1 h_l) (ci := 0) (q0 := 0) rfl rfl) rfl hl.1 rfl (Nat.le_of_ble_eq_true rfl) dX3_count_56 ⟨Nat.zero_le _, Nat.zero_le _⟩ ?_
    exact q_iret hx hb hr hlocks dX3_count_59 rfl
  · refine lv_tableIn (tgt := 60) hx hb dX3_count_1 (by decide) (by decide) rfl (by decide) ?_
    refine lv_aload_n hx hb dX3_count_60 rfl (lv_at hl 0 rfl) ?_
    refine q_roV (As := []) (rest := []) ⟨hx, hb, hml, hown, hts⟩ (c_X3_allWords hM hV) (cwV 0 hts gX3_count_X3_allWords rfl rfl rfl (by decide +kernel) ⟨Nat.le_of_ble_eq_true rfl, Nat.le_of_ble_eq_true rfl⟩) hE hA hP (va_recv hE.K (q_P1 h_x) (ci := 4) (q0 := 0) rfl rfl) rfl hl.1 rfl (Nat.le_of_ble_eq_true rfl) dX3_count_61 ⟨Nat.zero_le _, Nat.zero_le _⟩ ?_
    exact q_iret hx hb hr hlocks dX3_count_64 rfl
  · refine lv_tableIn (tgt := 65) hx hb dX3_count_1 (by decide) (by decide) rfl (by decide) ?_
    refine lv_aload_n hx hb dX3_count_65 rfl (lv_at hl 0 rfl) ?_
    refine q_roV (As := []) (rest := []) ⟨hx, hb, hml, hown, hts⟩ (c_X3_allWrongWords hM hV) (cwV 0 hts gX3_count_X3_allWrongWords rfl rfl rfl (by decide +kernel) ⟨Nat.le_of_ble_eq_true rfl, Nat.le_of_ble_eq_true rfl⟩) hE hA hP (va_recv hE.K (q_P1 h_x) (ci := 4) (q0 := 0) rfl rfl) rfl hl.1 rfl (Nat.le_of_ble_eq_true rfl) dX3_count_66 ⟨Nat.zero_le _, Nat.zero_le _⟩ ?_
    exact q_iret hx hb hr hlocks dX3_count_69 rfl
  · refine lv_tableIn (tgt := 70) hx hb dX3_count_1 (by decide) (by decide) rfl (by decide) ?_
    refine lv_aload_n hx hb dX3_count_70 rfl (lv_at hl 0 rfl) ?_
    refine q_roV (As := []) (rest := []) ⟨hx, hb, hml, hown, hts⟩ (c_X3_endOfAll hM hV) (cwV 0 hts gX3_count_X3_endOfAll rfl rfl rfl (by decide +kernel) ⟨Nat.le_of_ble_eq_true rfl, Nat.le_of_ble_eq_true rfl⟩) hE hA hP (va_recv hE.K (q_P1 h_x) (ci := 4) (q0 := 0) rfl rfl) rfl hl.1 rfl (Nat.le_of_ble_eq_true rfl) dX3_count_71 ⟨Nat.zero_le _, Nat.zero_le _⟩ ?_
    exact q_iret hx hb hr hlocks dX3_count_74 rfl
  · refine lv_tableIn (tgt := 75) hx hb dX3_count_1 (by decide) (by decide) rfl (by decide) ?_
    refine lv_aload_n hx hb dX3_count_75 rfl (lv_at hl 0 rfl) ?_
    refine va_get (v := .ref (ad 2)) (C := RX3) (T := TX3) (N := 3) hx hb hts (q_sub wsX30 122 rfl) hown hE.K (q_P1 h_x) 0 rfl rfl 1 (by decide) (hts _ (List.mem_of_getElem? (i := 6) rfl)) (fun _ h9 => h9) rfl dX3_count_76 ?_
    refine lv_aload_n hx hb dX3_count_79 rfl (lv_at hl 0 rfl) ?_
    refine q_roV (As := []) (rest := [.ref (ad 2)]) ⟨hx, hb, hml, hown, hts⟩ (c_X3_endOfAll hM hV) (cwV 0 hts gX3_count_X3_endOfAll rfl rfl rfl (by decide +kernel) ⟨Nat.le_of_ble_eq_true rfl, Nat.le_of_ble_eq_true rfl⟩) hE hA hP (va_recv hE.K (q_P1 h_x) (ci := 4) (q0 := 0) rfl rfl) rfl hl.1 rfl (Nat.le_of_ble_eq_true rfl) dX3_count_80 ⟨Nat.zero_le _, Nat.zero_le _⟩ ?_
    refine q_roV (As := [.int (nI (endA z (sn z)))]) (rest := []) ⟨hx, hb, hml, hown, hts⟩ (c_X2_highest (n := endA z (sn z)) (by have := endA_le hV (Nat.le_refl (sn z)); omega)) (cwV 1 hts gX3_count_X2_highest rfl rfl rfl (by decide +kernel) ⟨Nat.le_of_ble_eq_true rfl, Nat.le_of_ble_eq_true rfl⟩) hE hA ⟨h_k, h_st, h_sg⟩ (va_recv hE.K (q_P1 h_k) (ci := 3) (q0 := 0) rfl rfl) rfl hl.1 rfl (Nat.le_of_ble_eq_true rfl) dX3_count_83 ⟨Nat.zero_le _, Nat.zero_le _⟩ ?_
    exact q_iret hx hb hr hlocks dX3_count_86 rfl
  · refine lv_tableIn (tgt := 87) hx hb dX3_count_1 (by decide) (by decide) rfl (by decide) ?_
    refine lv_aload_n hx hb dX3_count_87 rfl (lv_at hl 0 rfl) ?_
    refine q_roV (As := []) (rest := []) ⟨hx, hb, hml, hown, hts⟩ (c_X3_freeCodes hM hV) (cwV 0 hts gX3_count_X3_freeCodes rfl rfl rfl (by decide +kernel) ⟨Nat.le_of_ble_eq_true rfl, Nat.le_of_ble_eq_true rfl⟩) hE hA hP (va_recv hE.K (q_P1 h_x) (ci := 4) (q0 := 0) rfl rfl) rfl hl.1 rfl (Nat.le_of_ble_eq_true rfl) dX3_count_88 ⟨Nat.zero_le _, Nat.zero_le _⟩ ?_
    exact q_iret hx hb hr hlocks dX3_count_91 rfl
set_option maxHeartbeats 4000000 in
set_option maxRecDepth 100000 in
theorem ct_X3_count_1 {l : Launch} (hl0 : l.stackTraces = false) {g : gT} {ad : Nat → Nat} {mc : Int32} {M : Nat} {sig : Nat → Int32} {z : sT} (hM : wM M (sn z)) (hV : VS z) {x : Int32} (hx_ : ¬ inR x (7)) : TH l yX3_count wsX3_count ({ frames := 6, cells := 1, slots := 6, locals := 90 } : Room) [.ref (ad 0), .int x] g (fun H => va_P g.1 vwCl (wC g ad mc M sig z) H) xI := by
  refine TH.of (cc := cX3_count) (maxL := 2) (ret := (some .int)) (by decide) rfl (Nat.le_of_ble_eq_true rfl) ?_
  intro p e s m below meth c hx hb hml hr hlocks hown hts hno hE hF ls hl
  have hown : s.vm.findClass RX3 = some m.cls := hown
  have hA : ∀ q, s.heap.size ≤ q → q_n s.heap q := fun _ h => h
  have hP := hF
  have hl : lv_has ls 2 [(0, .ref (ad 0)), (1, .int x)] := hl
  have hL := hV.L
  have hn := hV.n
  have h_x : va_at g.1 vwCl (ad 0, .inr (4, [.ref (ad 1), .ref (ad 2), .ref (ad 5)])) s.heap := hP 0 _ rfl
  have h_c : va_at g.1 vwCl (ad 1, .inr (1, [.int (nI (sL z))])) s.heap := hP 1 _ rfl
  have h_k : va_at g.1 vwCl (ad 2, .inr (3, [.ref (ad 3), .ref (ad 4), .ref (ad 1)])) s.heap := hP 2 _ rfl
  have h_st : va_at g.1 vwCl (ad 3, .inl (gI g, 20, .inl (sst z))) s.heap := hP 3 _ rfl
  have h_sg : va_at g.1 vwCl (ad 4, .inl (gI g, 207, .inl sig)) s.heap := hP 4 _ rfl
  have h_l : va_at g.1 vwCl (ad 5, .inr (0, [.int mc, .ref (if M = 0 then gE g else ad 6), .int (nI (sn z))])) s.heap := hP 5 _ rfl
  have hx_ : ¬ (0 ≤ x.toInt ∧ x.toInt < ((7 : Nat) : Int)) := hx_
  refine lv_iload_n hx hb dX3_count_0 rfl (lv_at hl 1 rfl) ?_
  refine lv_tableOut (tgt := 92) hx hb dX3_count_1 (by omega) (by decide) ?_
  exact q_throw (E := xI) (text := "what is not 0 to 6") (ik := 106) (is := 165) (ic := 110) hx hb hl0 hno hlocks hown hE hts (by decide +kernel) (by decide +kernel) (List.mem_of_getElem? (i := 1) rfl) (List.mem_of_getElem? (i := 2) rfl) (List.mem_of_getElem? (i := 7) rfl) (fun w h => List.mem_cons_of_mem _ (List.mem_append_right _ h)) (fun w h => List.mem_append_right _ (List.mem_append_left _ h)) (by decide +kernel) (hl.1.trans hml.symm) dX3_count_92 dX3_count_95 dX3_count_96 dX3_count_98 dX3_count_101 (Nat.le_of_ble_eq_true rfl) (Nat.le_of_ble_eq_true rfl) (Nat.le_of_ble_eq_true rfl) (Nat.le_of_ble_eq_true rfl)
set_option maxHeartbeats 4000000 in
set_option maxRecDepth 100000 in
theorem c_X3_alike {l : Launch} {g : gT} {ad : Nat → Nat} {mc : Int32} {M : Nat} {sig : Nat → Int32} {z : sT} (hM : wM M (sn z)) (hV : VS z) {a b s_ : Nat} (ha : a < sL z) (hb_ : b < sL z) (hs_ : s_ < sL z) : RO l yX3_alike wsX3_alike ({ frames := 3, cells := 0, slots := 0, locals := 68 } : Room) [.ref (ad 0), .int (nI a), .int (nI b), .int (nI s_)] g (fun H => va_P g.1 vwCl (wC g ad mc M sig z) H) (some (.int (likF (sL z) a b s_))) := by
  refine RO.of (cc := cX3_alike) (maxL := 4) (ret := (some .int)) (by decide) rfl (Nat.le_of_ble_eq_true rfl) ?_
  intro p e s m below meth c hx hb hml hr hlocks hown hts hE hF ls hl
  have hown : s.vm.findClass RX3 = some m.cls := hown
  have hA : ∀ q, s.heap.size ≤ q → q_n s.heap q := fun _ h => h
  have hP := hF
  have hl : lv_has ls 4 [(0, .ref (ad 0)), (1, .int (nI a)), (2, .int (nI b)), (3, .int (nI s_))] := hl
  have hL := hV.L
  have hn := hV.n
  have h_x : va_at g.1 vwCl (ad 0, .inr (4, [.ref (ad 1), .ref (ad 2), .ref (ad 5)])) s.heap := hP 0 _ rfl
  have h_c : va_at g.1 vwCl (ad 1, .inr (1, [.int (nI (sL z))])) s.heap := hP 1 _ rfl
  have h_k : va_at g.1 vwCl (ad 2, .inr (3, [.ref (ad 3), .ref (ad 4), .ref (ad 1)])) s.heap := hP 2 _ rfl
  have h_st : va_at g.1 vwCl (ad 3, .inl (gI g, 20, .inl (sst z))) s.heap := hP 3 _ rfl
  have h_sg : va_at g.1 vwCl (ad 4, .inl (gI g, 207, .inl sig)) s.heap := hP 4 _ rfl
  have h_l : va_at g.1 vwCl (ad 5, .inr (0, [.int mc, .ref (if M = 0 then gE g else ad 6), .int (nI (sn z))])) s.heap := hP 5 _ rfl
  refine lv_aload_n hx hb dX3_alike_0 rfl (lv_at hl 0 rfl) ?_
  refine lv_iload_n hx hb dX3_alike_1 rfl (lv_at hl 1 rfl) ?_
  refine q_roV (As := [.int (nI a)]) (rest := []) ⟨hx, hb, hml, hown, hts⟩ (c_X3_checkCode hM hV (x := nI a) (inR_nI ha (by omega))) (cwV 1 hts gX3_alike_X3_checkCode rfl rfl rfl (by decide +kernel) ⟨Nat.le_of_ble_eq_true rfl, Nat.le_of_ble_eq_true rfl⟩) hE hA hP (va_recv hE.K (q_P1 h_x) (ci := 4) (q0 := 0) rfl rfl) rfl hl.1 rfl (Nat.le_of_ble_eq_true rfl) dX3_alike_2 ⟨Nat.zero_le _, Nat.zero_le _⟩ ?_
  refine lv_aload_n hx hb dX3_alike_5 rfl (lv_at hl 0 rfl) ?_
  refine lv_iload_n hx hb dX3_alike_6 rfl (lv_at hl 2 rfl) ?_
  refine q_roV (As := [.int (nI b)]) (rest := []) ⟨hx, hb, hml, hown, hts⟩ (c_X3_checkCode hM hV (x := nI b) (inR_nI hb_ (by omega))) (cwV 1 hts gX3_alike_X3_checkCode rfl rfl rfl (by decide +kernel) ⟨Nat.le_of_ble_eq_true rfl, Nat.le_of_ble_eq_true rfl⟩) hE hA hP (va_recv hE.K (q_P1 h_x) (ci := 4) (q0 := 0) rfl rfl) rfl hl.1 rfl (Nat.le_of_ble_eq_true rfl) dX3_alike_7 ⟨Nat.zero_le _, Nat.zero_le _⟩ ?_
  refine lv_aload_n hx hb dX3_alike_10 rfl (lv_at hl 0 rfl) ?_
  refine va_get (v := .ref (ad 1)) (C := RX3) (T := TX3) (N := 3) hx hb hts (q_sub wsX30 36 rfl) hown hE.K (q_P1 h_x) 0 rfl rfl 0 (by decide) (hts _ (List.mem_of_getElem? (i := 3) rfl)) (fun _ h9 => h9) rfl dX3_alike_11 ?_
  refine lv_iload_n hx hb dX3_alike_14 rfl (lv_at hl 3 rfl) ?_
  refine q_roV (As := [.int (nI s_)]) (rest := []) ⟨hx, hb, hml, hown, hts⟩ (c_X0_has (L := sL z) (by omega)) (cwV 1 hts gX3_alike_X0_has rfl rfl rfl (by decide +kernel) ⟨Nat.le_of_ble_eq_true rfl, Nat.le_of_ble_eq_true rfl⟩) hE hA h_c (va_recv hE.K (q_P1 h_c) (ci := 1) (q0 := 0) rfl rfl) rfl hl.1 rfl (Nat.le_of_ble_eq_true rfl) dX3_alike_15 ⟨Nat.zero_le _, Nat.zero_le _⟩ ?_
  refine q_ifb_ne (tgt := 31) hx hb dX3_alike_18 (by decide) (fun c_1 => ?_) (fun c_1 => ?_)
  · refine lv_aload_n hx hb dX3_alike_31 rfl (lv_at hl 0 rfl) ?_
    refine va_get (v := .ref (ad 1)) (C := RX3) (T := TX3) (N := 3) hx hb hts (q_sub wsX30 36 rfl) hown hE.K (q_P1 h_x) 0 rfl rfl 0 (by decide) (hts _ (List.mem_of_getElem? (i := 3) rfl)) (fun _ h9 => h9) rfl dX3_alike_32 ?_
    refine lv_iload_n hx hb dX3_alike_35 rfl (lv_at hl 1 rfl) ?_
    refine lv_iload_n hx hb dX3_alike_36 rfl (lv_at hl 2 rfl) ?_
    refine lv_iload_n hx hb dX3_alike_37 rfl (lv_at hl 3 rfl) ?_
    refine q_roV (As := [.int (nI a), .int (nI b), .int (nI s_)]) (rest := []) ⟨hx, hb, hml, hown, hts⟩ (c_X0_likeness (L := sL z) (s_ := s_) hL.2 ha hb_ (by omega)) (cwV 3 hts gX3_alike_X0_likeness rfl rfl rfl (by decide +kernel) ⟨Nat.le_of_ble_eq_true rfl, Nat.le_of_ble_eq_true rfl⟩) hE hA h_c (va_recv hE.K (q_P1 h_c) (ci := 1) (q0 := 0) rfl rfl) rfl hl.1 rfl (Nat.le_of_ble_eq_true rfl) dX3_alike_38 ⟨Nat.zero_le _, Nat.zero_le _⟩ ?_
    exact q_iret hx hb hr hlocks dX3_alike_41 rfl
  · exact absurd (inR_nI hs_ (by omega)) c_1
set_option maxHeartbeats 4000000 in
set_option maxRecDepth 100000 in
theorem ct_X3_alike_1 {l : Launch} (hl0 : l.stackTraces = false) {g : gT} {ad : Nat → Nat} {mc : Int32} {M : Nat} {sig : Nat → Int32} {z : sT} (hM : wM M (sn z)) (hV : VS z) {x y u : Int32} (hx_ : ¬ inR x (sL z)) : TH l yX3_alike wsX3_alike ({ frames := 7, cells := 1, slots := 6, locals := 111 } : Room) [.ref (ad 0), .int x, .int y, .int u] g (fun H => va_P g.1 vwCl (wC g ad mc M sig z) H) xI := by
  refine TH.of (cc := cX3_alike) (maxL := 4) (ret := (some .int)) (by decide) rfl (Nat.le_of_ble_eq_true rfl) ?_
  intro p e s m below meth c hx hb hml hr hlocks hown hts hno hE hF ls hl
  have hown : s.vm.findClass RX3 = some m.cls := hown
  have hA : ∀ q, s.heap.size ≤ q → q_n s.heap q := fun _ h => h
  have hP := hF
  have hl : lv_has ls 4 [(0, .ref (ad 0)), (1, .int x), (2, .int y), (3, .int u)] := hl
  have hL := hV.L
  have hn := hV.n
  have h_x : va_at g.1 vwCl (ad 0, .inr (4, [.ref (ad 1), .ref (ad 2), .ref (ad 5)])) s.heap := hP 0 _ rfl
  have h_c : va_at g.1 vwCl (ad 1, .inr (1, [.int (nI (sL z))])) s.heap := hP 1 _ rfl
  have h_k : va_at g.1 vwCl (ad 2, .inr (3, [.ref (ad 3), .ref (ad 4), .ref (ad 1)])) s.heap := hP 2 _ rfl
  have h_st : va_at g.1 vwCl (ad 3, .inl (gI g, 20, .inl (sst z))) s.heap := hP 3 _ rfl
  have h_sg : va_at g.1 vwCl (ad 4, .inl (gI g, 207, .inl sig)) s.heap := hP 4 _ rfl
  have h_l : va_at g.1 vwCl (ad 5, .inr (0, [.int mc, .ref (if M = 0 then gE g else ad 6), .int (nI (sn z))])) s.heap := hP 5 _ rfl
  refine lv_aload_n hx hb dX3_alike_0 rfl (lv_at hl 0 rfl) ?_
  refine lv_iload_n hx hb dX3_alike_1 rfl (lv_at hl 1 rfl) ?_
  exact q_thVo (As := [.int x]) (rest := []) hno hlocks ⟨hx, hb, hml, hown, hts⟩ (ct_X3_checkCode hl0 hM hV hx_) (cwV 1 hts gX3_alike_X3_checkCode rfl rfl rfl (by decide +kernel) ⟨Nat.le_of_ble_eq_true rfl, Nat.le_of_ble_eq_true rfl⟩) hE hA hP (va_recv hE.K (q_P1 h_x) (ci := 4) (q0 := 0) rfl rfl) rfl hl.1 rfl (Nat.le_of_ble_eq_true rfl) dX3_alike_2 ⟨Nat.le_of_ble_eq_true rfl, Nat.le_of_ble_eq_true rfl⟩
set_option maxHeartbeats 4000000 in
set_option maxRecDepth 100000 in
theorem ct_X3_alike_2 {l : Launch} (hl0 : l.stackTraces = false) {g : gT} {ad : Nat → Nat} {mc : Int32} {M : Nat} {sig : Nat → Int32} {z : sT} (hM : wM M (sn z)) (hV : VS z) {a : Nat} {x u : Int32} (ha : a < sL z) (hx_ : ¬ inR x (sL z)) : TH l yX3_alike wsX3_alike ({ frames := 7, cells := 1, slots := 6, locals := 111 } : Room) [.ref (ad 0), .int (nI a), .int x, .int u] g (fun H => va_P g.1 vwCl (wC g ad mc M sig z) H) xI := by
  refine TH.of (cc := cX3_alike) (maxL := 4) (ret := (some .int)) (by decide) rfl (Nat.le_of_ble_eq_true rfl) ?_
  intro p e s m below meth c hx hb hml hr hlocks hown hts hno hE hF ls hl
  have hown : s.vm.findClass RX3 = some m.cls := hown
  have hA : ∀ q, s.heap.size ≤ q → q_n s.heap q := fun _ h => h
  have hP := hF
  have hl : lv_has ls 4 [(0, .ref (ad 0)), (1, .int (nI a)), (2, .int x), (3, .int u)] := hl
  have hL := hV.L
  have hn := hV.n
  have h_x : va_at g.1 vwCl (ad 0, .inr (4, [.ref (ad 1), .ref (ad 2), .ref (ad 5)])) s.heap := hP 0 _ rfl
  have h_c : va_at g.1 vwCl (ad 1, .inr (1, [.int (nI (sL z))])) s.heap := hP 1 _ rfl
  have h_k : va_at g.1 vwCl (ad 2, .inr (3, [.ref (ad 3), .ref (ad 4), .ref (ad 1)])) s.heap := hP 2 _ rfl
  have h_st : va_at g.1 vwCl (ad 3, .inl (gI g, 20, .inl (sst z))) s.heap := hP 3 _ rfl
  have h_sg : va_at g.1 vwCl (ad 4, .inl (gI g, 207, .inl sig)) s.heap := hP 4 _ rfl
  have h_l : va_at g.1 vwCl (ad 5, .inr (0, [.int mc, .ref (if M = 0 then gE g else ad 6), .int (nI (sn z))])) s.heap := hP 5 _ rfl
  refine lv_aload_n hx hb dX3_alike_0 rfl (lv_at hl 0 rfl) ?_
  refine lv_iload_n hx hb dX3_alike_1 rfl (lv_at hl 1 rfl) ?_
  refine q_roV (As := [.int (nI a)]) (rest := []) ⟨hx, hb, hml, hown, hts⟩ (c_X3_checkCode hM hV (x := nI a) (inR_nI ha (by omega))) (cwV 1 hts gX3_alike_X3_checkCode rfl rfl rfl (by decide +kernel) ⟨Nat.le_of_ble_eq_true rfl, Nat.le_of_ble_eq_true rfl⟩) hE hA hP (va_recv hE.K (q_P1 h_x) (ci := 4) (q0 := 0) rfl rfl) rfl hl.1 rfl (Nat.le_of_ble_eq_true rfl) dX3_alike_2 ⟨Nat.zero_le _, Nat.zero_le _⟩ ?_
  refine lv_aload_n hx hb dX3_alike_5 rfl (lv_at hl 0 rfl) ?_
  refine lv_iload_n hx hb dX3_alike_6 rfl (lv_at hl 2 rfl) ?_
  exact q_thVo (As := [.int x]) (rest := []) hno hlocks ⟨hx, hb, hml, hown, hts⟩ (ct_X3_checkCode hl0 hM hV hx_) (cwV 1 hts gX3_alike_X3_checkCode rfl rfl rfl (by decide +kernel) ⟨Nat.le_of_ble_eq_true rfl, Nat.le_of_ble_eq_true rfl⟩) hE hA hP (va_recv hE.K (q_P1 h_x) (ci := 4) (q0 := 0) rfl rfl) rfl hl.1 rfl (Nat.le_of_ble_eq_true rfl) dX3_alike_7 ⟨Nat.le_of_ble_eq_true rfl, Nat.le_of_ble_eq_true rfl⟩
set_option maxHeartbeats 4000000 in
set_option maxRecDepth 100000 in
theorem ct_X3_alike_3 {l : Launch} (hl0 : l.stackTraces = false) {g : gT} {ad : Nat → Nat} {mc : Int32} {M : Nat} {sig : Nat → Int32} {z : sT} (hM : wM M (sn z)) (hV : VS z) {a b : Nat} {x : Int32} (ha : a < sL z) (hb_ : b < sL z) (hx_ : ¬ inR x (sL z)) : TH l yX3_alike wsX3_alike ({ frames := 6, cells := 1, slots := 6, locals := 90 } : Room) [.ref (ad 0), .int (nI a), .int (nI b), .int x] g (fun H => va_P g.1 vwCl (wC g ad mc M sig z) H) xA := by
  refine TH.of (cc := cX3_alike) (maxL := 4) (ret := (some .int)) (by decide) rfl (Nat.le_of_ble_eq_true rfl) ?_
  intro p e s m below meth c hx hb hml hr hlocks hown hts hno hE hF ls hl
  have hown : s.vm.findClass RX3 = some m.cls := hown
  have hA : ∀ q, s.heap.size ≤ q → q_n s.heap q := fun _ h => h
  have hP := hF
  have hl : lv_has ls 4 [(0, .ref (ad 0)), (1, .int (nI a)), (2, .int (nI b)), (3, .int x)] := hl
  have hL := hV.L
  have hn := hV.n
  have h_x : va_at g.1 vwCl (ad 0, .inr (4, [.ref (ad 1), .ref (ad 2), .ref (ad 5)])) s.heap := hP 0 _ rfl
  have h_c : va_at g.1 vwCl (ad 1, .inr (1, [.int (nI (sL z))])) s.heap := hP 1 _ rfl
  have h_k : va_at g.1 vwCl (ad 2, .inr (3, [.ref (ad 3), .ref (ad 4), .ref (ad 1)])) s.heap := hP 2 _ rfl
  have h_st : va_at g.1 vwCl (ad 3, .inl (gI g, 20, .inl (sst z))) s.heap := hP 3 _ rfl
  have h_sg : va_at g.1 vwCl (ad 4, .inl (gI g, 207, .inl sig)) s.heap := hP 4 _ rfl
  have h_l : va_at g.1 vwCl (ad 5, .inr (0, [.int mc, .ref (if M = 0 then gE g else ad 6), .int (nI (sn z))])) s.heap := hP 5 _ rfl
  refine lv_aload_n hx hb dX3_alike_0 rfl (lv_at hl 0 rfl) ?_
  refine lv_iload_n hx hb dX3_alike_1 rfl (lv_at hl 1 rfl) ?_
  refine q_roV (As := [.int (nI a)]) (rest := []) ⟨hx, hb, hml, hown, hts⟩ (c_X3_checkCode hM hV (x := nI a) (inR_nI ha (by omega))) (cwV 1 hts gX3_alike_X3_checkCode rfl rfl rfl (by decide +kernel) ⟨Nat.le_of_ble_eq_true rfl, Nat.le_of_ble_eq_true rfl⟩) hE hA hP (va_recv hE.K (q_P1 h_x) (ci := 4) (q0 := 0) rfl rfl) rfl hl.1 rfl (Nat.le_of_ble_eq_true rfl) dX3_alike_2 ⟨Nat.zero_le _, Nat.zero_le _⟩ ?_
  refine lv_aload_n hx hb dX3_alike_5 rfl (lv_at hl 0 rfl) ?_
  refine lv_iload_n hx hb dX3_alike_6 rfl (lv_at hl 2 rfl) ?_
  refine q_roV (As := [.int (nI b)]) (rest := []) ⟨hx, hb, hml, hown, hts⟩ (c_X3_checkCode hM hV (x := nI b) (inR_nI hb_ (by omega))) (cwV 1 hts gX3_alike_X3_checkCode rfl rfl rfl (by decide +kernel) ⟨Nat.le_of_ble_eq_true rfl, Nat.le_of_ble_eq_true rfl⟩) hE hA hP (va_recv hE.K (q_P1 h_x) (ci := 4) (q0 := 0) rfl rfl) rfl hl.1 rfl (Nat.le_of_ble_eq_true rfl) dX3_alike_7 ⟨Nat.zero_le _, Nat.zero_le _⟩ ?_
  refine lv_aload_n hx hb dX3_alike_10 rfl (lv_at hl 0 rfl) ?_
  refine va_get (v := .ref (ad 1)) (C := RX3) (T := TX3) (N := 3) hx hb hts (q_sub wsX30 36 rfl) hown hE.K (q_P1 h_x) 0 rfl rfl 0 (by decide) (hts _ (List.mem_of_getElem? (i := 3) rfl)) (fun _ h9 => h9) rfl dX3_alike_11 ?_
  refine lv_iload_n hx hb dX3_alike_14 rfl (lv_at hl 3 rfl) ?_
  refine q_roV (As := [.int x]) (rest := []) ⟨hx, hb, hml, hown, hts⟩ (c_X0_has (L := sL z) (by omega)) (cwV 1 hts gX3_alike_X0_has rfl rfl rfl (by decide +kernel) ⟨Nat.le_of_ble_eq_true rfl, Nat.le_of_ble_eq_true rfl⟩) hE hA h_c (va_recv hE.K (q_P1 h_c) (ci := 1) (q0 := 0) rfl rfl) rfl hl.1 rfl (Nat.le_of_ble_eq_true rfl) dX3_alike_15 ⟨Nat.zero_le _, Nat.zero_le _⟩ ?_
  refine q_ifb_ne (tgt := 31) hx hb dX3_alike_18 (by decide) (fun c_1 => ?_) (fun c_1 => ?_)
  · exact absurd c_1 hx_
  · exact q_throw (E := xA) (text := "shift is not 0 to L - 1") (ik := 32) (is := 182) (ic := 36) hx hb hl0 hno hlocks hown hE hts (by decide +kernel) (by decide +kernel) (List.mem_of_getElem? (i := 1) rfl) (List.mem_of_getElem? (i := 2) rfl) (List.mem_of_getElem? (i := 8) rfl) (fun w h => List.mem_cons_of_mem _ (List.mem_append_left _ (List.mem_append_right _ h))) (fun w h => List.mem_append_right _ (List.mem_append_right _ (List.mem_append_left _ h))) (by decide +kernel) (hl.1.trans hml.symm) dX3_alike_21 dX3_alike_24 dX3_alike_25 dX3_alike_27 dX3_alike_30 (Nat.le_of_ble_eq_true rfl) (Nat.le_of_ble_eq_true rfl) (Nat.le_of_ble_eq_true rfl) (Nat.le_of_ble_eq_true rfl)
set_option maxHeartbeats 4000000 in
set_option maxRecDepth 100000 in
theorem c_X3_shift {l : Launch} {g : gT} {ad : Nat → Nat} {mc : Int32} {M : Nat} {sig : Nat → Int32} {z : sT} (hM : wM M (sn z)) (hV : VS z) {a b : Nat} (ha : a < sL z) (hb_ : b < sL z) : RO l yX3_shift wsX3_shift ({ frames := 3, cells := 0, slots := 0, locals := 68 } : Room) [.ref (ad 0), .int (nI a), .int (nI b)] g (fun H => va_P g.1 vwCl (wC g ad mc M sig z) H) (some (.int (nI (shB (sL z) a b (sL z - 1))))) := by
  refine RO.of (cc := cX3_shift) (maxL := 7) (ret := (some .int)) (by decide) rfl (Nat.le_of_ble_eq_true rfl) ?_
  intro p e s m below meth c hx hb hml hr hlocks hown hts hE hF ls hl
  have hown : s.vm.findClass RX3 = some m.cls := hown
  have hA : ∀ q, s.heap.size ≤ q → q_n s.heap q := fun _ h => h
  have hP := hF
  have hl : lv_has ls 7 [(0, .ref (ad 0)), (1, .int (nI a)), (2, .int (nI b))] := hl
  have hL := hV.L
  have hn := hV.n
  have h_x : va_at g.1 vwCl (ad 0, .inr (4, [.ref (ad 1), .ref (ad 2), .ref (ad 5)])) s.heap := hP 0 _ rfl
  have h_c : va_at g.1 vwCl (ad 1, .inr (1, [.int (nI (sL z))])) s.heap := hP 1 _ rfl
  have h_k : va_at g.1 vwCl (ad 2, .inr (3, [.ref (ad 3), .ref (ad 4), .ref (ad 1)])) s.heap := hP 2 _ rfl
  have h_st : va_at g.1 vwCl (ad 3, .inl (gI g, 20, .inl (sst z))) s.heap := hP 3 _ rfl
  have h_sg : va_at g.1 vwCl (ad 4, .inl (gI g, 207, .inl sig)) s.heap := hP 4 _ rfl
  have h_l : va_at g.1 vwCl (ad 5, .inr (0, [.int mc, .ref (if M = 0 then gE g else ad 6), .int (nI (sn z))])) s.heap := hP 5 _ rfl
  refine lv_aload_n hx hb dX3_shift_0 rfl (lv_at hl 0 rfl) ?_
  refine lv_iload_n hx hb dX3_shift_1 rfl (lv_at hl 1 rfl) ?_
  refine q_roV (As := [.int (nI a)]) (rest := []) ⟨hx, hb, hml, hown, hts⟩ (c_X3_checkCode hM hV (x := nI a) (inR_nI ha (by omega))) (cwV 1 hts gX3_shift_X3_checkCode rfl rfl rfl (by decide +kernel) ⟨Nat.le_of_ble_eq_true rfl, Nat.le_of_ble_eq_true rfl⟩) hE hA hP (va_recv hE.K (q_P1 h_x) (ci := 4) (q0 := 0) rfl rfl) rfl hl.1 rfl (Nat.le_of_ble_eq_true rfl) dX3_shift_2 ⟨Nat.zero_le _, Nat.zero_le _⟩ ?_
  refine lv_aload_n hx hb dX3_shift_5 rfl (lv_at hl 0 rfl) ?_
  refine lv_iload_n hx hb dX3_shift_6 rfl (lv_at hl 2 rfl) ?_
  refine q_roV (As := [.int (nI b)]) (rest := []) ⟨hx, hb, hml, hown, hts⟩ (c_X3_checkCode hM hV (x := nI b) (inR_nI hb_ (by omega))) (cwV 1 hts gX3_shift_X3_checkCode rfl rfl rfl (by decide +kernel) ⟨Nat.le_of_ble_eq_true rfl, Nat.le_of_ble_eq_true rfl⟩) hE hA hP (va_recv hE.K (q_P1 h_x) (ci := 4) (q0 := 0) rfl rfl) rfl hl.1 rfl (Nat.le_of_ble_eq_true rfl) dX3_shift_7 ⟨Nat.zero_le _, Nat.zero_le _⟩ ?_
  refine lv_iconst (v := nI 0) hx hb dX3_shift_10 (by decide) ?_
  refine lv_istore_n (lv' := [(3, .int (nI 0)), (0, .ref (ad 0)), (1, .int (nI a)), (2, .int (nI b))]) hx hb dX3_shift_11 rfl hl (by decide) rfl (fun ls hl => ?_)
  refine lv_aload_n hx hb dX3_shift_12 rfl (lv_at hl 1 rfl) ?_
  refine va_get (v := .ref (ad 1)) (C := RX3) (T := TX3) (N := 3) hx hb hts (q_sub wsX30 35 rfl) hown hE.K (q_P1 h_x) 0 rfl rfl 0 (by decide) (hts _ (List.mem_of_getElem? (i := 1) rfl)) (fun _ h9 => h9) rfl dX3_shift_13 ?_
  refine lv_iload_n hx hb dX3_shift_16 rfl (lv_at hl 2 rfl) ?_
  refine lv_iload_n hx hb dX3_shift_17 rfl (lv_at hl 3 rfl) ?_
  refine lv_iconst (v := nI 0) hx hb dX3_shift_18 (by decide) ?_
  refine q_roV (As := [.int (nI a), .int (nI b), .int (nI 0)]) (rest := []) ⟨hx, hb, hml, hown, hts⟩ (c_X0_likeness (L := sL z) (s_ := 0) hL.2 ha hb_ (by omega)) (cwV 3 hts gX3_shift_X0_likeness rfl rfl rfl (by decide +kernel) ⟨Nat.le_of_ble_eq_true rfl, Nat.le_of_ble_eq_true rfl⟩) hE hA h_c (va_recv hE.K (q_P1 h_c) (ci := 1) (q0 := 0) rfl rfl) rfl hl.1 rfl (Nat.le_of_ble_eq_true rfl) dX3_shift_19 ⟨Nat.zero_le _, Nat.zero_le _⟩ ?_
  refine lv_istore (lv' := [(4, .int (likF (sL z) a b 0)), (3, .int (nI 0)), (0, .ref (ad 0)), (1, .int (nI a)), (2, .int (nI b))]) hx hb dX3_shift_22 hl (by decide) rfl (fun ls hl => ?_)
  refine lv_iconst (v := nI 1) hx hb dX3_shift_24 (by decide) ?_
  refine lv_istore (lv' := [(5, .int (nI 1)), (4, .int (likF (sL z) a b 0)), (3, .int (nI 0)), (0, .ref (ad 0)), (1, .int (nI a)), (2, .int (nI b))]) hx hb dX3_shift_25 hl (by decide) rfl (fun ls hl => ?_)
  have lp_27 : ∀ (n_ i : Nat) , i ≤ sL z - 1 → sL z - 1 + 1 ≤ i + n_ → ∀ (ls : Array Slot), lv_has ls 7 [(5, .int (nI (i + 1))), (4, .int (likF (sL z) a b (shB (sL z) a b i))), (3, .int (nI (shB (sL z) a b i))), (0, .ref (ad 0)), (1, .int (nI a)), (2, .int (nI b))] → W p l e ({ frames := 3, cells := 0, slots := 0, locals := 68 } : Room) s m ([.ref (ad 0), .int (nI a), .int (nI b)] : List Value).toArray below meth c s.heap [] 0 0 (MQ below (q_Q (some (.int (nI (shB (sL z) a b (sL z - 1)))))) ([.ref (ad 0), .int (nI a), .int (nI b)] : List Value).toArray s 0 0 (fun _ => False)) (F0 m 27 ls []) := by
    intro n_
    induction n_ with
    | zero => intro i  hi_ hn_; exact absurd hn_ (by omega)
    | succ n_ ih_27 =>
      intro i  hi_i hn_i  ls hl
      refine lv_iload hx hb dX3_shift_27 (lv_at hl 0 rfl) ?_
      refine lv_aload_n hx hb dX3_shift_29 rfl (lv_at hl 3 rfl) ?_
      refine va_get (v := .ref (ad 1)) (C := RX3) (T := TX3) (N := 3) hx hb hts (q_sub wsX30 35 rfl) hown hE.K (q_P1 h_x) 0 rfl rfl 0 (by decide) (hts _ (List.mem_of_getElem? (i := 1) rfl)) (fun _ h9 => h9) rfl dX3_shift_30 ?_
      refine va_get (v := .int (nI (sL z))) (C := RX0) (T := TX0) (N := 1) hx hb hts (q_sub wsX00 38 rfl) hown hE.K (q_P1 h_c) 0 rfl rfl 0 (by decide) (hts _ (List.mem_of_getElem? (i := 2) rfl)) (fun _ h9 => h9) rfl dX3_shift_33 ?_
      refine q_icmp_ge (tgt := 72) hx hb (by omega) (by omega) dX3_shift_36 (by decide) (fun c_1 => ?_) (fun c_1 => ?_)
      · refine lv_iload_n hx hb dX3_shift_72 rfl (lv_at hl 2 rfl) ?_
        exact q_iret hx hb hr hlocks dX3_shift_73 (by rw [show i = sL z - 1 by omega])
      · refine lv_aload_n hx hb dX3_shift_39 rfl (lv_at hl 3 rfl) ?_
        refine va_get (v := .ref (ad 1)) (C := RX3) (T := TX3) (N := 3) hx hb hts (q_sub wsX30 35 rfl) hown hE.K (q_P1 h_x) 0 rfl rfl 0 (by decide) (hts _ (List.mem_of_getElem? (i := 1) rfl)) (fun _ h9 => h9) rfl dX3_shift_40 ?_
        refine lv_iload_n hx hb dX3_shift_43 rfl (lv_at hl 4 rfl) ?_
        refine lv_iload_n hx hb dX3_shift_44 rfl (lv_at hl 5 rfl) ?_
        refine lv_iload hx hb dX3_shift_45 (lv_at hl 0 rfl) ?_
        refine q_roV (As := [.int (nI a), .int (nI b), .int (nI (i + 1))]) (rest := []) ⟨hx, hb, hml, hown, hts⟩ (c_X0_likeness (L := sL z) (s_ := i + 1) hL.2 ha hb_ (by omega)) (cwV 3 hts gX3_shift_X0_likeness rfl rfl rfl (by decide +kernel) ⟨Nat.le_of_ble_eq_true rfl, Nat.le_of_ble_eq_true rfl⟩) hE hA h_c (va_recv hE.K (q_P1 h_c) (ci := 1) (q0 := 0) rfl rfl) rfl hl.1 rfl (Nat.le_of_ble_eq_true rfl) dX3_shift_47 ⟨Nat.zero_le _, Nat.zero_le _⟩ ?_
        refine lv_istore (lv' := [(6, .int (likF (sL z) a b (i + 1))), (5, .int (nI (i + 1))), (4, .int (likF (sL z) a b (shB (sL z) a b i))), (3, .int (nI (shB (sL z) a b i))), (0, .ref (ad 0)), (1, .int (nI a)), (2, .int (nI b))]) hx hb dX3_shift_50 hl (by decide) rfl (fun ls hl => ?_)
        refine lv_iload hx hb dX3_shift_52 (lv_at hl 0 rfl) ?_
        refine lv_iload hx hb dX3_shift_54 (lv_at hl 2 rfl) ?_
        refine lv_icmp_le (tgt := 66) hx hb dX3_shift_56 (by decide) (fun c_2 => ?_) (fun c_2 => ?_)
        · have e9 : shB (sL z) a b (i + 1) = shB (sL z) a b i := shB_f (Int32.not_lt.mpr c_2)
          refine lv_iinc (v := nI (i + 1 + 1)) (lv' := [(5, .int (nI (i + 1 + 1))), (6, .int (likF (sL z) a b (i + 1))), (4, .int (likF (sL z) a b (shB (sL z) a b i))), (3, .int (nI (shB (sL z) a b i))), (0, .ref (ad 0)), (1, .int (nI a)), (2, .int (nI b))]) hx hb dX3_shift_66 hl (k := 1) rfl (nI_1 _) (by decide) rfl (fun ls hl => ?_)
          refine lv_goto (tgt := 27) hx hb dX3_shift_69 (by decide) ?_
          exact ih_27 (i + 1)  (by omega) (by omega)  _ (by rw [e9]; exact lv_sub hl [0, 2, 3, 4, 5, 6] rfl)
        · have e9 : shB (sL z) a b (i + 1) = i + 1 := shB_t (Int32.not_le.mp c_2)
          refine lv_iload hx hb dX3_shift_59 (lv_at hl 0 rfl) ?_
          refine lv_istore (lv' := [(4, .int (likF (sL z) a b (i + 1))), (6, .int (likF (sL z) a b (i + 1))), (5, .int (nI (i + 1))), (3, .int (nI (shB (sL z) a b i))), (0, .ref (ad 0)), (1, .int (nI a)), (2, .int (nI b))]) hx hb dX3_shift_61 hl (by decide) rfl (fun ls hl => ?_)
          refine lv_iload hx hb dX3_shift_63 (lv_at hl 2 rfl) ?_
          refine lv_istore_n (lv' := [(3, .int (nI (i + 1))), (4, .int (likF (sL z) a b (i + 1))), (6, .int (likF (sL z) a b (i + 1))), (5, .int (nI (i + 1))), (0, .ref (ad 0)), (1, .int (nI a)), (2, .int (nI b))]) hx hb dX3_shift_65 rfl hl (by decide) rfl (fun ls hl => ?_)
          refine lv_iinc (v := nI (i + 1 + 1)) (lv' := [(5, .int (nI (i + 1 + 1))), (3, .int (nI (i + 1))), (4, .int (likF (sL z) a b (i + 1))), (6, .int (likF (sL z) a b (i + 1))), (0, .ref (ad 0)), (1, .int (nI a)), (2, .int (nI b))]) hx hb dX3_shift_66 hl (k := 3) rfl (nI_1 _) (by decide) rfl (fun ls hl => ?_)
          refine lv_goto (tgt := 27) hx hb dX3_shift_69 (by decide) ?_
          exact ih_27 (i + 1)  (by omega) (by omega)  _ (by rw [e9]; exact lv_sub hl [0, 2, 1, 4, 5, 6] rfl)
  exact lp_27 (sL z - 1 + 1) 0  (Nat.zero_le _) (by omega)  _ (lv_sub hl [0, 1, 2, 3, 4, 5] rfl)
set_option maxHeartbeats 4000000 in
set_option maxRecDepth 100000 in
theorem ct_X3_shift_1 {l : Launch} (hl0 : l.stackTraces = false) {g : gT} {ad : Nat → Nat} {mc : Int32} {M : Nat} {sig : Nat → Int32} {z : sT} (hM : wM M (sn z)) (hV : VS z) {x y : Int32} (hx_ : ¬ inR x (sL z)) : TH l yX3_shift wsX3_shift ({ frames := 7, cells := 1, slots := 6, locals := 111 } : Room) [.ref (ad 0), .int x, .int y] g (fun H => va_P g.1 vwCl (wC g ad mc M sig z) H) xI := by
  refine TH.of (cc := cX3_shift) (maxL := 7) (ret := (some .int)) (by decide) rfl (Nat.le_of_ble_eq_true rfl) ?_
  intro p e s m below meth c hx hb hml hr hlocks hown hts hno hE hF ls hl
  have hown : s.vm.findClass RX3 = some m.cls := hown
  have hA : ∀ q, s.heap.size ≤ q → q_n s.heap q := fun _ h => h
  have hP := hF
  have hl : lv_has ls 7 [(0, .ref (ad 0)), (1, .int x), (2, .int y)] := hl
  have hL := hV.L
  have hn := hV.n
  have h_x : va_at g.1 vwCl (ad 0, .inr (4, [.ref (ad 1), .ref (ad 2), .ref (ad 5)])) s.heap := hP 0 _ rfl
  have h_c : va_at g.1 vwCl (ad 1, .inr (1, [.int (nI (sL z))])) s.heap := hP 1 _ rfl
  have h_k : va_at g.1 vwCl (ad 2, .inr (3, [.ref (ad 3), .ref (ad 4), .ref (ad 1)])) s.heap := hP 2 _ rfl
  have h_st : va_at g.1 vwCl (ad 3, .inl (gI g, 20, .inl (sst z))) s.heap := hP 3 _ rfl
  have h_sg : va_at g.1 vwCl (ad 4, .inl (gI g, 207, .inl sig)) s.heap := hP 4 _ rfl
  have h_l : va_at g.1 vwCl (ad 5, .inr (0, [.int mc, .ref (if M = 0 then gE g else ad 6), .int (nI (sn z))])) s.heap := hP 5 _ rfl
  refine lv_aload_n hx hb dX3_shift_0 rfl (lv_at hl 0 rfl) ?_
  refine lv_iload_n hx hb dX3_shift_1 rfl (lv_at hl 1 rfl) ?_
  exact q_thVo (As := [.int x]) (rest := []) hno hlocks ⟨hx, hb, hml, hown, hts⟩ (ct_X3_checkCode hl0 hM hV hx_) (cwV 1 hts gX3_shift_X3_checkCode rfl rfl rfl (by decide +kernel) ⟨Nat.le_of_ble_eq_true rfl, Nat.le_of_ble_eq_true rfl⟩) hE hA hP (va_recv hE.K (q_P1 h_x) (ci := 4) (q0 := 0) rfl rfl) rfl hl.1 rfl (Nat.le_of_ble_eq_true rfl) dX3_shift_2 ⟨Nat.le_of_ble_eq_true rfl, Nat.le_of_ble_eq_true rfl⟩
set_option maxHeartbeats 4000000 in
set_option maxRecDepth 100000 in
theorem ct_X3_shift_2 {l : Launch} (hl0 : l.stackTraces = false) {g : gT} {ad : Nat → Nat} {mc : Int32} {M : Nat} {sig : Nat → Int32} {z : sT} (hM : wM M (sn z)) (hV : VS z) {a : Nat} {x : Int32} (ha : a < sL z) (hx_ : ¬ inR x (sL z)) : TH l yX3_shift wsX3_shift ({ frames := 7, cells := 1, slots := 6, locals := 111 } : Room) [.ref (ad 0), .int (nI a), .int x] g (fun H => va_P g.1 vwCl (wC g ad mc M sig z) H) xI := by
  refine TH.of (cc := cX3_shift) (maxL := 7) (ret := (some .int)) (by decide) rfl (Nat.le_of_ble_eq_true rfl) ?_
  intro p e s m below meth c hx hb hml hr hlocks hown hts hno hE hF ls hl
  have hown : s.vm.findClass RX3 = some m.cls := hown
  have hA : ∀ q, s.heap.size ≤ q → q_n s.heap q := fun _ h => h
  have hP := hF
  have hl : lv_has ls 7 [(0, .ref (ad 0)), (1, .int (nI a)), (2, .int x)] := hl
  have hL := hV.L
  have hn := hV.n
  have h_x : va_at g.1 vwCl (ad 0, .inr (4, [.ref (ad 1), .ref (ad 2), .ref (ad 5)])) s.heap := hP 0 _ rfl
  have h_c : va_at g.1 vwCl (ad 1, .inr (1, [.int (nI (sL z))])) s.heap := hP 1 _ rfl
  have h_k : va_at g.1 vwCl (ad 2, .inr (3, [.ref (ad 3), .ref (ad 4), .ref (ad 1)])) s.heap := hP 2 _ rfl
  have h_st : va_at g.1 vwCl (ad 3, .inl (gI g, 20, .inl (sst z))) s.heap := hP 3 _ rfl
  have h_sg : va_at g.1 vwCl (ad 4, .inl (gI g, 207, .inl sig)) s.heap := hP 4 _ rfl
  have h_l : va_at g.1 vwCl (ad 5, .inr (0, [.int mc, .ref (if M = 0 then gE g else ad 6), .int (nI (sn z))])) s.heap := hP 5 _ rfl
  refine lv_aload_n hx hb dX3_shift_0 rfl (lv_at hl 0 rfl) ?_
  refine lv_iload_n hx hb dX3_shift_1 rfl (lv_at hl 1 rfl) ?_
  refine q_roV (As := [.int (nI a)]) (rest := []) ⟨hx, hb, hml, hown, hts⟩ (c_X3_checkCode hM hV (x := nI a) (inR_nI ha (by omega))) (cwV 1 hts gX3_shift_X3_checkCode rfl rfl rfl (by decide +kernel) ⟨Nat.le_of_ble_eq_true rfl, Nat.le_of_ble_eq_true rfl⟩) hE hA hP (va_recv hE.K (q_P1 h_x) (ci := 4) (q0 := 0) rfl rfl) rfl hl.1 rfl (Nat.le_of_ble_eq_true rfl) dX3_shift_2 ⟨Nat.zero_le _, Nat.zero_le _⟩ ?_
  refine lv_aload_n hx hb dX3_shift_5 rfl (lv_at hl 0 rfl) ?_
  refine lv_iload_n hx hb dX3_shift_6 rfl (lv_at hl 2 rfl) ?_
  exact q_thVo (As := [.int x]) (rest := []) hno hlocks ⟨hx, hb, hml, hown, hts⟩ (ct_X3_checkCode hl0 hM hV hx_) (cwV 1 hts gX3_shift_X3_checkCode rfl rfl rfl (by decide +kernel) ⟨Nat.le_of_ble_eq_true rfl, Nat.le_of_ble_eq_true rfl⟩) hE hA hP (va_recv hE.K (q_P1 h_x) (ci := 4) (q0 := 0) rfl rfl) rfl hl.1 rfl (Nat.le_of_ble_eq_true rfl) dX3_shift_7 ⟨Nat.le_of_ble_eq_true rfl, Nat.le_of_ble_eq_true rfl⟩
set_option maxHeartbeats 4000000 in
set_option maxRecDepth 100000 in
theorem c_X3_advise {l : Launch} {g : gT} {ad : Nat → Nat} {mc : Int32} {M : Nat} {sig : Nat → Int32} {z : sT} (hM : wM M (sn z)) (hV : VS z) {b : Nat} (hb_ : b < sL z) : RO l yX3_advise wsX3_advise ({ frames := 4, cells := 0, slots := 0, locals := 94 } : Room) [.ref (ad 0), .int (nI b)] g (fun H => va_P g.1 vwCl (wC g ad mc M sig z) H) (some (.int ((advS z b (sL z)).1))) := by
  refine RO.of (cc := cX3_advise) (maxL := 6) (ret := (some .int)) (by decide) rfl (Nat.le_of_ble_eq_true rfl) ?_
  intro p e s m below meth c hx hb hml hr hlocks hown hts hE hF ls hl
  have hown : s.vm.findClass RX3 = some m.cls := hown
  have hA : ∀ q, s.heap.size ≤ q → q_n s.heap q := fun _ h => h
  have hP := hF
  have hl : lv_has ls 6 [(0, .ref (ad 0)), (1, .int (nI b))] := hl
  have hL := hV.L
  have hn := hV.n
  have h_x : va_at g.1 vwCl (ad 0, .inr (4, [.ref (ad 1), .ref (ad 2), .ref (ad 5)])) s.heap := hP 0 _ rfl
  have h_c : va_at g.1 vwCl (ad 1, .inr (1, [.int (nI (sL z))])) s.heap := hP 1 _ rfl
  have h_k : va_at g.1 vwCl (ad 2, .inr (3, [.ref (ad 3), .ref (ad 4), .ref (ad 1)])) s.heap := hP 2 _ rfl
  have h_st : va_at g.1 vwCl (ad 3, .inl (gI g, 20, .inl (sst z))) s.heap := hP 3 _ rfl
  have h_sg : va_at g.1 vwCl (ad 4, .inl (gI g, 207, .inl sig)) s.heap := hP 4 _ rfl
  have h_l : va_at g.1 vwCl (ad 5, .inr (0, [.int mc, .ref (if M = 0 then gE g else ad 6), .int (nI (sn z))])) s.heap := hP 5 _ rfl
  refine lv_aload_n hx hb dX3_advise_0 rfl (lv_at hl 0 rfl) ?_
  refine lv_iload_n hx hb dX3_advise_1 rfl (lv_at hl 1 rfl) ?_
  refine q_roV (As := [.int (nI b)]) (rest := []) ⟨hx, hb, hml, hown, hts⟩ (c_X3_checkDelay hM hV (x := nI b) (inR_nI hb_ (by omega))) (cwV 1 hts gX3_advise_X3_checkDelay rfl rfl rfl (by decide +kernel) ⟨Nat.le_of_ble_eq_true rfl, Nat.le_of_ble_eq_true rfl⟩) hE hA hP (va_recv hE.K (q_P1 h_x) (ci := 4) (q0 := 0) rfl rfl) rfl hl.1 rfl (Nat.le_of_ble_eq_true rfl) dX3_advise_2 ⟨Nat.zero_le _, Nat.zero_le _⟩ ?_
  refine lv_iconst (v := (-1 : Int32)) hx hb dX3_advise_5 (by decide) ?_
  refine lv_istore_n (lv' := [(2, .int (-1 : Int32)), (0, .ref (ad 0)), (1, .int (nI b))]) hx hb dX3_advise_6 rfl hl (by decide) rfl (fun ls hl => ?_)
  refine lv_iconst (v := nI 0) hx hb dX3_advise_7 (by decide) ?_
  refine lv_istore_n (lv' := [(3, .int (nI 0)), (2, .int (-1 : Int32)), (0, .ref (ad 0)), (1, .int (nI b))]) hx hb dX3_advise_8 rfl hl (by decide) rfl (fun ls hl => ?_)
  refine lv_iconst (v := nI 0) hx hb dX3_advise_9 (by decide) ?_
  refine lv_istore (lv' := [(4, .int (nI 0)), (3, .int (nI 0)), (2, .int (-1 : Int32)), (0, .ref (ad 0)), (1, .int (nI b))]) hx hb dX3_advise_10 hl (by decide) rfl (fun ls hl => ?_)
  have lp_12 : ∀ (n_ i : Nat) , i ≤ sL z → sL z + 1 ≤ i + n_ → ∀ (ls : Array Slot), lv_has ls 6 [(4, .int (nI i)), (3, .int ((advS z b i).2)), (2, .int ((advS z b i).1)), (0, .ref (ad 0)), (1, .int (nI b))] → W p l e ({ frames := 4, cells := 0, slots := 0, locals := 94 } : Room) s m ([.ref (ad 0), .int (nI b)] : List Value).toArray below meth c s.heap [] 0 0 (MQ below (q_Q (some (.int ((advS z b (sL z)).1)))) ([.ref (ad 0), .int (nI b)] : List Value).toArray s 0 0 (fun _ => False)) (F0 m 12 ls []) := by
    intro n_
    induction n_ with
    | zero => intro i  hi_ hn_; exact absurd hn_ (by omega)
    | succ n_ ih_12 =>
      intro i  hi_i hn_i  ls hl
      refine lv_iload hx hb dX3_advise_12 (lv_at hl 0 rfl) ?_
      refine lv_aload_n hx hb dX3_advise_14 rfl (lv_at hl 3 rfl) ?_
      refine va_get (v := .ref (ad 1)) (C := RX3) (T := TX3) (N := 3) hx hb hts (q_sub wsX30 67 rfl) hown hE.K (q_P1 h_x) 0 rfl rfl 0 (by decide) (hts _ (List.mem_of_getElem? (i := 1) rfl)) (fun _ h9 => h9) rfl dX3_advise_15 ?_
      refine va_get (v := .int (nI (sL z))) (C := RX0) (T := TX0) (N := 1) hx hb hts (q_sub wsX00 70 rfl) hown hE.K (q_P1 h_c) 0 rfl rfl 0 (by decide) (hts _ (List.mem_of_getElem? (i := 2) rfl)) (fun _ h9 => h9) rfl dX3_advise_18 ?_
      refine q_icmp_ge (tgt := 67) hx hb (by omega) (by omega) dX3_advise_21 (by decide) (fun c_1 => ?_) (fun c_1 => ?_)
      · refine lv_iload_n hx hb dX3_advise_67 rfl (lv_at hl 2 rfl) ?_
        exact q_iret hx hb hr hlocks dX3_advise_68 (by rw [show i = sL z by omega])
      · refine lv_aload_n hx hb dX3_advise_24 rfl (lv_at hl 3 rfl) ?_
        refine lv_iload hx hb dX3_advise_25 (lv_at hl 0 rfl) ?_
        refine q_roV (As := [.int (nI i)]) (rest := []) ⟨hx, hb, hml, hown, hts⟩ (c_X3_isTaken hM hV (a := i) (by omega)) (cwV 1 hts gX3_advise_X3_isTaken rfl rfl rfl (by decide +kernel) ⟨Nat.le_of_ble_eq_true rfl, Nat.le_of_ble_eq_true rfl⟩) hE hA hP (va_recv hE.K (q_P1 h_x) (ci := 4) (q0 := 0) rfl rfl) rfl hl.1 rfl (Nat.le_of_ble_eq_true rfl) dX3_advise_27 ⟨Nat.zero_le _, Nat.zero_le _⟩ ?_
        refine q_ifb_eq (tgt := 36) hx hb dX3_advise_30 (by decide) (fun c_k => ?_) (fun c_k => ?_)
        · refine lv_aload_n hx hb dX3_advise_36 rfl (lv_at hl 3 rfl) ?_
          refine lv_iload hx hb dX3_advise_37 (lv_at hl 0 rfl) ?_
          refine lv_iload_n hx hb dX3_advise_39 rfl (lv_at hl 4 rfl) ?_
          refine q_roV (As := [.int (nI i), .int (nI b)]) (rest := []) ⟨hx, hb, hml, hown, hts⟩ (c_X3_likenessToAll hM hV (a := i) (b := b) (by omega) hb_) (cwV 2 hts gX3_advise_X3_likenessToAll rfl rfl rfl (by decide +kernel) ⟨Nat.le_of_ble_eq_true rfl, Nat.le_of_ble_eq_true rfl⟩) hE hA hP (va_recv hE.K (q_P1 h_x) (ci := 4) (q0 := 0) rfl rfl) rfl hl.1 rfl (Nat.le_of_ble_eq_true rfl) dX3_advise_40 ⟨Nat.zero_le _, Nat.zero_le _⟩ ?_
          refine lv_istore (lv' := [(5, .int (disF z i b)), (4, .int (nI i)), (3, .int ((advS z b i).2)), (2, .int ((advS z b i).1)), (0, .ref (ad 0)), (1, .int (nI b))]) hx hb dX3_advise_43 hl (by decide) rfl (fun ls hl => ?_)
          refine lv_iload_n hx hb dX3_advise_45 rfl (lv_at hl 3 rfl) ?_
          refine lv_if_lt (tgt := 55) hx hb dX3_advise_46 (by decide) (fun c_m => ?_) (fun c_m => ?_)
          · have e9 : advS z b (i + 1) = (nI i, disF z i b) := advS_t c_k (Or.inl c_m)
            refine lv_iload hx hb dX3_advise_55 (lv_at hl 0 rfl) ?_
            refine lv_istore_n (lv' := [(3, .int (disF z i b)), (5, .int (disF z i b)), (4, .int (nI i)), (2, .int ((advS z b i).1)), (0, .ref (ad 0)), (1, .int (nI b))]) hx hb dX3_advise_57 rfl hl (by decide) rfl (fun ls hl => ?_)
            refine lv_iload hx hb dX3_advise_58 (lv_at hl 2 rfl) ?_
            refine lv_istore_n (lv' := [(2, .int (nI i)), (3, .int (disF z i b)), (5, .int (disF z i b)), (4, .int (nI i)), (0, .ref (ad 0)), (1, .int (nI b))]) hx hb dX3_advise_60 rfl hl (by decide) rfl (fun ls hl => ?_)
            refine lv_iinc (v := nI (i + 1)) (lv' := [(4, .int (nI (i + 1))), (2, .int (nI i)), (3, .int (disF z i b)), (5, .int (disF z i b)), (0, .ref (ad 0)), (1, .int (nI b))]) hx hb dX3_advise_61 hl (k := 3) rfl (nI_1 _) (by decide) rfl (fun ls hl => ?_)
            refine lv_goto (tgt := 12) hx hb dX3_advise_64 (by decide) ?_
            exact ih_12 (i + 1)  (by omega) (by omega)  _ (by rw [e9]; exact lv_sub hl [0, 2, 1, 4, 5] rfl)
          · refine lv_iload hx hb dX3_advise_49 (lv_at hl 0 rfl) ?_
            refine lv_iload_n hx hb dX3_advise_51 rfl (lv_at hl 2 rfl) ?_
            refine lv_icmp_ge (tgt := 61) hx hb dX3_advise_52 (by decide) (fun c_n => ?_) (fun c_n => ?_)
            · have e9 : advS z b (i + 1) = advS z b i := advS_f c_k c_m (Int32.not_lt.mpr c_n)
              refine lv_iinc (v := nI (i + 1)) (lv' := [(4, .int (nI (i + 1))), (5, .int (disF z i b)), (3, .int ((advS z b i).2)), (2, .int ((advS z b i).1)), (0, .ref (ad 0)), (1, .int (nI b))]) hx hb dX3_advise_61 hl (k := 1) rfl (nI_1 _) (by decide) rfl (fun ls hl => ?_)
              refine lv_goto (tgt := 12) hx hb dX3_advise_64 (by decide) ?_
              exact ih_12 (i + 1)  (by omega) (by omega)  _ (by rw [e9]; exact lv_sub hl [0, 2, 3, 4, 5] rfl)
            · have e9 : advS z b (i + 1) = (nI i, disF z i b) := advS_t c_k (Or.inr (Int32.not_le.mp c_n))
              refine lv_iload hx hb dX3_advise_55 (lv_at hl 0 rfl) ?_
              refine lv_istore_n (lv' := [(3, .int (disF z i b)), (5, .int (disF z i b)), (4, .int (nI i)), (2, .int ((advS z b i).1)), (0, .ref (ad 0)), (1, .int (nI b))]) hx hb dX3_advise_57 rfl hl (by decide) rfl (fun ls hl => ?_)
              refine lv_iload hx hb dX3_advise_58 (lv_at hl 2 rfl) ?_
              refine lv_istore_n (lv' := [(2, .int (nI i)), (3, .int (disF z i b)), (5, .int (disF z i b)), (4, .int (nI i)), (0, .ref (ad 0)), (1, .int (nI b))]) hx hb dX3_advise_60 rfl hl (by decide) rfl (fun ls hl => ?_)
              refine lv_iinc (v := nI (i + 1)) (lv' := [(4, .int (nI (i + 1))), (2, .int (nI i)), (3, .int (disF z i b)), (5, .int (disF z i b)), (0, .ref (ad 0)), (1, .int (nI b))]) hx hb dX3_advise_61 hl (k := 3) rfl (nI_1 _) (by decide) rfl (fun ls hl => ?_)
              refine lv_goto (tgt := 12) hx hb dX3_advise_64 (by decide) ?_
              exact ih_12 (i + 1)  (by omega) (by omega)  _ (by rw [e9]; exact lv_sub hl [0, 2, 1, 4, 5] rfl)
        · have e9 : advS z b (i + 1) = advS z b i := advS_k c_k
          refine lv_goto (tgt := 61) hx hb dX3_advise_33 (by decide) ?_
          refine lv_iinc (v := nI (i + 1)) (lv' := [(4, .int (nI (i + 1))), (3, .int ((advS z b i).2)), (2, .int ((advS z b i).1)), (0, .ref (ad 0)), (1, .int (nI b))]) hx hb dX3_advise_61 hl (k := 0) rfl (nI_1 _) (by decide) rfl (fun ls hl => ?_)
          refine lv_goto (tgt := 12) hx hb dX3_advise_64 (by decide) ?_
          exact ih_12 (i + 1)  (by omega) (by omega)  _ (by rw [e9]; exact lv_sub hl [0, 1, 2, 3, 4] rfl)
  exact lp_12 (sL z + 1) 0  (Nat.zero_le _) (by omega)  _ (lv_sub hl [0, 1, 2, 3, 4] rfl)
set_option maxHeartbeats 4000000 in
set_option maxRecDepth 100000 in
theorem ct_X3_advise_1 {l : Launch} (hl0 : l.stackTraces = false) {g : gT} {ad : Nat → Nat} {mc : Int32} {M : Nat} {sig : Nat → Int32} {z : sT} (hM : wM M (sn z)) (hV : VS z) {x : Int32} (hx_ : ¬ inR x (sL z)) : TH l yX3_advise wsX3_advise ({ frames := 7, cells := 1, slots := 6, locals := 111 } : Room) [.ref (ad 0), .int x] g (fun H => va_P g.1 vwCl (wC g ad mc M sig z) H) xA := by
  refine TH.of (cc := cX3_advise) (maxL := 6) (ret := (some .int)) (by decide) rfl (Nat.le_of_ble_eq_true rfl) ?_
  intro p e s m below meth c hx hb hml hr hlocks hown hts hno hE hF ls hl
  have hown : s.vm.findClass RX3 = some m.cls := hown
  have hA : ∀ q, s.heap.size ≤ q → q_n s.heap q := fun _ h => h
  have hP := hF
  have hl : lv_has ls 6 [(0, .ref (ad 0)), (1, .int x)] := hl
  have hL := hV.L
  have hn := hV.n
  have h_x : va_at g.1 vwCl (ad 0, .inr (4, [.ref (ad 1), .ref (ad 2), .ref (ad 5)])) s.heap := hP 0 _ rfl
  have h_c : va_at g.1 vwCl (ad 1, .inr (1, [.int (nI (sL z))])) s.heap := hP 1 _ rfl
  have h_k : va_at g.1 vwCl (ad 2, .inr (3, [.ref (ad 3), .ref (ad 4), .ref (ad 1)])) s.heap := hP 2 _ rfl
  have h_st : va_at g.1 vwCl (ad 3, .inl (gI g, 20, .inl (sst z))) s.heap := hP 3 _ rfl
  have h_sg : va_at g.1 vwCl (ad 4, .inl (gI g, 207, .inl sig)) s.heap := hP 4 _ rfl
  have h_l : va_at g.1 vwCl (ad 5, .inr (0, [.int mc, .ref (if M = 0 then gE g else ad 6), .int (nI (sn z))])) s.heap := hP 5 _ rfl
  refine lv_aload_n hx hb dX3_advise_0 rfl (lv_at hl 0 rfl) ?_
  refine lv_iload_n hx hb dX3_advise_1 rfl (lv_at hl 1 rfl) ?_
  exact q_thVo (As := [.int x]) (rest := []) hno hlocks ⟨hx, hb, hml, hown, hts⟩ (ct_X3_checkDelay hl0 hM hV hx_) (cwV 1 hts gX3_advise_X3_checkDelay rfl rfl rfl (by decide +kernel) ⟨Nat.le_of_ble_eq_true rfl, Nat.le_of_ble_eq_true rfl⟩) hE hA hP (va_recv hE.K (q_P1 h_x) (ci := 4) (q0 := 0) rfl rfl) rfl hl.1 rfl (Nat.le_of_ble_eq_true rfl) dX3_advise_2 ⟨Nat.le_of_ble_eq_true rfl, Nat.le_of_ble_eq_true rfl⟩
set_option maxHeartbeats 4000000 in
set_option maxRecDepth 100000 in
theorem c_X3_digestHill {l : Launch} {g : gT} {ad : Nat → Nat} {mc : Int32} {M : Nat} {sig : Nat → Int32} {z : sT} (hM : wM M (sn z)) (hV : VS z) {k : Nat} {d0 : Int64} (hk_ : k < sn z) : RO l yX3_digestHill wsX3_digestHill ({ frames := 6, cells := 0, slots := 0, locals := 135 } : Room) [.ref (ad 0), .long d0, .int (nI k)] g (fun H => va_P g.1 vwCl (wC g ad mc M sig z) H) (some (.long (dgH z (atF (sst z) sig) k d0))) := by
  refine RO.of (cc := cX3_digestHill) (maxL := 9) (ret := (some .long)) (by decide) rfl (Nat.le_of_ble_eq_true rfl) ?_
  intro p e s m below meth c hx hb hml hr hlocks hown hts hE hF ls hl
  have hown : s.vm.findClass RX3 = some m.cls := hown
  have hA : ∀ q, s.heap.size ≤ q → q_n s.heap q := fun _ h => h
  have hP := hF
  have hl : lv_has ls 9 [(0, .ref (ad 0)), (1, .long d0), (3, .int (nI k))] := hl
  have hL := hV.L
  have hn := hV.n
  have h_x : va_at g.1 vwCl (ad 0, .inr (4, [.ref (ad 1), .ref (ad 2), .ref (ad 5)])) s.heap := hP 0 _ rfl
  have h_c : va_at g.1 vwCl (ad 1, .inr (1, [.int (nI (sL z))])) s.heap := hP 1 _ rfl
  have h_k : va_at g.1 vwCl (ad 2, .inr (3, [.ref (ad 3), .ref (ad 4), .ref (ad 1)])) s.heap := hP 2 _ rfl
  have h_st : va_at g.1 vwCl (ad 3, .inl (gI g, 20, .inl (sst z))) s.heap := hP 3 _ rfl
  have h_sg : va_at g.1 vwCl (ad 4, .inl (gI g, 207, .inl sig)) s.heap := hP 4 _ rfl
  have h_l : va_at g.1 vwCl (ad 5, .inr (0, [.int mc, .ref (if M = 0 then gE g else ad 6), .int (nI (sn z))])) s.heap := hP 5 _ rfl
  have hb_ := hV.h hk_
  have h_h := hP (2 * k + 7) _ (wC_h hM hk_)
  have h_w := hP (2 * k + 8) _ (wC_w hM hk_)
  have h_e := hP 6 _ (wC_e (by omega))
  have h_l6 : va_at g.1 vwCl (ad 5, .inr (0, [.int mc, .ref (ad 6), .int (nI (sn z))])) s.heap := by
    have := h_l
    rwa [if_neg (show ¬ M = 0 by omega)] at this
  refine lv_lload_n hx hb dX3_digestHill_0 rfl (lv_at hl 1 rfl) ?_
  refine lv_lstore (lv' := [(4, .long d0), (0, .ref (ad 0)), (1, .long d0), (3, .int (nI k))]) hx hb dX3_digestHill_1 hl (by decide) rfl (fun ls hl => ?_)
  refine lv_iconst (v := nI 0) hx hb dX3_digestHill_3 (by decide) ?_
  refine lv_istore (lv' := [(6, .int (nI 0)), (4, .long d0), (0, .ref (ad 0)), (1, .long d0), (3, .int (nI k))]) hx hb dX3_digestHill_4 hl (by decide) rfl (fun ls hl => ?_)
  have lp_6 : ∀ (n_ i : Nat) , i ≤ 7 → 7 + 1 ≤ i + n_ → ∀ (ls : Array Slot), lv_has ls 9 [(6, .int (nI i)), (4, .long (digN (abtV z (atF (sst z) sig) k) d0 i)), (0, .ref (ad 0)), (1, .long d0), (3, .int (nI k))] → W p l e ({ frames := 6, cells := 0, slots := 0, locals := 135 } : Room) s m ([.ref (ad 0), .long d0, .int (nI k)] : List Value).toArray below meth c s.heap [] 0 0 (MQ below (q_Q (some (.long (dgH z (atF (sst z) sig) k d0)))) ([.ref (ad 0), .long d0, .int (nI k)] : List Value).toArray s 0 0 (fun _ => False)) (F0 m 6 ls []) := by
    intro n_
    induction n_ with
    | zero => intro i  hi_ hn_; exact absurd hn_ (by omega)
    | succ n_ ih_6 =>
      intro i  hi_i hn_i  ls hl
      refine lv_iload hx hb dX3_digestHill_6 (lv_at hl 0 rfl) ?_
      refine lv_bipush (v := nI 7) hx hb dX3_digestHill_8 (by decide) ?_
      refine q_icmp_ge (tgt := 36) hx hb (by omega) (by omega) dX3_digestHill_10 (by decide) (fun c_1 => ?_) (fun c_1 => ?_)
      · have ei : i = 7 := by omega
        rw [ei] at hl
        refine lv_aload_n hx hb dX3_digestHill_36 rfl (lv_at hl 2 rfl) ?_
        refine lv_iload_n hx hb dX3_digestHill_37 rfl (lv_at hl 4 rfl) ?_
        refine q_roV (As := [.int (nI k)]) (rest := []) ⟨hx, hb, hml, hown, hts⟩ (c_X3_hillAt hM hV hk_) (cwV 1 hts gX3_digestHill_X3_hillAt rfl rfl rfl (by decide +kernel) ⟨Nat.le_of_ble_eq_true rfl, Nat.le_of_ble_eq_true rfl⟩) hE hA hP (va_recv hE.K (q_P1 h_x) (ci := 4) (q0 := 0) rfl rfl) rfl hl.1 rfl (Nat.le_of_ble_eq_true rfl) dX3_digestHill_38 ⟨Nat.zero_le _, Nat.zero_le _⟩ ?_
        refine va_get (v := .int (nI (ssd z k))) (C := RX1) (T := TX1) (N := 5) hx hb hts (q_sub wsX10 116 rfl) hown hE.K (q_P1 h_h) 0 rfl rfl 3 (by decide) (hts _ (List.mem_of_getElem? (i := 2) rfl)) (fun _ h9 => h9) rfl dX3_digestHill_41 ?_
        refine lv_istore (lv' := [(6, .int (nI (ssd z k))), (4, .long (digN (abtV z (atF (sst z) sig) k) d0 7)), (0, .ref (ad 0)), (1, .long d0), (3, .int (nI k))]) hx hb dX3_digestHill_44 hl (by decide) rfl (fun ls hl => ?_)
        refine lv_iconst (v := nI 0) hx hb dX3_digestHill_46 (by decide) ?_
        refine lv_istore (lv' := [(7, .int (nI 0)), (6, .int (nI (ssd z k))), (4, .long (digN (abtV z (atF (sst z) sig) k) d0 7)), (0, .ref (ad 0)), (1, .long d0), (3, .int (nI k))]) hx hb dX3_digestHill_47 hl (by decide) rfl (fun ls hl => ?_)
        have lp_49 : ∀ (n_ i : Nat) , i ≤ ssd z k → ssd z k + 1 ≤ i + n_ → ∀ (ls : Array Slot), lv_has ls 9 [(7, .int (nI i)), (6, .int (nI (ssd z k))), (4, .long (dgW z (atF (sst z) sig) k (digN (abtV z (atF (sst z) sig) k) d0 7) i)), (0, .ref (ad 0)), (1, .long d0), (3, .int (nI k))] → W p l e ({ frames := 6, cells := 0, slots := 0, locals := 135 } : Room) s m ([.ref (ad 0), .long d0, .int (nI k)] : List Value).toArray below meth c s.heap [] 0 0 (MQ below (q_Q (some (.long (dgH z (atF (sst z) sig) k d0)))) ([.ref (ad 0), .long d0, .int (nI k)] : List Value).toArray s 0 0 (fun _ => False)) (F0 m 49 ls []) := by
          intro n_
          induction n_ with
          | zero => intro i  hi_ hn_; exact absurd hn_ (by omega)
          | succ n_ ih_49 =>
            intro i  hi_i hn_i  ls hl
            refine lv_iload hx hb dX3_digestHill_49 (lv_at hl 0 rfl) ?_
            refine lv_iload hx hb dX3_digestHill_51 (lv_at hl 1 rfl) ?_
            refine q_icmp_ge (tgt := 96) hx hb (by omega) (by omega) dX3_digestHill_53 (by decide) (fun c_2 => ?_) (fun c_2 => ?_)
            · have ei : i = ssd z k := by omega
              refine lv_lload hx hb dX3_digestHill_96 (lv_at hl 2 rfl) ?_
              exact q_lret hx hb hr hlocks dX3_digestHill_98 (by rw [ei]; rfl)
            · refine lv_iconst (v := nI 0) hx hb dX3_digestHill_56 (by decide) ?_
              refine lv_istore (lv' := [(8, .int (nI 0)), (7, .int (nI i)), (6, .int (nI (ssd z k))), (4, .long (dgW z (atF (sst z) sig) k (digN (abtV z (atF (sst z) sig) k) d0 7) i)), (0, .ref (ad 0)), (1, .long d0), (3, .int (nI k))]) hx hb dX3_digestHill_57 hl (by decide) rfl (fun ls hl => ?_)
              have lp_59 : ∀ (n_ j : Nat) , j ≤ 3 → 3 + 1 ≤ j + n_ → ∀ (ls : Array Slot), lv_has ls 9 [(8, .int (nI j)), (7, .int (nI i)), (6, .int (nI (ssd z k))), (4, .long (digN (wrdV z (atF (sst z) sig) k i) (dgW z (atF (sst z) sig) k (digN (abtV z (atF (sst z) sig) k) d0 7) i) j)), (0, .ref (ad 0)), (1, .long d0), (3, .int (nI k))] → W p l e ({ frames := 6, cells := 0, slots := 0, locals := 135 } : Room) s m ([.ref (ad 0), .long d0, .int (nI k)] : List Value).toArray below meth c s.heap [] 0 0 (MQ below (q_Q (some (.long (dgH z (atF (sst z) sig) k d0)))) ([.ref (ad 0), .long d0, .int (nI k)] : List Value).toArray s 0 0 (fun _ => False)) (F0 m 59 ls []) := by
                intro n_
                induction n_ with
                | zero => intro j  hi_ hn_; exact absurd hn_ (by omega)
                | succ n_ ih_59 =>
                  intro j  hi_j hn_j  ls hl
                  refine lv_iload hx hb dX3_digestHill_59 (lv_at hl 0 rfl) ?_
                  refine lv_iconst (v := nI 3) hx hb dX3_digestHill_61 (by decide) ?_
                  refine q_icmp_ge (tgt := 90) hx hb (by omega) (by omega) dX3_digestHill_62 (by decide) (fun c_3 => ?_) (fun c_3 => ?_)
                  · have ej : j = 3 := by omega
                    rw [ej] at hl
                    refine lv_iinc (v := nI (i + 1)) (lv' := [(7, .int (nI (i + 1))), (8, .int (nI 3)), (6, .int (nI (ssd z k))), (4, .long (digN (wrdV z (atF (sst z) sig) k i) (dgW z (atF (sst z) sig) k (digN (abtV z (atF (sst z) sig) k) d0 7) i) 3)), (0, .ref (ad 0)), (1, .long d0), (3, .int (nI k))]) hx hb dX3_digestHill_90 hl (k := 1) rfl (nI_1 _) (by decide) rfl (fun ls hl => ?_)
                    refine lv_goto (tgt := 49) hx hb dX3_digestHill_93 (by decide) ?_
                    exact ih_49 (i + 1)  (by omega) (by omega)  _ (lv_sub hl [0, 2, 3, 4, 5, 6] rfl)
                  · refine lv_lload hx hb dX3_digestHill_65 (lv_at hl 3 rfl) ?_
                    refine lv_ldc2 (v := 31) hx hb hown (hts _ (List.mem_of_getElem? (i := 1) rfl)) dX3_digestHill_67 ?_
                    refine q_lmul (v := (digN (wrdV z (atF (sst z) sig) k i) (dgW z (atF (sst z) sig) k (digN (abtV z (atF (sst z) sig) k) d0 7) i) j) * 31) hx hb dX3_digestHill_70 rfl ?_
                    refine lv_aload_n hx hb dX3_digestHill_71 rfl (lv_at hl 4 rfl) ?_
                    refine lv_iload_n hx hb dX3_digestHill_72 rfl (lv_at hl 6 rfl) ?_
                    refine lv_iload hx hb dX3_digestHill_73 (lv_at hl 1 rfl) ?_
                    refine lv_iload hx hb dX3_digestHill_75 (lv_at hl 0 rfl) ?_
                    refine q_roV (As := [.int (nI k), .int (nI i), .int (nI j)]) (rest := [.long ((digN (wrdV z (atF (sst z) sig) k i) (dgW z (atF (sst z) sig) k (digN (abtV z (atF (sst z) sig) k) d0 7) i) j) * 31)]) ⟨hx, hb, hml, hown, hts⟩ (c_X3_word hM hV hk_ (w := i) (q := j) (by omega) (by omega)) (cwV 3 hts gX3_digestHill_X3_word rfl rfl rfl (by decide +kernel) ⟨Nat.le_of_ble_eq_true rfl, Nat.le_of_ble_eq_true rfl⟩) hE hA hP (va_recv hE.K (q_P1 h_x) (ci := 4) (q0 := 0) rfl rfl) rfl hl.1 rfl (Nat.le_of_ble_eq_true rfl) dX3_digestHill_77 ⟨Nat.zero_le _, Nat.zero_le _⟩ ?_
                    refine lv_i2l (v := (wrdV z (atF (sst z) sig) k i j).toInt64) hx hb dX3_digestHill_80 rfl ?_
                    refine q_ladd (v := digN (wrdV z (atF (sst z) sig) k i) (dgW z (atF (sst z) sig) k (digN (abtV z (atF (sst z) sig) k) d0 7) i) (j + 1)) hx hb dX3_digestHill_81 rfl ?_
                    refine lv_lstore (lv' := [(4, .long (digN (wrdV z (atF (sst z) sig) k i) (dgW z (atF (sst z) sig) k (digN (abtV z (atF (sst z) sig) k) d0 7) i) (j + 1))), (8, .int (nI j)), (7, .int (nI i)), (6, .int (nI (ssd z k))), (0, .ref (ad 0)), (1, .long d0), (3, .int (nI k))]) hx hb dX3_digestHill_82 hl (by decide) rfl (fun ls hl => ?_)
                    refine lv_iinc (v := nI (j + 1)) (lv' := [(8, .int (nI (j + 1))), (4, .long (digN (wrdV z (atF (sst z) sig) k i) (dgW z (atF (sst z) sig) k (digN (abtV z (atF (sst z) sig) k) d0 7) i) (j + 1))), (7, .int (nI i)), (6, .int (nI (ssd z k))), (0, .ref (ad 0)), (1, .long d0), (3, .int (nI k))]) hx hb dX3_digestHill_84 hl (k := 1) rfl (nI_1 _) (by decide) rfl (fun ls hl => ?_)
                    refine lv_goto (tgt := 59) hx hb dX3_digestHill_87 (by decide) ?_
                    exact ih_59 (j + 1)  (by omega) (by omega)  _ (lv_sub hl [0, 2, 3, 1, 4, 5, 6] rfl)
              exact lp_59 (3 + 1) 0  (Nat.zero_le _) (by omega)  _ (lv_sub hl [0, 1, 2, 3, 4, 5, 6] rfl)
        exact lp_49 (ssd z k + 1) 0  (Nat.zero_le _) (by omega)  _ (lv_sub hl [0, 1, 2, 3, 4, 5] rfl)
      · refine lv_lload hx hb dX3_digestHill_13 (lv_at hl 1 rfl) ?_
        refine lv_ldc2 (v := 31) hx hb hown (hts _ (List.mem_of_getElem? (i := 1) rfl)) dX3_digestHill_15 ?_
        refine q_lmul (v := (digN (abtV z (atF (sst z) sig) k) d0 i) * 31) hx hb dX3_digestHill_18 rfl ?_
        refine lv_aload_n hx hb dX3_digestHill_19 rfl (lv_at hl 2 rfl) ?_
        refine lv_iload_n hx hb dX3_digestHill_20 rfl (lv_at hl 4 rfl) ?_
        refine lv_iload hx hb dX3_digestHill_21 (lv_at hl 0 rfl) ?_
        refine q_roV (As := [.int (nI k), .int (nI i)]) (rest := [.long ((digN (abtV z (atF (sst z) sig) k) d0 i) * 31)]) ⟨hx, hb, hml, hown, hts⟩ (c_X3_about hM hV hk_ (q := i) (by omega)) (cwV 2 hts gX3_digestHill_X3_about rfl rfl rfl (by decide +kernel) ⟨Nat.le_of_ble_eq_true rfl, Nat.le_of_ble_eq_true rfl⟩) hE hA hP (va_recv hE.K (q_P1 h_x) (ci := 4) (q0 := 0) rfl rfl) rfl hl.1 rfl (Nat.le_of_ble_eq_true rfl) dX3_digestHill_23 ⟨Nat.zero_le _, Nat.zero_le _⟩ ?_
        refine lv_i2l (v := (abtV z (atF (sst z) sig) k i).toInt64) hx hb dX3_digestHill_26 rfl ?_
        refine q_ladd (v := digN (abtV z (atF (sst z) sig) k) d0 (i + 1)) hx hb dX3_digestHill_27 rfl ?_
        refine lv_lstore (lv' := [(4, .long (digN (abtV z (atF (sst z) sig) k) d0 (i + 1))), (6, .int (nI i)), (0, .ref (ad 0)), (1, .long d0), (3, .int (nI k))]) hx hb dX3_digestHill_28 hl (by decide) rfl (fun ls hl => ?_)
        refine lv_iinc (v := nI (i + 1)) (lv' := [(6, .int (nI (i + 1))), (4, .long (digN (abtV z (atF (sst z) sig) k) d0 (i + 1))), (0, .ref (ad 0)), (1, .long d0), (3, .int (nI k))]) hx hb dX3_digestHill_30 hl (k := 1) rfl (nI_1 _) (by decide) rfl (fun ls hl => ?_)
        refine lv_goto (tgt := 6) hx hb dX3_digestHill_33 (by decide) ?_
        exact ih_6 (i + 1)  (by omega) (by omega)  _ (lv_sub hl [0, 1, 2, 3, 4] rfl)
  exact lp_6 (7 + 1) 0  (Nat.zero_le _) (by omega)  _ (lv_sub hl [0, 1, 2, 3, 4] rfl)
set_option maxHeartbeats 4000000 in
set_option maxRecDepth 100000 in
theorem c_X3_digest {l : Launch} {g : gT} {ad : Nat → Nat} {mc : Int32} {M : Nat} {sig : Nat → Int32} {z : sT} (hM : wM M (sn z)) (hV : VS z)  : RO l yX3_digest wsX3_digest ({ frames := 7, cells := 0, slots := 0, locals := 163 } : Room) [.ref (ad 0)] g (fun H => va_P g.1 vwCl (wC g ad mc M sig z) H) (some (.long (dgA z (atF (sst z) sig)))) := by
  refine RO.of (cc := cX3_digest) (maxL := 7) (ret := (some .long)) (by decide) rfl (Nat.le_of_ble_eq_true rfl) ?_
  intro p e s m below meth c hx hb hml hr hlocks hown hts hE hF ls hl
  have hown : s.vm.findClass RX3 = some m.cls := hown
  have hA : ∀ q, s.heap.size ≤ q → q_n s.heap q := fun _ h => h
  have hP := hF
  have hl : lv_has ls 7 [(0, .ref (ad 0))] := hl
  have hL := hV.L
  have hn := hV.n
  have h_x : va_at g.1 vwCl (ad 0, .inr (4, [.ref (ad 1), .ref (ad 2), .ref (ad 5)])) s.heap := hP 0 _ rfl
  have h_c : va_at g.1 vwCl (ad 1, .inr (1, [.int (nI (sL z))])) s.heap := hP 1 _ rfl
  have h_k : va_at g.1 vwCl (ad 2, .inr (3, [.ref (ad 3), .ref (ad 4), .ref (ad 1)])) s.heap := hP 2 _ rfl
  have h_st : va_at g.1 vwCl (ad 3, .inl (gI g, 20, .inl (sst z))) s.heap := hP 3 _ rfl
  have h_sg : va_at g.1 vwCl (ad 4, .inl (gI g, 207, .inl sig)) s.heap := hP 4 _ rfl
  have h_l : va_at g.1 vwCl (ad 5, .inr (0, [.int mc, .ref (if M = 0 then gE g else ad 6), .int (nI (sn z))])) s.heap := hP 5 _ rfl
  refine lv_ldc2 (v := 1621) hx hb hown (hts _ (List.mem_of_getElem? (i := 1) rfl)) dX3_digest_0 ?_
  refine lv_lstore_n (lv' := [(1, .long 1621), (0, .ref (ad 0))]) hx hb dX3_digest_3 rfl hl (by decide) rfl (fun ls hl => ?_)
  refine lv_iconst (v := nI 0) hx hb dX3_digest_4 (by decide) ?_
  refine lv_istore_n (lv' := [(3, .int (nI 0)), (1, .long 1621), (0, .ref (ad 0))]) hx hb dX3_digest_5 rfl hl (by decide) rfl (fun ls hl => ?_)
  have lp_6 : ∀ (n_ i : Nat) , i ≤ 7 → 7 + 1 ≤ i + n_ → ∀ (ls : Array Slot), lv_has ls 7 [(3, .int (nI i)), (1, .long (digN (cntV z (atF (sst z) sig)) 1621 i)), (0, .ref (ad 0))] → W p l e ({ frames := 7, cells := 0, slots := 0, locals := 163 } : Room) s m ([.ref (ad 0)] : List Value).toArray below meth c s.heap [] 0 0 (MQ below (q_Q (some (.long (dgA z (atF (sst z) sig))))) ([.ref (ad 0)] : List Value).toArray s 0 0 (fun _ => False)) (F0 m 6 ls []) := by
    intro n_
    induction n_ with
    | zero => intro i  hi_ hn_; exact absurd hn_ (by omega)
    | succ n_ ih_6 =>
      intro i  hi_i hn_i  ls hl
      refine lv_iload_n hx hb dX3_digest_6 rfl (lv_at hl 0 rfl) ?_
      refine lv_bipush (v := nI 7) hx hb dX3_digest_7 (by decide) ?_
      refine q_icmp_ge (tgt := 31) hx hb (by omega) (by omega) dX3_digest_9 (by decide) (fun c_1 => ?_) (fun c_1 => ?_)
      · have ei : i = 7 := by omega
        rw [ei] at hl
        refine lv_aload_n hx hb dX3_digest_31 rfl (lv_at hl 2 rfl) ?_
        refine va_get (v := .ref (ad 2)) (C := RX3) (T := TX3) (N := 3) hx hb hts (q_sub wsX30 154 rfl) hown hE.K (q_P1 h_x) 0 rfl rfl 1 (by decide) (hts _ (List.mem_of_getElem? (i := 3) rfl)) (fun _ h9 => h9) rfl dX3_digest_32 ?_
        refine va_get (v := .ref (ad 3)) (C := RX2) (T := TX2) (N := 3) hx hb hts (q_sub wsX20 157 rfl) hown hE.K (q_P1 h_k) 0 rfl rfl 0 (by decide) (hts _ (List.mem_of_getElem? (i := 4) rfl)) (fun _ h9 => h9) rfl dX3_digest_35 ?_
        refine lv_astore_n (lv' := [(3, .ref (ad 3)), (1, .long (digN (cntV z (atF (sst z) sig)) 1621 7)), (0, .ref (ad 0))]) hx hb dX3_digest_38 rfl hl (by decide) rfl (fun ls hl => ?_)
        refine lv_aload_n hx hb dX3_digest_39 rfl (lv_at hl 0 rfl) ?_
        refine q_alen (v := nI 20) hx hb hE h_st dX3_digest_40 rfl ?_
        refine lv_istore (lv' := [(4, .int (nI 20)), (3, .ref (ad 3)), (1, .long (digN (cntV z (atF (sst z) sig)) 1621 7)), (0, .ref (ad 0))]) hx hb dX3_digest_41 hl (by decide) rfl (fun ls hl => ?_)
        refine lv_iconst (v := nI 0) hx hb dX3_digest_43 (by decide) ?_
        refine lv_istore (lv' := [(5, .int (nI 0)), (4, .int (nI 20)), (3, .ref (ad 3)), (1, .long (digN (cntV z (atF (sst z) sig)) 1621 7)), (0, .ref (ad 0))]) hx hb dX3_digest_44 hl (by decide) rfl (fun ls hl => ?_)
        have lp_46 : ∀ (n_ i : Nat) , i ≤ 20 → 20 + 1 ≤ i + n_ → ∀ (ls : Array Slot), lv_has ls 7 [(5, .int (nI i)), (4, .int (nI 20)), (3, .ref (ad 3)), (1, .long (digN (sst z) (digN (cntV z (atF (sst z) sig)) 1621 7) i)), (0, .ref (ad 0))] → W p l e ({ frames := 7, cells := 0, slots := 0, locals := 163 } : Room) s m ([.ref (ad 0)] : List Value).toArray below meth c s.heap [] 0 0 (MQ below (q_Q (some (.long (dgA z (atF (sst z) sig))))) ([.ref (ad 0)] : List Value).toArray s 0 0 (fun _ => False)) (F0 m 46 ls []) := by
          intro n_
          induction n_ with
          | zero => intro i  hi_ hn_; exact absurd hn_ (by omega)
          | succ n_ ih_46 =>
            intro i  hi_i hn_i  ls hl
            refine lv_iload hx hb dX3_digest_46 (lv_at hl 0 rfl) ?_
            refine lv_iload hx hb dX3_digest_48 (lv_at hl 1 rfl) ?_
            refine q_icmp_ge (tgt := 75) hx hb (by omega) (by omega) dX3_digest_50 (by decide) (fun c_2 => ?_) (fun c_2 => ?_)
            · have ei : i = 20 := by omega
              rw [ei] at hl
              refine lv_iconst (v := nI 0) hx hb dX3_digest_75 (by decide) ?_
              refine lv_istore_n (lv' := [(3, .int (nI 0)), (5, .int (nI 20)), (4, .int (nI 20)), (1, .long (digN (sst z) (digN (cntV z (atF (sst z) sig)) 1621 7) 20)), (0, .ref (ad 0))]) hx hb dX3_digest_76 rfl hl (by decide) rfl (fun ls hl => ?_)
              have lp_77 : ∀ (n_ i : Nat) , i ≤ sn z → sn z + 1 ≤ i + n_ → ∀ (ls : Array Slot), lv_has ls 7 [(3, .int (nI i)), (1, .long (dgS z (atF (sst z) sig) (digN (sst z) (digN (cntV z (atF (sst z) sig)) 1621 7) 20) i)), (0, .ref (ad 0))] → W p l e ({ frames := 7, cells := 0, slots := 0, locals := 163 } : Room) s m ([.ref (ad 0)] : List Value).toArray below meth c s.heap [] 0 0 (MQ below (q_Q (some (.long (dgA z (atF (sst z) sig))))) ([.ref (ad 0)] : List Value).toArray s 0 0 (fun _ => False)) (F0 m 77 ls []) := by
                intro n_
                induction n_ with
                | zero => intro i  hi_ hn_; exact absurd hn_ (by omega)
                | succ n_ ih_77 =>
                  intro i  hi_i hn_i  ls hl
                  refine lv_iload_n hx hb dX3_digest_77 rfl (lv_at hl 0 rfl) ?_
                  refine lv_aload_n hx hb dX3_digest_78 rfl (lv_at hl 2 rfl) ?_
                  refine va_get (v := .ref (ad 5)) (C := RX3) (T := TX3) (N := 3) hx hb hts (q_sub wsX30 154 rfl) hown hE.K (q_P1 h_x) 0 rfl rfl 2 (by decide) (hts _ (List.mem_of_getElem? (i := 5) rfl)) (fun _ h9 => h9) rfl dX3_digest_79 ?_
                  refine q_roV (As := []) (rest := [.int (nI i)]) ⟨hx, hb, hml, hown, hts⟩ (c_size ) (cwV 0 hts gX3_digest_Jx4a65c_size_8abf5 rfl rfl rfl (by decide +kernel) ⟨Nat.le_of_ble_eq_true rfl, Nat.le_of_ble_eq_true rfl⟩) hE hA h_l (va_recv hE.K (q_P1 h_l) (ci := 0) (q0 := 0) rfl rfl) rfl hl.1 rfl (Nat.le_of_ble_eq_true rfl) dX3_digest_82 ⟨Nat.zero_le _, Nat.zero_le _⟩ ?_
                  refine q_icmp_ge (tgt := 101) hx hb (by omega) (by omega) dX3_digest_85 (by decide) (fun c_3 => ?_) (fun c_3 => ?_)
                  · have ei : i = sn z := by omega
                    refine lv_lload_n hx hb dX3_digest_101 rfl (lv_at hl 1 rfl) ?_
                    exact q_lret hx hb hr hlocks dX3_digest_102 (by rw [ei]; rfl)
                  · refine lv_aload_n hx hb dX3_digest_88 rfl (lv_at hl 2 rfl) ?_
                    refine lv_lload_n hx hb dX3_digest_89 rfl (lv_at hl 1 rfl) ?_
                    refine lv_iload_n hx hb dX3_digest_90 rfl (lv_at hl 0 rfl) ?_
                    refine q_roV (As := [.long (dgS z (atF (sst z) sig) (digN (sst z) (digN (cntV z (atF (sst z) sig)) 1621 7) 20) i), .int (nI i)]) (rest := []) ⟨hx, hb, hml, hown, hts⟩ (c_X3_digestHill hM hV (k := i) (d0 := dgS z (atF (sst z) sig) (digN (sst z) (digN (cntV z (atF (sst z) sig)) 1621 7) 20) i) (by omega)) (cwV 2 hts gX3_digest_X3_digestHill rfl rfl rfl (by decide +kernel) ⟨Nat.le_of_ble_eq_true rfl, Nat.le_of_ble_eq_true rfl⟩) hE hA hP (va_recv hE.K (q_P1 h_x) (ci := 4) (q0 := 0) rfl rfl) rfl hl.1 rfl (Nat.le_of_ble_eq_true rfl) dX3_digest_91 ⟨Nat.zero_le _, Nat.zero_le _⟩ ?_
                    refine lv_lstore_n (lv' := [(1, .long (dgS z (atF (sst z) sig) (digN (sst z) (digN (cntV z (atF (sst z) sig)) 1621 7) 20) (i + 1))), (3, .int (nI i)), (0, .ref (ad 0))]) hx hb dX3_digest_94 rfl hl (by decide) rfl (fun ls hl => ?_)
                    refine lv_iinc (v := nI (i + 1)) (lv' := [(3, .int (nI (i + 1))), (1, .long (dgS z (atF (sst z) sig) (digN (sst z) (digN (cntV z (atF (sst z) sig)) 1621 7) 20) (i + 1))), (0, .ref (ad 0))]) hx hb dX3_digest_95 hl (k := 1) rfl (nI_1 _) (by decide) rfl (fun ls hl => ?_)
                    refine lv_goto (tgt := 77) hx hb dX3_digest_98 (by decide) ?_
                    exact ih_77 (i + 1)  (by omega) (by omega)  _ (lv_sub hl [0, 1, 2] rfl)
              exact lp_77 (sn z + 1) 0  (Nat.zero_le _) (by omega)  _ (lv_sub hl [0, 3, 4] rfl)
            · refine lv_aload_n hx hb dX3_digest_53 rfl (lv_at hl 2 rfl) ?_
              refine lv_iload hx hb dX3_digest_54 (lv_at hl 0 rfl) ?_
              refine q_iald (v := (sst z) i) hx hb hE h_st (by omega) (by omega) dX3_digest_56 rfl ?_
              refine lv_istore (lv' := [(6, .int ((sst z) i)), (5, .int (nI i)), (4, .int (nI 20)), (3, .ref (ad 3)), (1, .long (digN (sst z) (digN (cntV z (atF (sst z) sig)) 1621 7) i)), (0, .ref (ad 0))]) hx hb dX3_digest_57 hl (by decide) rfl (fun ls hl => ?_)
              refine lv_lload_n hx hb dX3_digest_59 rfl (lv_at hl 4 rfl) ?_
              refine lv_ldc2 (v := 31) hx hb hown (hts _ (List.mem_of_getElem? (i := 2) rfl)) dX3_digest_60 ?_
              refine q_lmul (v := (digN (sst z) (digN (cntV z (atF (sst z) sig)) 1621 7) i) * 31) hx hb dX3_digest_63 rfl ?_
              refine lv_iload hx hb dX3_digest_64 (lv_at hl 0 rfl) ?_
              refine lv_i2l (v := ((sst z) i).toInt64) hx hb dX3_digest_66 rfl ?_
              refine q_ladd (v := digN (sst z) (digN (cntV z (atF (sst z) sig)) 1621 7) (i + 1)) hx hb dX3_digest_67 rfl ?_
              refine lv_lstore_n (lv' := [(1, .long (digN (sst z) (digN (cntV z (atF (sst z) sig)) 1621 7) (i + 1))), (6, .int ((sst z) i)), (5, .int (nI i)), (4, .int (nI 20)), (3, .ref (ad 3)), (0, .ref (ad 0))]) hx hb dX3_digest_68 rfl hl (by decide) rfl (fun ls hl => ?_)
              refine lv_iinc (v := nI (i + 1)) (lv' := [(5, .int (nI (i + 1))), (1, .long (digN (sst z) (digN (cntV z (atF (sst z) sig)) 1621 7) (i + 1))), (6, .int ((sst z) i)), (4, .int (nI 20)), (3, .ref (ad 3)), (0, .ref (ad 0))]) hx hb dX3_digest_69 hl (k := 2) rfl (nI_1 _) (by decide) rfl (fun ls hl => ?_)
              refine lv_goto (tgt := 46) hx hb dX3_digest_72 (by decide) ?_
              exact ih_46 (i + 1)  (by omega) (by omega)  _ (lv_sub hl [0, 3, 4, 1, 5] rfl)
        exact lp_46 (20 + 1) 0  (Nat.zero_le _) (by omega)  _ (lv_sub hl [0, 1, 2, 3, 4] rfl)
      · refine lv_lload_n hx hb dX3_digest_12 rfl (lv_at hl 1 rfl) ?_
        refine lv_ldc2 (v := 31) hx hb hown (hts _ (List.mem_of_getElem? (i := 2) rfl)) dX3_digest_13 ?_
        refine q_lmul (v := (digN (cntV z (atF (sst z) sig)) 1621 i) * 31) hx hb dX3_digest_16 rfl ?_
        refine lv_aload_n hx hb dX3_digest_17 rfl (lv_at hl 2 rfl) ?_
        refine lv_iload_n hx hb dX3_digest_18 rfl (lv_at hl 0 rfl) ?_
        refine q_roV (As := [.int (nI i)]) (rest := [.long ((digN (cntV z (atF (sst z) sig)) 1621 i) * 31)]) ⟨hx, hb, hml, hown, hts⟩ (c_X3_count hM hV (q := i) (by omega)) (cwV 1 hts gX3_digest_X3_count rfl rfl rfl (by decide +kernel) ⟨Nat.le_of_ble_eq_true rfl, Nat.le_of_ble_eq_true rfl⟩) hE hA hP (va_recv hE.K (q_P1 h_x) (ci := 4) (q0 := 0) rfl rfl) rfl hl.1 rfl (Nat.le_of_ble_eq_true rfl) dX3_digest_19 ⟨Nat.zero_le _, Nat.zero_le _⟩ ?_
        refine lv_i2l (v := (cntV z (atF (sst z) sig) i).toInt64) hx hb dX3_digest_22 rfl ?_
        refine q_ladd (v := digN (cntV z (atF (sst z) sig)) 1621 (i + 1)) hx hb dX3_digest_23 rfl ?_
        refine lv_lstore_n (lv' := [(1, .long (digN (cntV z (atF (sst z) sig)) 1621 (i + 1))), (3, .int (nI i)), (0, .ref (ad 0))]) hx hb dX3_digest_24 rfl hl (by decide) rfl (fun ls hl => ?_)
        refine lv_iinc (v := nI (i + 1)) (lv' := [(3, .int (nI (i + 1))), (1, .long (digN (cntV z (atF (sst z) sig)) 1621 (i + 1))), (0, .ref (ad 0))]) hx hb dX3_digest_25 hl (k := 1) rfl (nI_1 _) (by decide) rfl (fun ls hl => ?_)
        refine lv_goto (tgt := 6) hx hb dX3_digest_28 (by decide) ?_
        exact ih_6 (i + 1)  (by omega) (by omega)  _ (lv_sub hl [0, 1, 2] rfl)
  exact lp_6 (7 + 1) 0  (Nat.zero_le _) (by omega)  _ (lv_sub hl [0, 1, 2] rfl)
