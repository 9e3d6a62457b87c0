/-! ===== the reference: what reads only ===== -/
set_option maxHeartbeats 4000000 in
set_option maxRecDepth 100000 in
theorem c_X4_isIn {l : Launch} {g : gT} {x lo hi : Int32} : RO l yX4_isIn wsX4_isIn ({ frames := 0, cells := 0, slots := 0, locals := 0 } : Room) [.int x, .int lo, .int hi] g (fun H => True) (some (.int (bI (lo.toInt ≤ x.toInt ∧ x.toInt ≤ hi.toInt)))) := by
  refine RO.of (cc := cX4_isIn) (maxL := 3) (ret := (some .boolean)) (by decide) rfl (Nat.le_of_ble_eq_true rfl) ?_
  intro p e s m below meth c hx hb hml hr hlocks hown hts hE hF ls hl
  have hown : s.vm.findClass RX4 = some m.cls := hown
  have hA : ∀ q, s.heap.size ≤ q → q_n s.heap q := fun _ h => h
  have hl : lv_has ls 3 [(0, .int x), (1, .int lo), (2, .int hi)] := hl
  refine lv_iload_n hx hb dX4_isIn_0 rfl (lv_at hl 0 rfl) ?_
  refine lv_iload_n hx hb dX4_isIn_1 rfl (lv_at hl 1 rfl) ?_
  refine lv_icmp_lt (tgt := 14) hx hb dX4_isIn_2 (by decide) (fun c_1 => ?_) (fun c_1 => ?_)
  · have c_1 := Int32.lt_iff_toInt_lt.mp c_1
    refine lv_iconst (v := nI 0) hx hb dX4_isIn_14 (by decide) ?_
    exact q_zret hx hb hr hlocks dX4_isIn_15 rfl (bI_f (by omega))
  · have c_1 := mt Int32.lt_iff_toInt_lt.mpr c_1
    refine lv_iload_n hx hb dX4_isIn_5 rfl (lv_at hl 0 rfl) ?_
    refine lv_iload_n hx hb dX4_isIn_6 rfl (lv_at hl 2 rfl) ?_
    refine lv_icmp_gt (tgt := 14) hx hb dX4_isIn_7 (by decide) (fun c_2 => ?_) (fun c_2 => ?_)
    · have c_2 := Int32.lt_iff_toInt_lt.mp c_2
      refine lv_iconst (v := nI 0) hx hb dX4_isIn_14 (by decide) ?_
      exact q_zret hx hb hr hlocks dX4_isIn_15 rfl (bI_f (by omega))
    · have c_2 := mt Int32.lt_iff_toInt_lt.mpr c_2
      refine lv_iconst (v := nI 1) hx hb dX4_isIn_10 (by decide) ?_
      refine lv_goto (tgt := 15) hx hb dX4_isIn_11 (by decide) ?_
      exact q_zret hx hb hr hlocks dX4_isIn_15 rfl (bI_t (by omega))
set_option maxHeartbeats 4000000 in
set_option maxRecDepth 100000 in
theorem c_X4_isCode {l : Launch} {g : gT} {am : Nat → Nat} {th : Int32} {sa : Nat → Int32} {z : sT} (hV : VS z) (hR : RS z sa) {x : Int32} : RO l yX4_isCode wsX4_isCode ({ frames := 1, cells := 0, slots := 0, locals := 22 } : Room) [.ref (am 0), .int x] g (fun H => va_P g.1 vwCl (wMo g am th sa z) H) (some (.int (bI (inR x (sL z))))) := by
  refine RO.of (cc := cX4_isCode) (maxL := 2) (ret := (some .boolean)) (by decide) rfl (Nat.le_of_ble_eq_true rfl) ?_
  intro p e s m below meth c hx hb hml hr hlocks hown hts hE hF ls hl
  have hown : s.vm.findClass RX4 = some m.cls := hown
  have hA : ∀ q, s.heap.size ≤ q → q_n s.heap q := fun _ h => h
  have hP := hF
  have hl : lv_has ls 2 [(0, .ref (am 0)), (1, .int x)] := hl
  have hL := hV.L
  have hn := hV.n
  have h_m : va_at g.1 vwCl (am 0, .inr (5, [.int th, .int (nI (sL z)), .int (nI (sn z)), .ref (am 1), .ref (am 2), .ref (am 3), .ref (am 4), .ref (am 5), .ref (am 6)])) s.heap := hP 0 _ rfl
  have h_1 : va_at g.1 vwCl (am 1, .inl (gI g, 8, .inl (fun j => nI (scd z j)))) s.heap := hP 1 _ rfl
  have h_2 : va_at g.1 vwCl (am 2, .inl (gI g, 8, .inl (fun j => nI (ssr z j)))) s.heap := hP 2 _ rfl
  have h_3 : va_at g.1 vwCl (am 3, .inl (gI g, 8, .inl (fun j => nI (sdl z j)))) s.heap := hP 3 _ rfl
  have h_4 : va_at g.1 vwCl (am 4, .inl (gI g, 8, .inl (fun j => nI (ssd z j)))) s.heap := hP 4 _ rfl
  have h_5 : va_at g.1 vwCl (am 5, .inl (gI g, 96, .inl sa)) s.heap := hP 5 _ rfl
  have h_6 : va_at g.1 vwCl (am 6, .inl (gI g, 20, .inl (sst z))) s.heap := hP 6 _ rfl
  refine lv_iload_n hx hb dX4_isCode_0 rfl (lv_at hl 1 rfl) ?_
  refine lv_iconst (v := nI 0) hx hb dX4_isCode_1 (by decide) ?_
  refine lv_aload_n hx hb dX4_isCode_2 rfl (lv_at hl 0 rfl) ?_
  refine va_get (v := .int (nI (sL z))) (C := RX4) (T := TX4) (N := 9) hx hb hts (q_sub wsX40 6 rfl) hown hE.K (q_P1 h_m) 0 rfl rfl 1 (by decide) (hts _ (List.mem_of_getElem? (i := 1) rfl)) (fun _ h9 => h9) rfl dX4_isCode_3 ?_
  refine lv_iconst (v := nI 1) hx hb dX4_isCode_6 (by decide) ?_
  refine q_isub (v := nI (sL z) - nI 1) hx hb dX4_isCode_7 rfl ?_
  refine q_roS (As := [.int x, .int (nI 0), .int (nI (sL z) - nI 1)]) (rest := []) ⟨hx, hb, hml, hown, hts⟩ (c_X4_isIn (x := x) (lo := nI 0) (hi := nI (sL z) - nI 1)) (va_cwS 3 hts gX4_isCode_X4_isIn rfl rfl rfl (by decide +kernel) ⟨Nat.le_of_ble_eq_true rfl, Nat.le_of_ble_eq_true rfl⟩) hE hA trivial rfl hl.1 rfl (Nat.le_of_ble_eq_true rfl) dX4_isCode_8 ⟨Nat.zero_le _, Nat.zero_le _⟩ ?_
  exact q_zret hx hb hr hlocks dX4_isCode_11 bI_nar (bI_in (by omega))
set_option maxHeartbeats 4000000 in
set_option maxRecDepth 100000 in
theorem c_X4_isHill {l : Launch} {g : gT} {am : Nat → Nat} {th : Int32} {sa : Nat → Int32} {z : sT} (hV : VS z) (hR : RS z sa) {x : Int32} : RO l yX4_isHill wsX4_isHill ({ frames := 1, cells := 0, slots := 0, locals := 22 } : Room) [.ref (am 0), .int x] g (fun H => va_P g.1 vwCl (wMo g am th sa z) H) (some (.int (bI (inR x (sn z))))) := by
  refine RO.of (cc := cX4_isHill) (maxL := 2) (ret := (some .boolean)) (by decide) rfl (Nat.le_of_ble_eq_true rfl) ?_
  intro p e s m below meth c hx hb hml hr hlocks hown hts hE hF ls hl
  have hown : s.vm.findClass RX4 = some m.cls := hown
  have hA : ∀ q, s.heap.size ≤ q → q_n s.heap q := fun _ h => h
  have hP := hF
  have hl : lv_has ls 2 [(0, .ref (am 0)), (1, .int x)] := hl
  have hL := hV.L
  have hn := hV.n
  have h_m : va_at g.1 vwCl (am 0, .inr (5, [.int th, .int (nI (sL z)), .int (nI (sn z)), .ref (am 1), .ref (am 2), .ref (am 3), .ref (am 4), .ref (am 5), .ref (am 6)])) s.heap := hP 0 _ rfl
  have h_1 : va_at g.1 vwCl (am 1, .inl (gI g, 8, .inl (fun j => nI (scd z j)))) s.heap := hP 1 _ rfl
  have h_2 : va_at g.1 vwCl (am 2, .inl (gI g, 8, .inl (fun j => nI (ssr z j)))) s.heap := hP 2 _ rfl
  have h_3 : va_at g.1 vwCl (am 3, .inl (gI g, 8, .inl (fun j => nI (sdl z j)))) s.heap := hP 3 _ rfl
  have h_4 : va_at g.1 vwCl (am 4, .inl (gI g, 8, .inl (fun j => nI (ssd z j)))) s.heap := hP 4 _ rfl
  have h_5 : va_at g.1 vwCl (am 5, .inl (gI g, 96, .inl sa)) s.heap := hP 5 _ rfl
  have h_6 : va_at g.1 vwCl (am 6, .inl (gI g, 20, .inl (sst z))) s.heap := hP 6 _ rfl
  refine lv_iload_n hx hb dX4_isHill_0 rfl (lv_at hl 1 rfl) ?_
  refine lv_iconst (v := nI 0) hx hb dX4_isHill_1 (by decide) ?_
  refine lv_aload_n hx hb dX4_isHill_2 rfl (lv_at hl 0 rfl) ?_
  refine va_get (v := .int (nI (sn z))) (C := RX4) (T := TX4) (N := 9) hx hb hts (q_sub wsX40 6 rfl) hown hE.K (q_P1 h_m) 0 rfl rfl 2 (by decide) (hts _ (List.mem_of_getElem? (i := 1) rfl)) (fun _ h9 => h9) rfl dX4_isHill_3 ?_
  refine lv_iconst (v := nI 1) hx hb dX4_isHill_6 (by decide) ?_
  refine q_isub (v := nI (sn z) - nI 1) hx hb dX4_isHill_7 rfl ?_
  refine q_roS (As := [.int x, .int (nI 0), .int (nI (sn z) - nI 1)]) (rest := []) ⟨hx, hb, hml, hown, hts⟩ (c_X4_isIn (x := x) (lo := nI 0) (hi := nI (sn z) - nI 1)) (va_cwS 3 hts gX4_isHill_X4_isIn rfl rfl rfl (by decide +kernel) ⟨Nat.le_of_ble_eq_true rfl, Nat.le_of_ble_eq_true rfl⟩) hE hA trivial rfl hl.1 rfl (Nat.le_of_ble_eq_true rfl) dX4_isHill_8 ⟨Nat.zero_le _, Nat.zero_le _⟩ ?_
  exact q_zret hx hb hr hlocks dX4_isHill_11 bI_nar (bI_in (by omega))
set_option maxHeartbeats 4000000 in
set_option maxRecDepth 100000 in
theorem c_X4_isTime {l : Launch} {g : gT} {x : Int32} : RO l yX4_isTime wsX4_isTime ({ frames := 1, cells := 0, slots := 0, locals := 22 } : Room) [.int x] g (fun H => True) (some (.int (bI (inR x 1000)))) := by
  refine RO.of (cc := cX4_isTime) (maxL := 1) (ret := (some .boolean)) (by decide) rfl (Nat.le_of_ble_eq_true rfl) ?_
  intro p e s m below meth c hx hb hml hr hlocks hown hts hE hF ls hl
  have hown : s.vm.findClass RX4 = some m.cls := hown
  have hA : ∀ q, s.heap.size ≤ q → q_n s.heap q := fun _ h => h
  have hl : lv_has ls 1 [(0, .int x)] := hl
  refine lv_iload_n hx hb dX4_isTime_0 rfl (lv_at hl 0 rfl) ?_
  refine lv_iconst (v := nI 0) hx hb dX4_isTime_1 (by decide) ?_
  refine lv_sipush (v := nI 999) hx hb dX4_isTime_2 (by decide) ?_
  refine q_roS (As := [.int x, .int (nI 0), .int (nI 999)]) (rest := []) ⟨hx, hb, hml, hown, hts⟩ (c_X4_isIn (x := x) (lo := nI 0) (hi := nI 999)) (va_cwS 3 hts gX4_isTime_X4_isIn rfl rfl rfl (by decide +kernel) ⟨Nat.le_of_ble_eq_true rfl, Nat.le_of_ble_eq_true rfl⟩) hE hA trivial rfl hl.1 rfl (Nat.le_of_ble_eq_true rfl) dX4_isTime_5 ⟨Nat.zero_le _, Nat.zero_le _⟩ ?_
  exact q_zret hx hb hr hlocks dX4_isTime_8 bI_nar (bI_in3 (n := 1000) rfl (by omega))
set_option maxHeartbeats 4000000 in
set_option maxRecDepth 100000 in
theorem c_X4_isStrength {l : Launch} {g : gT} {x : Int32} : RO l yX4_isStrength wsX4_isStrength ({ frames := 1, cells := 0, slots := 0, locals := 22 } : Room) [.int x] g (fun H => True) (some (.int (bI (inB x 1 9)))) := by
  refine RO.of (cc := cX4_isStrength) (maxL := 1) (ret := (some .boolean)) (by decide) rfl (Nat.le_of_ble_eq_true rfl) ?_
  intro p e s m below meth c hx hb hml hr hlocks hown hts hE hF ls hl
  have hown : s.vm.findClass RX4 = some m.cls := hown
  have hA : ∀ q, s.heap.size ≤ q → q_n s.heap q := fun _ h => h
  have hl : lv_has ls 1 [(0, .int x)] := hl
  refine lv_iload_n hx hb dX4_isStrength_0 rfl (lv_at hl 0 rfl) ?_
  refine lv_iconst (v := nI 1) hx hb dX4_isStrength_1 (by decide) ?_
  refine lv_bipush (v := nI 9) hx hb dX4_isStrength_2 (by decide) ?_
  refine q_roS (As := [.int x, .int (nI 1), .int (nI 9)]) (rest := []) ⟨hx, hb, hml, hown, hts⟩ (c_X4_isIn (x := x) (lo := nI 1) (hi := nI 9)) (va_cwS 3 hts gX4_isStrength_X4_isIn rfl rfl rfl (by decide +kernel) ⟨Nat.le_of_ble_eq_true rfl, Nat.le_of_ble_eq_true rfl⟩) hE hA trivial rfl hl.1 rfl (Nat.le_of_ble_eq_true rfl) dX4_isStrength_4 ⟨Nat.zero_le _, Nat.zero_le _⟩ ?_
  exact q_zret hx hb hr hlocks dX4_isStrength_7 bI_nar (bI_in2 (by omega) (by omega))
set_option maxHeartbeats 4000000 in
set_option maxRecDepth 100000 in
theorem c_X4_sign {l : Launch} {g : gT} {x : Int32} : RO l yX4_sign wsX4_sign ({ frames := 0, cells := 0, slots := 0, locals := 0 } : Room) [.int x] g (fun H => True) (some (.int (sgn x))) := by
  refine RO.of (cc := cX4_sign) (maxL := 1) (ret := (some .int)) (by decide) rfl (Nat.le_of_ble_eq_true rfl) ?_
  intro p e s m below meth c hx hb hml hr hlocks hown hts hE hF ls hl
  have hown : s.vm.findClass RX4 = some m.cls := hown
  have hA : ∀ q, s.heap.size ≤ q → q_n s.heap q := fun _ h => h
  have hl : lv_has ls 1 [(0, .int x)] := hl
  refine lv_iload_n hx hb dX4_sign_0 rfl (lv_at hl 0 rfl) ?_
  refine lv_if_le (tgt := 8) hx hb dX4_sign_1 (by decide) (fun c_1 => ?_) (fun c_1 => ?_)
  · refine lv_iload_n hx hb dX4_sign_8 rfl (lv_at hl 0 rfl) ?_
    refine lv_if_ge (tgt := 16) hx hb dX4_sign_9 (by decide) (fun c_2 => ?_) (fun c_2 => ?_)
    · refine lv_iconst (v := nI 0) hx hb dX4_sign_16 (by decide) ?_
      exact q_iret hx hb hr hlocks dX4_sign_17 (by rw [sgn, if_neg (Int32.not_lt.mpr c_1), if_neg (Int32.not_lt.mpr c_2)])
    · refine lv_iconst (v := (-1 : Int32)) hx hb dX4_sign_12 (by decide) ?_
      refine lv_goto (tgt := 17) hx hb dX4_sign_13 (by decide) ?_
      exact q_iret hx hb hr hlocks dX4_sign_17 (by rw [sgn, if_neg (Int32.not_lt.mpr c_1), if_pos (Int32.not_le.mp c_2)])
  · refine lv_iconst (v := nI 1) hx hb dX4_sign_4 (by decide) ?_
    refine lv_goto (tgt := 17) hx hb dX4_sign_5 (by decide) ?_
    exact q_iret hx hb hr hlocks dX4_sign_17 (by rw [sgn, if_pos (Int32.not_le.mp c_1)])
set_option maxHeartbeats 4000000 in
set_option maxRecDepth 100000 in
theorem c_X4_chipOf {l : Launch} {g : gT} {a b : Nat} (ha : a < 16) : RO l yX4_chipOf wsX4_chipOf ({ frames := 1, cells := 0, slots := 0, locals := 20 } : Room) [.int (nI a), .int (nI b)] g (fun H => True) (some (.int (chip a b))) := by
  refine RO.of (cc := cX4_chipOf) (maxL := 2) (ret := (some .int)) (by decide) rfl (Nat.le_of_ble_eq_true rfl) ?_
  intro p e s m below meth c hx hb hml hr hlocks hown hts hE hF ls hl
  have hown : s.vm.findClass RX4 = some m.cls := hown
  have hA : ∀ q, s.heap.size ≤ q → q_n s.heap q := fun _ h => h
  have hl : lv_has ls 2 [(0, .int (nI a)), (1, .int (nI b))] := hl
  refine lv_iload_n hx hb dX4_chipOf_0 rfl (lv_at hl 0 rfl) ?_
  refine lv_iload_n hx hb dX4_chipOf_1 rfl (lv_at hl 1 rfl) ?_
  refine q_iand (v := nI (a &&& b)) hx hb dX4_chipOf_2 (q_and _ _) ?_
  refine q_roS (As := [.int (nI (a &&& b))]) (rest := []) ⟨hx, hb, hml, hown, hts⟩ (c_J6_bitCount_0f7a4 (and16 ha)) (va_cwS 1 hts gX4_chipOf_J6_bitCount_0f7a4 rfl rfl rfl (by decide +kernel) ⟨Nat.le_of_ble_eq_true rfl, Nat.le_of_ble_eq_true rfl⟩) hE hA trivial rfl hl.1 rfl (Nat.le_of_ble_eq_true rfl) dX4_chipOf_3 ⟨Nat.zero_le _, Nat.zero_le _⟩ ?_
  refine lv_iconst (v := nI 2) hx hb dX4_chipOf_6 (by decide) ?_
  refine q_irem (v := nI (pcN (a &&& b) % 2)) hx hb dX4_chipOf_7 (by decide) (q_rem (by have := pcN_le (a &&& b); omega) (by omega) (by omega)) ?_
  refine q_if_ne (tgt := 15) hx hb (by omega) dX4_chipOf_8 (by decide) (fun c_1 => ?_) (fun c_1 => ?_)
  · refine lv_iconst (v := (-1 : Int32)) hx hb dX4_chipOf_15 (by decide) ?_
    exact q_iret hx hb hr hlocks dX4_chipOf_16 (chip_1 c_1)
  · refine lv_iconst (v := nI 1) hx hb dX4_chipOf_11 (by decide) ?_
    refine lv_goto (tgt := 16) hx hb dX4_chipOf_12 (by decide) ?_
    exact q_iret hx hb hr hlocks dX4_chipOf_16 (chip_0 c_1)
set_option maxHeartbeats 4000000 in
set_option maxRecDepth 100000 in
theorem c_X4_beginOf {l : Launch} {g : gT} {am : Nat → Nat} {th : Int32} {sa : Nat → Int32} {z : sT} (hV : VS z) (hR : RS z sa) {k w : Nat} (hk_ : k < sn z) : RO l yX4_beginOf wsX4_beginOf ({ frames := 0, cells := 0, slots := 0, locals := 0 } : Room) [.ref (am 0), .int (nI k), .int (nI w)] g (fun H => va_P g.1 vwCl (wMo g am th sa z) H) (some (.int (nI (w * sL z + sdl z k)))) := by
  refine RO.of (cc := cX4_beginOf) (maxL := 3) (ret := (some .int)) (by decide) rfl (Nat.le_of_ble_eq_true rfl) ?_
  intro p e s m below meth c hx hb hml hr hlocks hown hts hE hF ls hl
  have hown : s.vm.findClass RX4 = some m.cls := hown
  have hA : ∀ q, s.heap.size ≤ q → q_n s.heap q := fun _ h => h
  have hP := hF
  have hl : lv_has ls 3 [(0, .ref (am 0)), (1, .int (nI k)), (2, .int (nI w))] := hl
  have hL := hV.L
  have hn := hV.n
  have h_m : va_at g.1 vwCl (am 0, .inr (5, [.int th, .int (nI (sL z)), .int (nI (sn z)), .ref (am 1), .ref (am 2), .ref (am 3), .ref (am 4), .ref (am 5), .ref (am 6)])) s.heap := hP 0 _ rfl
  have h_1 : va_at g.1 vwCl (am 1, .inl (gI g, 8, .inl (fun j => nI (scd z j)))) s.heap := hP 1 _ rfl
  have h_2 : va_at g.1 vwCl (am 2, .inl (gI g, 8, .inl (fun j => nI (ssr z j)))) s.heap := hP 2 _ rfl
  have h_3 : va_at g.1 vwCl (am 3, .inl (gI g, 8, .inl (fun j => nI (sdl z j)))) s.heap := hP 3 _ rfl
  have h_4 : va_at g.1 vwCl (am 4, .inl (gI g, 8, .inl (fun j => nI (ssd z j)))) s.heap := hP 4 _ rfl
  have h_5 : va_at g.1 vwCl (am 5, .inl (gI g, 96, .inl sa)) s.heap := hP 5 _ rfl
  have h_6 : va_at g.1 vwCl (am 6, .inl (gI g, 20, .inl (sst z))) s.heap := hP 6 _ rfl
  refine lv_aload_n hx hb dX4_beginOf_0 rfl (lv_at hl 0 rfl) ?_
  refine va_get (v := .ref (am 3)) (C := RX4) (T := TX4) (N := 9) hx hb hts (q_sub wsX40 3 rfl) hown hE.K (q_P1 h_m) 0 rfl rfl 5 (by decide) (hts _ (List.mem_of_getElem? (i := 1) rfl)) (fun _ h9 => h9) rfl dX4_beginOf_1 ?_
  refine lv_iload_n hx hb dX4_beginOf_4 rfl (lv_at hl 1 rfl) ?_
  refine q_iald (v := nI (sdl z k)) hx hb hE h_3 (by omega) (by omega) dX4_beginOf_5 rfl ?_
  refine lv_aload_n hx hb dX4_beginOf_6 rfl (lv_at hl 0 rfl) ?_
  refine va_get (v := .int (nI (sL z))) (C := RX4) (T := TX4) (N := 9) hx hb hts (q_sub wsX40 3 rfl) hown hE.K (q_P1 h_m) 0 rfl rfl 1 (by decide) (hts _ (List.mem_of_getElem? (i := 2) rfl)) (fun _ h9 => h9) rfl dX4_beginOf_7 ?_
  refine lv_iload_n hx hb dX4_beginOf_10 rfl (lv_at hl 2 rfl) ?_
  refine q_imul (v := nI ((sL z) * w)) hx hb dX4_beginOf_11 (pk_mul _ _) ?_
  refine q_iadd (v := nI (sdl z k + (sL z) * w)) hx hb dX4_beginOf_12 (nI_add _ _) ?_
  exact q_iret hx hb hr hlocks dX4_beginOf_13 beg_eq
set_option maxHeartbeats 4000000 in
set_option maxRecDepth 100000 in
theorem c_X4_signal {l : Launch} {g : gT} {am : Nat → Nat} {th : Int32} {sa : Nat → Int32} {z : sT} (hV : VS z) (hR : RS z sa) {k t : Nat} (hk_ : k < sn z) (ht : t < 2000) : RO l yX4_signal wsX4_signal ({ frames := 2, cells := 0, slots := 0, locals := 41 } : Room) [.ref (am 0), .int (nI k), .int (nI t)] g (fun H => va_P g.1 vwCl (wMo g am th sa z) H) (some (.int (sgl z k t))) := by
  refine RO.of (cc := cX4_signal) (maxL := 4) (ret := (some .int)) (by decide) rfl (Nat.le_of_ble_eq_true rfl) ?_
  intro p e s m below meth c hx hb hml hr hlocks hown hts hE hF ls hl
  have hown : s.vm.findClass RX4 = some m.cls := hown
  have hA : ∀ q, s.heap.size ≤ q → q_n s.heap q := fun _ h => h
  have hP := hF
  have hl : lv_has ls 4 [(0, .ref (am 0)), (1, .int (nI k)), (2, .int (nI t))] := hl
  have hL := hV.L
  have hn := hV.n
  have h_m : va_at g.1 vwCl (am 0, .inr (5, [.int th, .int (nI (sL z)), .int (nI (sn z)), .ref (am 1), .ref (am 2), .ref (am 3), .ref (am 4), .ref (am 5), .ref (am 6)])) s.heap := hP 0 _ rfl
  have h_1 : va_at g.1 vwCl (am 1, .inl (gI g, 8, .inl (fun j => nI (scd z j)))) s.heap := hP 1 _ rfl
  have h_2 : va_at g.1 vwCl (am 2, .inl (gI g, 8, .inl (fun j => nI (ssr z j)))) s.heap := hP 2 _ rfl
  have h_3 : va_at g.1 vwCl (am 3, .inl (gI g, 8, .inl (fun j => nI (sdl z j)))) s.heap := hP 3 _ rfl
  have h_4 : va_at g.1 vwCl (am 4, .inl (gI g, 8, .inl (fun j => nI (ssd z j)))) s.heap := hP 4 _ rfl
  have h_5 : va_at g.1 vwCl (am 5, .inl (gI g, 96, .inl sa)) s.heap := hP 5 _ rfl
  have h_6 : va_at g.1 vwCl (am 6, .inl (gI g, 20, .inl (sst z))) s.heap := hP 6 _ rfl
  have hb9 := hV.h hk_
  refine lv_iload_n hx hb dX4_signal_0 rfl (lv_at hl 2 rfl) ?_
  refine lv_aload_n hx hb dX4_signal_1 rfl (lv_at hl 0 rfl) ?_
  refine va_get (v := .ref (am 3)) (C := RX4) (T := TX4) (N := 9) hx hb hts (q_sub wsX40 18 rfl) hown hE.K (q_P1 h_m) 0 rfl rfl 5 (by decide) (hts _ (List.mem_of_getElem? (i := 1) rfl)) (fun _ h9 => h9) rfl dX4_signal_2 ?_
  refine lv_iload_n hx hb dX4_signal_5 rfl (lv_at hl 1 rfl) ?_
  refine q_iald (v := nI (sdl z k)) hx hb hE h_3 (by omega) (by omega) dX4_signal_6 rfl ?_
  refine q_isub (v := nI t - nI (sdl z k)) hx hb dX4_signal_7 rfl ?_
  refine lv_istore_n (lv' := [(3, .int (nI t - nI (sdl z k))), (0, .ref (am 0)), (1, .int (nI k)), (2, .int (nI t))]) hx hb dX4_signal_8 rfl hl (by decide) rfl (fun ls hl => ?_)
  refine lv_iload_n hx hb dX4_signal_9 rfl (lv_at hl 0 rfl) ?_
  refine lv_if_lt (tgt := 28) hx hb dX4_signal_10 (by decide) (fun c_a => ?_) (fun c_a => ?_)
  · have c_a := (sub_lt0 (by omega) (by omega)).mp c_a
    refine lv_iconst (v := nI 0) hx hb dX4_signal_28 (by decide) ?_
    exact q_iret hx hb hr hlocks dX4_signal_29 (by first | exact sgl_lo c_a | exact sgl_hi c_b)
  · have c_a := mt (sub_lt0 (by omega) (by omega)).mpr c_a
    have e3 : nI t - nI (sdl z k) = nI (t - sdl z k) := pk_sub (by omega)
    rw [e3] at hl
    refine lv_iload_n hx hb dX4_signal_13 rfl (lv_at hl 0 rfl) ?_
    refine lv_aload_n hx hb dX4_signal_14 rfl (lv_at hl 1 rfl) ?_
    refine va_get (v := .int (nI (sL z))) (C := RX4) (T := TX4) (N := 9) hx hb hts (q_sub wsX40 18 rfl) hown hE.K (q_P1 h_m) 0 rfl rfl 1 (by decide) (hts _ (List.mem_of_getElem? (i := 2) rfl)) (fun _ h9 => h9) rfl dX4_signal_15 ?_
    refine lv_aload_n hx hb dX4_signal_18 rfl (lv_at hl 1 rfl) ?_
    refine va_get (v := .ref (am 4)) (C := RX4) (T := TX4) (N := 9) hx hb hts (q_sub wsX40 18 rfl) hown hE.K (q_P1 h_m) 0 rfl rfl 6 (by decide) (hts _ (List.mem_of_getElem? (i := 3) rfl)) (fun _ h9 => h9) rfl dX4_signal_19 ?_
    refine lv_iload_n hx hb dX4_signal_22 rfl (lv_at hl 2 rfl) ?_
    refine q_iald (v := nI (ssd z k)) hx hb hE h_4 (by omega) (by omega) dX4_signal_23 rfl ?_
    refine q_imul (v := nI ((sL z) * (ssd z k))) hx hb dX4_signal_24 (pk_mul _ _) ?_
    refine q_icmp_lt (tgt := 30) hx hb (by omega) (by have := Nat.mul_le_mul hL.2 hb9.2.2.2; omega) dX4_signal_25 (by decide) (fun c_b => ?_) (fun c_b => ?_)
    · have hq := sgl_w c_b
      have hm : ((t - sdl z k) % sL z) < 16 := Nat.lt_of_lt_of_le (Nat.mod_lt _ (by omega)) hL.2
      refine lv_aload_n hx hb dX4_signal_30 rfl (lv_at hl 1 rfl) ?_
      refine va_get (v := .ref (am 2)) (C := RX4) (T := TX4) (N := 9) hx hb hts (q_sub wsX40 18 rfl) hown hE.K (q_P1 h_m) 0 rfl rfl 4 (by decide) (hts _ (List.mem_of_getElem? (i := 4) rfl)) (fun _ h9 => h9) rfl dX4_signal_31 ?_
      refine lv_iload_n hx hb dX4_signal_34 rfl (lv_at hl 2 rfl) ?_
      refine q_iald (v := nI (ssr z k)) hx hb hE h_2 (by omega) (by omega) dX4_signal_35 rfl ?_
      refine lv_aload_n hx hb dX4_signal_36 rfl (lv_at hl 1 rfl) ?_
      refine va_get (v := .ref (am 5)) (C := RX4) (T := TX4) (N := 9) hx hb hts (q_sub wsX40 18 rfl) hown hE.K (q_P1 h_m) 0 rfl rfl 7 (by decide) (hts _ (List.mem_of_getElem? (i := 5) rfl)) (fun _ h9 => h9) rfl dX4_signal_37 ?_
      refine lv_bipush (v := nI 12) hx hb dX4_signal_40 (by decide) ?_
      refine lv_iload_n hx hb dX4_signal_42 rfl (lv_at hl 2 rfl) ?_
      refine q_imul (v := nI (12 * k)) hx hb dX4_signal_43 (pk_mul _ _) ?_
      refine lv_iload_n hx hb dX4_signal_44 rfl (lv_at hl 0 rfl) ?_
      refine lv_aload_n hx hb dX4_signal_45 rfl (lv_at hl 1 rfl) ?_
      refine va_get (v := .int (nI (sL z))) (C := RX4) (T := TX4) (N := 9) hx hb hts (q_sub wsX40 18 rfl) hown hE.K (q_P1 h_m) 0 rfl rfl 1 (by decide) (hts _ (List.mem_of_getElem? (i := 2) rfl)) (fun _ h9 => h9) rfl dX4_signal_46 ?_
      refine q_idiv (v := nI ((t - sdl z k) / sL z)) hx hb dX4_signal_49 (q_ne0 (by omega) (by omega)) (pk_div (by omega) (by omega) (by omega)) ?_
      refine q_iadd (v := nI (12 * k + (t - sdl z k) / sL z)) hx hb dX4_signal_50 (nI_add _ _) ?_
      refine q_iald (v := swd z k ((t - sdl z k) / sL z)) hx hb hE h_5 (by omega) (by omega) dX4_signal_51 (hR k hk_ _ hq) ?_
      refine q_imul (v := (nI (ssr z k)) * (swd z k ((t - sdl z k) / sL z))) hx hb dX4_signal_52 rfl ?_
      refine lv_aload_n hx hb dX4_signal_53 rfl (lv_at hl 1 rfl) ?_
      refine va_get (v := .ref (am 1)) (C := RX4) (T := TX4) (N := 9) hx hb hts (q_sub wsX40 18 rfl) hown hE.K (q_P1 h_m) 0 rfl rfl 3 (by decide) (hts _ (List.mem_of_getElem? (i := 6) rfl)) (fun _ h9 => h9) rfl dX4_signal_54 ?_
      refine lv_iload_n hx hb dX4_signal_57 rfl (lv_at hl 2 rfl) ?_
      refine q_iald (v := nI (scd z k)) hx hb hE h_1 (by omega) (by omega) dX4_signal_58 rfl ?_
      refine lv_iload_n hx hb dX4_signal_59 rfl (lv_at hl 0 rfl) ?_
      refine lv_aload_n hx hb dX4_signal_60 rfl (lv_at hl 1 rfl) ?_
      refine va_get (v := .int (nI (sL z))) (C := RX4) (T := TX4) (N := 9) hx hb hts (q_sub wsX40 18 rfl) hown hE.K (q_P1 h_m) 0 rfl rfl 1 (by decide) (hts _ (List.mem_of_getElem? (i := 2) rfl)) (fun _ h9 => h9) rfl dX4_signal_61 ?_
      refine q_irem (v := nI ((t - sdl z k) % sL z)) hx hb dX4_signal_64 (q_ne0 (by omega) (by omega)) (q_rem (by omega) (by omega) (by omega)) ?_
      refine q_roS (As := [.int (nI (scd z k)), .int (nI ((t - sdl z k) % sL z))]) (rest := [.int ((nI (ssr z k)) * (swd z k ((t - sdl z k) / sL z)))]) ⟨hx, hb, hml, hown, hts⟩ (c_X4_chipOf (a := scd z k) (b := ((t - sdl z k) % sL z)) (by omega)) (va_cwS 2 hts gX4_signal_X4_chipOf rfl rfl rfl (by decide +kernel) ⟨Nat.le_of_ble_eq_true rfl, Nat.le_of_ble_eq_true rfl⟩) hE hA trivial rfl hl.1 rfl (Nat.le_of_ble_eq_true rfl) dX4_signal_65 ⟨Nat.zero_le _, Nat.zero_le _⟩ ?_
      refine q_imul (v := ((nI (ssr z k)) * (swd z k ((t - sdl z k) / sL z))) * (chip (scd z k) ((t - sdl z k) % sL z))) hx hb dX4_signal_68 rfl ?_
      exact q_iret hx hb hr hlocks dX4_signal_69 (sgl_in (by omega) c_b)
    · refine lv_iconst (v := nI 0) hx hb dX4_signal_28 (by decide) ?_
      exact q_iret hx hb hr hlocks dX4_signal_29 (by first | exact sgl_lo c_a | exact sgl_hi c_b)
set_option maxHeartbeats 4000000 in
set_option maxRecDepth 100000 in
theorem c_X4_skyAt {l : Launch} {g : gT} {am : Nat → Nat} {th : Int32} {sa : Nat → Int32} {z : sT} (hV : VS z) (hR : RS z sa) {t : Nat} (ht : t < 2000) : RO l yX4_skyAt wsX4_skyAt ({ frames := 3, cells := 0, slots := 0, locals := 64 } : Room) [.ref (am 0), .int (nI t)] g (fun H => va_P g.1 vwCl (wMo g am th sa z) H) (some (.int (kM z t))) := by
  refine RO.of (cc := cX4_skyAt) (maxL := 4) (ret := (some .int)) (by decide) rfl (Nat.le_of_ble_eq_true rfl) ?_
  intro p e s m below meth c hx hb hml hr hlocks hown hts hE hF ls hl
  have hown : s.vm.findClass RX4 = some m.cls := hown
  have hA : ∀ q, s.heap.size ≤ q → q_n s.heap q := fun _ h => h
  have hP := hF
  have hl : lv_has ls 4 [(0, .ref (am 0)), (1, .int (nI t))] := hl
  have hL := hV.L
  have hn := hV.n
  have h_m : va_at g.1 vwCl (am 0, .inr (5, [.int th, .int (nI (sL z)), .int (nI (sn z)), .ref (am 1), .ref (am 2), .ref (am 3), .ref (am 4), .ref (am 5), .ref (am 6)])) s.heap := hP 0 _ rfl
  have h_1 : va_at g.1 vwCl (am 1, .inl (gI g, 8, .inl (fun j => nI (scd z j)))) s.heap := hP 1 _ rfl
  have h_2 : va_at g.1 vwCl (am 2, .inl (gI g, 8, .inl (fun j => nI (ssr z j)))) s.heap := hP 2 _ rfl
  have h_3 : va_at g.1 vwCl (am 3, .inl (gI g, 8, .inl (fun j => nI (sdl z j)))) s.heap := hP 3 _ rfl
  have h_4 : va_at g.1 vwCl (am 4, .inl (gI g, 8, .inl (fun j => nI (ssd z j)))) s.heap := hP 4 _ rfl
  have h_5 : va_at g.1 vwCl (am 5, .inl (gI g, 96, .inl sa)) s.heap := hP 5 _ rfl
  have h_6 : va_at g.1 vwCl (am 6, .inl (gI g, 20, .inl (sst z))) s.heap := hP 6 _ rfl
  refine lv_aload_n hx hb dX4_skyAt_0 rfl (lv_at hl 0 rfl) ?_
  refine va_get (v := .ref (am 6)) (C := RX4) (T := TX4) (N := 9) hx hb hts (q_sub wsX40 24 rfl) hown hE.K (q_P1 h_m) 0 rfl rfl 8 (by decide) (hts _ (List.mem_of_getElem? (i := 1) rfl)) (fun _ h9 => h9) rfl dX4_skyAt_1 ?_
  refine lv_iload_n hx hb dX4_skyAt_4 rfl (lv_at hl 1 rfl) ?_
  refine lv_bipush (v := nI 20) hx hb dX4_skyAt_5 (by decide) ?_
  refine q_irem (v := nI (t % 20)) hx hb dX4_skyAt_7 (by decide) (q_rem (by omega) (by omega) (by omega)) ?_
  refine q_iald (v := (sst z) (t % 20)) hx hb hE h_6 (by omega) (by omega) dX4_skyAt_8 rfl ?_
  refine lv_istore_n (lv' := [(2, .int ((sst z) (t % 20))), (0, .ref (am 0)), (1, .int (nI t))]) hx hb dX4_skyAt_9 rfl hl (by decide) rfl (fun ls hl => ?_)
  refine lv_iconst (v := nI 0) hx hb dX4_skyAt_10 (by decide) ?_
  refine lv_istore_n (lv' := [(3, .int (nI 0)), (2, .int ((sst z) (t % 20))), (0, .ref (am 0)), (1, .int (nI t))]) hx hb dX4_skyAt_11 rfl hl (by decide) rfl (fun ls hl => ?_)
  have lp_12 : ∀ (n_ i : Nat) , i ≤ sn z → sn z + 1 ≤ i + n_ → ∀ (ls : Array Slot), lv_has ls 4 [(3, .int (nI i)), (2, .int (skM z t i)), (0, .ref (am 0)), (1, .int (nI t))] → W p l e ({ frames := 3, cells := 0, slots := 0, locals := 64 } : Room) s m ([.ref (am 0), .int (nI t)] : List Value).toArray below meth c s.heap [] 0 0 (MQ below (q_Q (some (.int (kM z t)))) ([.ref (am 0), .int (nI t)] : List Value).toArray s 0 0 (fun _ => False)) (F0 m 12 ls []) := by
    intro n_
    induction n_ with
    | zero => intro i  hi_ hn_; exact absurd hn_ (by omega)
    | succ n_ ih_12 =>
      intro i  hi_i hn_i  ls hl
      refine lv_iload_n hx hb dX4_skyAt_12 rfl (lv_at hl 0 rfl) ?_
      refine lv_aload_n hx hb dX4_skyAt_13 rfl (lv_at hl 2 rfl) ?_
      refine va_get (v := .int (nI (sn z))) (C := RX4) (T := TX4) (N := 9) hx hb hts (q_sub wsX40 24 rfl) hown hE.K (q_P1 h_m) 0 rfl rfl 2 (by decide) (hts _ (List.mem_of_getElem? (i := 2) rfl)) (fun _ h9 => h9) rfl dX4_skyAt_14 ?_
      refine q_icmp_ge (tgt := 35) hx hb (by omega) (by omega) dX4_skyAt_17 (by decide) (fun c_1 => ?_) (fun c_1 => ?_)
      · refine lv_iload_n hx hb dX4_skyAt_35 rfl (lv_at hl 1 rfl) ?_
        exact q_iret hx hb hr hlocks dX4_skyAt_36 (by rw [show i = sn z by omega]; rfl)
      · refine lv_iload_n hx hb dX4_skyAt_20 rfl (lv_at hl 1 rfl) ?_
        refine lv_aload_n hx hb dX4_skyAt_21 rfl (lv_at hl 2 rfl) ?_
        refine lv_iload_n hx hb dX4_skyAt_22 rfl (lv_at hl 0 rfl) ?_
        refine lv_iload_n hx hb dX4_skyAt_23 rfl (lv_at hl 3 rfl) ?_
        refine q_roV (As := [.int (nI i), .int (nI t)]) (rest := [.int (skM z t i)]) ⟨hx, hb, hml, hown, hts⟩ (c_X4_signal hV hR (k := i) (t := t) (by omega) (by omega)) (cwV 2 hts gX4_skyAt_X4_signal rfl rfl rfl (by decide +kernel) ⟨Nat.le_of_ble_eq_true rfl, Nat.le_of_ble_eq_true rfl⟩) hE hA hP (va_recv hE.K (q_P1 h_m) (ci := 5) (q0 := 0) rfl rfl) rfl hl.1 rfl (Nat.le_of_ble_eq_true rfl) dX4_skyAt_24 ⟨Nat.zero_le _, Nat.zero_le _⟩ ?_
        refine q_iadd (v := skM z t (i + 1)) hx hb dX4_skyAt_27 rfl ?_
        refine lv_istore_n (lv' := [(2, .int (skM z t (i + 1))), (3, .int (nI i)), (0, .ref (am 0)), (1, .int (nI t))]) hx hb dX4_skyAt_28 rfl hl (by decide) rfl (fun ls hl => ?_)
        refine lv_iinc (v := nI (i + 1)) (lv' := [(3, .int (nI (i + 1))), (2, .int (skM z t (i + 1))), (0, .ref (am 0)), (1, .int (nI t))]) hx hb dX4_skyAt_29 hl (k := 1) rfl (nI_1 _) (by decide) rfl (fun ls hl => ?_)
        refine lv_goto (tgt := 12) hx hb dX4_skyAt_32 (by decide) ?_
        exact ih_12 (i + 1)  (by omega) (by omega)  _ (lv_sub hl [0, 1, 2, 3] rfl)
  exact lp_12 (sn z + 1) 0  (Nat.zero_le _) (by omega)  _ (lv_sub hl [0, 1, 2, 3] rfl)
set_option maxHeartbeats 4000000 in
set_option maxRecDepth 100000 in
theorem c_X4_heard {l : Launch} {g : gT} {am : Nat → Nat} {th : Int32} {sa : Nat → Int32} {z : sT} (hV : VS z) (hR : RS z sa) {a t : Nat} (ha : a < 16) (ht : t < 1900) : RO l yX4_heard wsX4_heard ({ frames := 4, cells := 0, slots := 0, locals := 87 } : Room) [.ref (am 0), .int (nI a), .int (nI t)] g (fun H => va_P g.1 vwCl (wMo g am th sa z) H) (some (.int (hearF (sL z) (kM z) a t))) := by
  refine RO.of (cc := cX4_heard) (maxL := 5) (ret := (some .int)) (by decide) rfl (Nat.le_of_ble_eq_true rfl) ?_
  intro p e s m below meth c hx hb hml hr hlocks hown hts hE hF ls hl
  have hown : s.vm.findClass RX4 = some m.cls := hown
  have hA : ∀ q, s.heap.size ≤ q → q_n s.heap q := fun _ h => h
  have hP := hF
  have hl : lv_has ls 5 [(0, .ref (am 0)), (1, .int (nI a)), (2, .int (nI t))] := hl
  have hL := hV.L
  have hn := hV.n
  have h_m : va_at g.1 vwCl (am 0, .inr (5, [.int th, .int (nI (sL z)), .int (nI (sn z)), .ref (am 1), .ref (am 2), .ref (am 3), .ref (am 4), .ref (am 5), .ref (am 6)])) s.heap := hP 0 _ rfl
  have h_1 : va_at g.1 vwCl (am 1, .inl (gI g, 8, .inl (fun j => nI (scd z j)))) s.heap := hP 1 _ rfl
  have h_2 : va_at g.1 vwCl (am 2, .inl (gI g, 8, .inl (fun j => nI (ssr z j)))) s.heap := hP 2 _ rfl
  have h_3 : va_at g.1 vwCl (am 3, .inl (gI g, 8, .inl (fun j => nI (sdl z j)))) s.heap := hP 3 _ rfl
  have h_4 : va_at g.1 vwCl (am 4, .inl (gI g, 8, .inl (fun j => nI (ssd z j)))) s.heap := hP 4 _ rfl
  have h_5 : va_at g.1 vwCl (am 5, .inl (gI g, 96, .inl sa)) s.heap := hP 5 _ rfl
  have h_6 : va_at g.1 vwCl (am 6, .inl (gI g, 20, .inl (sst z))) s.heap := hP 6 _ rfl
  refine lv_iconst (v := nI 0) hx hb dX4_heard_0 (by decide) ?_
  refine lv_istore_n (lv' := [(3, .int (nI 0)), (0, .ref (am 0)), (1, .int (nI a)), (2, .int (nI t))]) hx hb dX4_heard_1 rfl hl (by decide) rfl (fun ls hl => ?_)
  refine lv_iconst (v := nI 0) hx hb dX4_heard_2 (by decide) ?_
  refine lv_istore (lv' := [(4, .int (nI 0)), (3, .int (nI 0)), (0, .ref (am 0)), (1, .int (nI a)), (2, .int (nI t))]) hx hb dX4_heard_3 hl (by decide) rfl (fun ls hl => ?_)
  have lp_5 : ∀ (n_ i : Nat) , i ≤ sL z → sL z + 1 ≤ i + n_ → ∀ (ls : Array Slot), lv_has ls 5 [(4, .int (nI i)), (3, .int (sumI (fun k => kM z (t + k) * chip a k) i)), (0, .ref (am 0)), (1, .int (nI a)), (2, .int (nI t))] → W p l e ({ frames := 4, cells := 0, slots := 0, locals := 87 } : Room) s m ([.ref (am 0), .int (nI a), .int (nI t)] : List Value).toArray below meth c s.heap [] 0 0 (MQ below (q_Q (some (.int (hearF (sL z) (kM z) a t)))) ([.ref (am 0), .int (nI a), .int (nI t)] : List Value).toArray s 0 0 (fun _ => False)) (F0 m 5 ls []) := by
    intro n_
    induction n_ with
    | zero => intro i  hi_ hn_; exact absurd hn_ (by omega)
    | succ n_ ih_5 =>
      intro i  hi_i hn_i  ls hl
      refine lv_iload hx hb dX4_heard_5 (lv_at hl 0 rfl) ?_
      refine lv_aload_n hx hb dX4_heard_7 rfl (lv_at hl 2 rfl) ?_
      refine va_get (v := .int (nI (sL z))) (C := RX4) (T := TX4) (N := 9) hx hb hts (q_sub wsX40 28 rfl) hown hE.K (q_P1 h_m) 0 rfl rfl 1 (by decide) (hts _ (List.mem_of_getElem? (i := 1) rfl)) (fun _ h9 => h9) rfl dX4_heard_8 ?_
      refine q_icmp_ge (tgt := 38) hx hb (by omega) (by omega) dX4_heard_11 (by decide) (fun c_1 => ?_) (fun c_1 => ?_)
      · refine lv_iload_n hx hb dX4_heard_38 rfl (lv_at hl 1 rfl) ?_
        exact q_iret hx hb hr hlocks dX4_heard_39 (by rw [show i = sL z by omega]; rfl)
      · refine lv_iload_n hx hb dX4_heard_14 rfl (lv_at hl 1 rfl) ?_
        refine lv_aload_n hx hb dX4_heard_15 rfl (lv_at hl 2 rfl) ?_
        refine lv_iload_n hx hb dX4_heard_16 rfl (lv_at hl 4 rfl) ?_
        refine lv_iload hx hb dX4_heard_17 (lv_at hl 0 rfl) ?_
        refine q_iadd (v := nI (t + i)) hx hb dX4_heard_19 (nI_add _ _) ?_
        refine q_roV (As := [.int (nI (t + i))]) (rest := [.int (sumI (fun k => kM z (t + k) * chip a k) i)]) ⟨hx, hb, hml, hown, hts⟩ (c_X4_skyAt hV hR (t := t + i) (by omega)) (cwV 1 hts gX4_heard_X4_skyAt rfl rfl rfl (by decide +kernel) ⟨Nat.le_of_ble_eq_true rfl, Nat.le_of_ble_eq_true rfl⟩) hE hA hP (va_recv hE.K (q_P1 h_m) (ci := 5) (q0 := 0) rfl rfl) rfl hl.1 rfl (Nat.le_of_ble_eq_true rfl) dX4_heard_20 ⟨Nat.zero_le _, Nat.zero_le _⟩ ?_
        refine lv_iload_n hx hb dX4_heard_23 rfl (lv_at hl 3 rfl) ?_
        refine lv_iload hx hb dX4_heard_24 (lv_at hl 0 rfl) ?_
        refine q_roS (As := [.int (nI a), .int (nI i)]) (rest := [.int (kM z (t + i)), .int (sumI (fun k => kM z (t + k) * chip a k) i)]) ⟨hx, hb, hml, hown, hts⟩ (c_X4_chipOf (a := a) (b := i) ha) (va_cwS 2 hts gX4_heard_X4_chipOf rfl rfl rfl (by decide +kernel) ⟨Nat.le_of_ble_eq_true rfl, Nat.le_of_ble_eq_true rfl⟩) hE hA trivial rfl hl.1 rfl (Nat.le_of_ble_eq_true rfl) dX4_heard_26 ⟨Nat.zero_le _, Nat.zero_le _⟩ ?_
        refine q_imul (v := (kM z (t + i)) * (chip a i)) hx hb dX4_heard_29 rfl ?_
        refine q_iadd (v := sumI (fun k => kM z (t + k) * chip a k) (i + 1)) hx hb dX4_heard_30 rfl ?_
        refine lv_istore_n (lv' := [(3, .int (sumI (fun k => kM z (t + k) * chip a k) (i + 1))), (4, .int (nI i)), (0, .ref (am 0)), (1, .int (nI a)), (2, .int (nI t))]) hx hb dX4_heard_31 rfl hl (by decide) rfl (fun ls hl => ?_)
        refine lv_iinc (v := nI (i + 1)) (lv' := [(4, .int (nI (i + 1))), (3, .int (sumI (fun k => kM z (t + k) * chip a k) (i + 1))), (0, .ref (am 0)), (1, .int (nI a)), (2, .int (nI t))]) hx hb dX4_heard_32 hl (k := 1) rfl (nI_1 _) (by decide) rfl (fun ls hl => ?_)
        refine lv_goto (tgt := 5) hx hb dX4_heard_35 (by decide) ?_
        exact ih_5 (i + 1)  (by omega) (by omega)  _ (lv_sub hl [0, 1, 2, 3, 4] rfl)
  exact lp_5 (sL z + 1) 0  (Nat.zero_le _) (by omega)  _ (lv_sub hl [0, 1, 2, 3, 4] rfl)
set_option maxHeartbeats 4000000 in
set_option maxRecDepth 100000 in
theorem c_X4_heardOf {l : Launch} {g : gT} {am : Nat → Nat} {th : Int32} {sa : Nat → Int32} {z : sT} (hV : VS z) (hR : RS z sa) {k w : Nat} (hk_ : k < sn z) (hw : w < ssd z k) : RO l yX4_heardOf wsX4_heardOf ({ frames := 5, cells := 0, slots := 0, locals := 111 } : Room) [.ref (am 0), .int (nI k), .int (nI w)] g (fun H => va_P g.1 vwCl (wMo g am th sa z) H) (some (.int (hearF (sL z) (kM z) (scd z k) (w * sL z + sdl z k)))) := by
  refine RO.of (cc := cX4_heardOf) (maxL := 3) (ret := (some .int)) (by decide) rfl (Nat.le_of_ble_eq_true rfl) ?_
  intro p e s m below meth c hx hb hml hr hlocks hown hts hE hF ls hl
  have hown : s.vm.findClass RX4 = some m.cls := hown
  have hA : ∀ q, s.heap.size ≤ q → q_n s.heap q := fun _ h => h
  have hP := hF
  have hl : lv_has ls 3 [(0, .ref (am 0)), (1, .int (nI k)), (2, .int (nI w))] := hl
  have hL := hV.L
  have hn := hV.n
  have h_m : va_at g.1 vwCl (am 0, .inr (5, [.int th, .int (nI (sL z)), .int (nI (sn z)), .ref (am 1), .ref (am 2), .ref (am 3), .ref (am 4), .ref (am 5), .ref (am 6)])) s.heap := hP 0 _ rfl
  have h_1 : va_at g.1 vwCl (am 1, .inl (gI g, 8, .inl (fun j => nI (scd z j)))) s.heap := hP 1 _ rfl
  have h_2 : va_at g.1 vwCl (am 2, .inl (gI g, 8, .inl (fun j => nI (ssr z j)))) s.heap := hP 2 _ rfl
  have h_3 : va_at g.1 vwCl (am 3, .inl (gI g, 8, .inl (fun j => nI (sdl z j)))) s.heap := hP 3 _ rfl
  have h_4 : va_at g.1 vwCl (am 4, .inl (gI g, 8, .inl (fun j => nI (ssd z j)))) s.heap := hP 4 _ rfl
  have h_5 : va_at g.1 vwCl (am 5, .inl (gI g, 96, .inl sa)) s.heap := hP 5 _ rfl
  have h_6 : va_at g.1 vwCl (am 6, .inl (gI g, 20, .inl (sst z))) s.heap := hP 6 _ rfl
  have hb9 := hV.h hk_
  refine lv_aload_n hx hb dX4_heardOf_0 rfl (lv_at hl 0 rfl) ?_
  refine lv_aload_n hx hb dX4_heardOf_1 rfl (lv_at hl 0 rfl) ?_
  refine va_get (v := .ref (am 1)) (C := RX4) (T := TX4) (N := 9) hx hb hts (q_sub wsX40 36 rfl) hown hE.K (q_P1 h_m) 0 rfl rfl 3 (by decide) (hts _ (List.mem_of_getElem? (i := 1) rfl)) (fun _ h9 => h9) rfl dX4_heardOf_2 ?_
  refine lv_iload_n hx hb dX4_heardOf_5 rfl (lv_at hl 1 rfl) ?_
  refine q_iald (v := nI (scd z k)) hx hb hE h_1 (by omega) (by omega) dX4_heardOf_6 rfl ?_
  refine lv_aload_n hx hb dX4_heardOf_7 rfl (lv_at hl 0 rfl) ?_
  refine lv_iload_n hx hb dX4_heardOf_8 rfl (lv_at hl 1 rfl) ?_
  refine lv_iload_n hx hb dX4_heardOf_9 rfl (lv_at hl 2 rfl) ?_
  refine q_roV (As := [.int (nI k), .int (nI w)]) (rest := [.int (nI (scd z k)), .ref (am 0)]) ⟨hx, hb, hml, hown, hts⟩ (c_X4_beginOf hV hR (w := w) hk_) (cwV 2 hts gX4_heardOf_X4_beginOf rfl rfl rfl (by decide +kernel) ⟨Nat.le_of_ble_eq_true rfl, Nat.le_of_ble_eq_true rfl⟩) hE hA hP (va_recv hE.K (q_P1 h_m) (ci := 5) (q0 := 0) rfl rfl) rfl hl.1 rfl (Nat.le_of_ble_eq_true rfl) dX4_heardOf_10 ⟨Nat.zero_le _, Nat.zero_le _⟩ ?_
  refine q_roV (As := [.int (nI (scd z k)), .int (nI (w * sL z + sdl z k))]) (rest := []) ⟨hx, hb, hml, hown, hts⟩ (c_X4_heard hV hR (t := w * sL z + sdl z k) (by omega) (by have := mul16 (a := w) hL.2; omega)) (cwV 2 hts gX4_heardOf_X4_heard rfl rfl rfl (by decide +kernel) ⟨Nat.le_of_ble_eq_true rfl, Nat.le_of_ble_eq_true rfl⟩) hE hA hP (va_recv hE.K (q_P1 h_m) (ci := 5) (q0 := 0) rfl rfl) rfl hl.1 rfl (Nat.le_of_ble_eq_true rfl) dX4_heardOf_13 ⟨Nat.zero_le _, Nat.zero_le _⟩ ?_
  exact q_iret hx hb hr hlocks dX4_heardOf_16 rfl
set_option maxHeartbeats 4000000 in
set_option maxRecDepth 100000 in
theorem c_X4_isWrong {l : Launch} {g : gT} {am : Nat → Nat} {th : Int32} {sa : Nat → Int32} {z : sT} (hV : VS z) (hR : RS z sa) {k w : Nat} (hk_ : k < sn z) (hw : w < ssd z k) : RO l yX4_isWrong wsX4_isWrong ({ frames := 6, cells := 0, slots := 0, locals := 133 } : Room) [.ref (am 0), .int (nI k), .int (nI w)] g (fun H => va_P g.1 vwCl (wMo g am th sa z) H) (some (.int (nI (wrC (hearF (sL z) (kM z) (scd z k) (w * sL z + sdl z k)) (swd z k w))))) := by
  refine RO.of (cc := cX4_isWrong) (maxL := 3) (ret := (some .int)) (by decide) rfl (Nat.le_of_ble_eq_true rfl) ?_
  intro p e s m below meth c hx hb hml hr hlocks hown hts hE hF ls hl
  have hown : s.vm.findClass RX4 = some m.cls := hown
  have hA : ∀ q, s.heap.size ≤ q → q_n s.heap q := fun _ h => h
  have hP := hF
  have hl : lv_has ls 3 [(0, .ref (am 0)), (1, .int (nI k)), (2, .int (nI w))] := hl
  have hL := hV.L
  have hn := hV.n
  have h_m : va_at g.1 vwCl (am 0, .inr (5, [.int th, .int (nI (sL z)), .int (nI (sn z)), .ref (am 1), .ref (am 2), .ref (am 3), .ref (am 4), .ref (am 5), .ref (am 6)])) s.heap := hP 0 _ rfl
  have h_1 : va_at g.1 vwCl (am 1, .inl (gI g, 8, .inl (fun j => nI (scd z j)))) s.heap := hP 1 _ rfl
  have h_2 : va_at g.1 vwCl (am 2, .inl (gI g, 8, .inl (fun j => nI (ssr z j)))) s.heap := hP 2 _ rfl
  have h_3 : va_at g.1 vwCl (am 3, .inl (gI g, 8, .inl (fun j => nI (sdl z j)))) s.heap := hP 3 _ rfl
  have h_4 : va_at g.1 vwCl (am 4, .inl (gI g, 8, .inl (fun j => nI (ssd z j)))) s.heap := hP 4 _ rfl
  have h_5 : va_at g.1 vwCl (am 5, .inl (gI g, 96, .inl sa)) s.heap := hP 5 _ rfl
  have h_6 : va_at g.1 vwCl (am 6, .inl (gI g, 20, .inl (sst z))) s.heap := hP 6 _ rfl
  have hb9 := hV.h hk_
  have hpm := (hV.2.2.1 k hk_).2.2.2.2 w hw
  refine lv_aload_n hx hb dX4_isWrong_0 rfl (lv_at hl 0 rfl) ?_
  refine lv_iload_n hx hb dX4_isWrong_1 rfl (lv_at hl 1 rfl) ?_
  refine lv_iload_n hx hb dX4_isWrong_2 rfl (lv_at hl 2 rfl) ?_
  refine q_roV (As := [.int (nI k), .int (nI w)]) (rest := []) ⟨hx, hb, hml, hown, hts⟩ (c_X4_heardOf hV hR (k := k) (w := w) hk_ hw) (cwV 2 hts gX4_isWrong_X4_heardOf rfl rfl rfl (by decide +kernel) ⟨Nat.le_of_ble_eq_true rfl, Nat.le_of_ble_eq_true rfl⟩) hE hA hP (va_recv hE.K (q_P1 h_m) (ci := 5) (q0 := 0) rfl rfl) rfl hl.1 rfl (Nat.le_of_ble_eq_true rfl) dX4_isWrong_3 ⟨Nat.zero_le _, Nat.zero_le _⟩ ?_
  refine q_roS (As := [.int (hearF (sL z) (kM z) (scd z k) (w * sL z + sdl z k))]) (rest := []) ⟨hx, hb, hml, hown, hts⟩ (c_X4_sign (x := hearF (sL z) (kM z) (scd z k) (w * sL z + sdl z k))) (va_cwS 1 hts gX4_isWrong_X4_sign rfl rfl rfl (by decide +kernel) ⟨Nat.le_of_ble_eq_true rfl, Nat.le_of_ble_eq_true rfl⟩) hE hA trivial rfl hl.1 rfl (Nat.le_of_ble_eq_true rfl) dX4_isWrong_6 ⟨Nat.zero_le _, Nat.zero_le _⟩ ?_
  refine lv_aload_n hx hb dX4_isWrong_9 rfl (lv_at hl 0 rfl) ?_
  refine va_get (v := .ref (am 5)) (C := RX4) (T := TX4) (N := 9) hx hb hts (q_sub wsX40 43 rfl) hown hE.K (q_P1 h_m) 0 rfl rfl 7 (by decide) (hts _ (List.mem_of_getElem? (i := 1) rfl)) (fun _ h9 => h9) rfl dX4_isWrong_10 ?_
  refine lv_bipush (v := nI 12) hx hb dX4_isWrong_13 (by decide) ?_
  refine lv_iload_n hx hb dX4_isWrong_15 rfl (lv_at hl 1 rfl) ?_
  refine q_imul (v := nI (12 * k)) hx hb dX4_isWrong_16 (pk_mul _ _) ?_
  refine lv_iload_n hx hb dX4_isWrong_17 rfl (lv_at hl 2 rfl) ?_
  refine q_iadd (v := nI (12 * k + w)) hx hb dX4_isWrong_18 (nI_add _ _) ?_
  refine q_iald (v := swd z k w) hx hb hE h_5 (by omega) (by omega) dX4_isWrong_19 (hR k hk_ w hw) ?_
  refine lv_icmp_ne (tgt := 27) hx hb dX4_isWrong_20 (by decide) (fun c_q => ?_) (fun c_q => ?_)
  · refine lv_iconst (v := nI 1) hx hb dX4_isWrong_27 (by decide) ?_
    exact q_iret hx hb hr hlocks dX4_isWrong_28 (by rw [wr_ne (bd_hear hV _ _) hpm c_q])
  · refine lv_iconst (v := nI 0) hx hb dX4_isWrong_23 (by decide) ?_
    refine lv_goto (tgt := 28) hx hb dX4_isWrong_24 (by decide) ?_
    exact q_iret hx hb hr hlocks dX4_isWrong_28 (by rw [wr_eq (bd_hear hV _ _) hpm c_q])
set_option maxHeartbeats 4000000 in
set_option maxRecDepth 100000 in
theorem c_X4_wrongOf {l : Launch} {g : gT} {am : Nat → Nat} {th : Int32} {sa : Nat → Int32} {z : sT} (hV : VS z) (hR : RS z sa) {k : Nat} (hk_ : k < sn z) : RO l yX4_wrongOf wsX4_wrongOf ({ frames := 7, cells := 0, slots := 0, locals := 155 } : Room) [.ref (am 0), .int (nI k)] g (fun H => va_P g.1 vwCl (wMo g am th sa z) H) (some (.int (nI (wrF (sL z) (kM z) (scd z k) (sdl z k) (swd z k) (ssd z k))))) := by
  refine RO.of (cc := cX4_wrongOf) (maxL := 4) (ret := (some .int)) (by decide) rfl (Nat.le_of_ble_eq_true rfl) ?_
  intro p e s m below meth c hx hb hml hr hlocks hown hts hE hF ls hl
  have hown : s.vm.findClass RX4 = some m.cls := hown
  have hA : ∀ q, s.heap.size ≤ q → q_n s.heap q := fun _ h => h
  have hP := hF
  have hl : lv_has ls 4 [(0, .ref (am 0)), (1, .int (nI k))] := hl
  have hL := hV.L
  have hn := hV.n
  have h_m : va_at g.1 vwCl (am 0, .inr (5, [.int th, .int (nI (sL z)), .int (nI (sn z)), .ref (am 1), .ref (am 2), .ref (am 3), .ref (am 4), .ref (am 5), .ref (am 6)])) s.heap := hP 0 _ rfl
  have h_1 : va_at g.1 vwCl (am 1, .inl (gI g, 8, .inl (fun j => nI (scd z j)))) s.heap := hP 1 _ rfl
  have h_2 : va_at g.1 vwCl (am 2, .inl (gI g, 8, .inl (fun j => nI (ssr z j)))) s.heap := hP 2 _ rfl
  have h_3 : va_at g.1 vwCl (am 3, .inl (gI g, 8, .inl (fun j => nI (sdl z j)))) s.heap := hP 3 _ rfl
  have h_4 : va_at g.1 vwCl (am 4, .inl (gI g, 8, .inl (fun j => nI (ssd z j)))) s.heap := hP 4 _ rfl
  have h_5 : va_at g.1 vwCl (am 5, .inl (gI g, 96, .inl sa)) s.heap := hP 5 _ rfl
  have h_6 : va_at g.1 vwCl (am 6, .inl (gI g, 20, .inl (sst z))) s.heap := hP 6 _ rfl
  have hb9 := hV.h hk_
  refine lv_iconst (v := nI 0) hx hb dX4_wrongOf_0 (by decide) ?_
  refine lv_istore_n (lv' := [(2, .int (nI 0)), (0, .ref (am 0)), (1, .int (nI k))]) hx hb dX4_wrongOf_1 rfl hl (by decide) rfl (fun ls hl => ?_)
  refine lv_iconst (v := nI 0) hx hb dX4_wrongOf_2 (by decide) ?_
  refine lv_istore_n (lv' := [(3, .int (nI 0)), (2, .int (nI 0)), (0, .ref (am 0)), (1, .int (nI k))]) hx hb dX4_wrongOf_3 rfl hl (by decide) rfl (fun ls hl => ?_)
  have lp_4 : ∀ (n_ i : Nat) , i ≤ ssd z k → ssd z k + 1 ≤ i + n_ → ∀ (ls : Array Slot), lv_has ls 4 [(3, .int (nI i)), (2, .int (nI (wrF (sL z) (kM z) (scd z k) (sdl z k) (swd z k) i))), (0, .ref (am 0)), (1, .int (nI k))] → W p l e ({ frames := 7, cells := 0, slots := 0, locals := 155 } : Room) s m ([.ref (am 0), .int (nI k)] : List Value).toArray below meth c s.heap [] 0 0 (MQ below (q_Q (some (.int (nI (wrF (sL z) (kM z) (scd z k) (sdl z k) (swd z k) (ssd z k)))))) ([.ref (am 0), .int (nI k)] : List Value).toArray s 0 0 (fun _ => False)) (F0 m 4 ls []) := by
    intro n_
    induction n_ with
    | zero => intro i  hi_ hn_; exact absurd hn_ (by omega)
    | succ n_ ih_4 =>
      intro i  hi_i hn_i  ls hl
      refine lv_iload_n hx hb dX4_wrongOf_4 rfl (lv_at hl 0 rfl) ?_
      refine lv_aload_n hx hb dX4_wrongOf_5 rfl (lv_at hl 2 rfl) ?_
      refine va_get (v := .ref (am 4)) (C := RX4) (T := TX4) (N := 9) hx hb hts (q_sub wsX40 47 rfl) hown hE.K (q_P1 h_m) 0 rfl rfl 6 (by decide) (hts _ (List.mem_of_getElem? (i := 1) rfl)) (fun _ h9 => h9) rfl dX4_wrongOf_6 ?_
      refine lv_iload_n hx hb dX4_wrongOf_9 rfl (lv_at hl 3 rfl) ?_
      refine q_iald (v := nI (ssd z k)) hx hb hE h_4 (by omega) (by omega) dX4_wrongOf_10 rfl ?_
      refine q_icmp_ge (tgt := 29) hx hb (by omega) (by omega) dX4_wrongOf_11 (by decide) (fun c_1 => ?_) (fun c_1 => ?_)
      · refine lv_iload_n hx hb dX4_wrongOf_29 rfl (lv_at hl 1 rfl) ?_
        exact q_iret hx hb hr hlocks dX4_wrongOf_30 (by rw [show i = ssd z k by omega])
      · refine lv_iload_n hx hb dX4_wrongOf_14 rfl (lv_at hl 1 rfl) ?_
        refine lv_aload_n hx hb dX4_wrongOf_15 rfl (lv_at hl 2 rfl) ?_
        refine lv_iload_n hx hb dX4_wrongOf_16 rfl (lv_at hl 3 rfl) ?_
        refine lv_iload_n hx hb dX4_wrongOf_17 rfl (lv_at hl 0 rfl) ?_
        refine q_roV (As := [.int (nI k), .int (nI i)]) (rest := [.int (nI (wrF (sL z) (kM z) (scd z k) (sdl z k) (swd z k) i))]) ⟨hx, hb, hml, hown, hts⟩ (c_X4_isWrong hV hR (k := k) (w := i) hk_ (by omega)) (cwV 2 hts gX4_wrongOf_X4_isWrong rfl rfl rfl (by decide +kernel) ⟨Nat.le_of_ble_eq_true rfl, Nat.le_of_ble_eq_true rfl⟩) hE hA hP (va_recv hE.K (q_P1 h_m) (ci := 5) (q0 := 0) rfl rfl) rfl hl.1 rfl (Nat.le_of_ble_eq_true rfl) dX4_wrongOf_18 ⟨Nat.zero_le _, Nat.zero_le _⟩ ?_
        refine q_iadd (v := nI (wrF (sL z) (kM z) (scd z k) (sdl z k) (swd z k) (i + 1))) hx hb dX4_wrongOf_21 (nI_add _ _) ?_
        refine lv_istore_n (lv' := [(2, .int (nI (wrF (sL z) (kM z) (scd z k) (sdl z k) (swd z k) (i + 1)))), (3, .int (nI i)), (0, .ref (am 0)), (1, .int (nI k))]) hx hb dX4_wrongOf_22 rfl hl (by decide) rfl (fun ls hl => ?_)
        refine lv_iinc (v := nI (i + 1)) (lv' := [(3, .int (nI (i + 1))), (2, .int (nI (wrF (sL z) (kM z) (scd z k) (sdl z k) (swd z k) (i + 1)))), (0, .ref (am 0)), (1, .int (nI k))]) hx hb dX4_wrongOf_23 hl (k := 1) rfl (nI_1 _) (by decide) rfl (fun ls hl => ?_)
        refine lv_goto (tgt := 4) hx hb dX4_wrongOf_26 (by decide) ?_
        exact ih_4 (i + 1)  (by omega) (by omega)  _ (lv_sub hl [0, 1, 2, 3] rfl)
  exact lp_4 (ssd z k + 1) 0  (Nat.zero_le _) (by omega)  _ (lv_sub hl [0, 1, 2, 3] rfl)
set_option maxHeartbeats 4000000 in
set_option maxRecDepth 100000 in
theorem c_X4_allWrong {l : Launch} {g : gT} {am : Nat → Nat} {th : Int32} {sa : Nat → Int32} {z : sT} (hV : VS z) (hR : RS z sa)  : RO l yX4_allWrong wsX4_allWrong ({ frames := 8, cells := 0, slots := 0, locals := 178 } : Room) [.ref (am 0)] g (fun H => va_P g.1 vwCl (wMo g am th sa z) H) (some (.int (nI (allW z (kM z) (sn z))))) := by
  refine RO.of (cc := cX4_allWrong) (maxL := 3) (ret := (some .int)) (by decide) rfl (Nat.le_of_ble_eq_true rfl) ?_
  intro p e s m below meth c hx hb hml hr hlocks hown hts hE hF ls hl
  have hown : s.vm.findClass RX4 = some m.cls := hown
  have hA : ∀ q, s.heap.size ≤ q → q_n s.heap q := fun _ h => h
  have hP := hF
  have hl : lv_has ls 3 [(0, .ref (am 0))] := hl
  have hL := hV.L
  have hn := hV.n
  have h_m : va_at g.1 vwCl (am 0, .inr (5, [.int th, .int (nI (sL z)), .int (nI (sn z)), .ref (am 1), .ref (am 2), .ref (am 3), .ref (am 4), .ref (am 5), .ref (am 6)])) s.heap := hP 0 _ rfl
  have h_1 : va_at g.1 vwCl (am 1, .inl (gI g, 8, .inl (fun j => nI (scd z j)))) s.heap := hP 1 _ rfl
  have h_2 : va_at g.1 vwCl (am 2, .inl (gI g, 8, .inl (fun j => nI (ssr z j)))) s.heap := hP 2 _ rfl
  have h_3 : va_at g.1 vwCl (am 3, .inl (gI g, 8, .inl (fun j => nI (sdl z j)))) s.heap := hP 3 _ rfl
  have h_4 : va_at g.1 vwCl (am 4, .inl (gI g, 8, .inl (fun j => nI (ssd z j)))) s.heap := hP 4 _ rfl
  have h_5 : va_at g.1 vwCl (am 5, .inl (gI g, 96, .inl sa)) s.heap := hP 5 _ rfl
  have h_6 : va_at g.1 vwCl (am 6, .inl (gI g, 20, .inl (sst z))) s.heap := hP 6 _ rfl
  refine lv_iconst (v := nI 0) hx hb dX4_allWrong_0 (by decide) ?_
  refine lv_istore_n (lv' := [(1, .int (nI 0)), (0, .ref (am 0))]) hx hb dX4_allWrong_1 rfl hl (by decide) rfl (fun ls hl => ?_)
  refine lv_iconst (v := nI 0) hx hb dX4_allWrong_2 (by decide) ?_
  refine lv_istore_n (lv' := [(2, .int (nI 0)), (1, .int (nI 0)), (0, .ref (am 0))]) hx hb dX4_allWrong_3 rfl hl (by decide) rfl (fun ls hl => ?_)
  have lp_4 : ∀ (n_ i : Nat) , i ≤ sn z → sn z + 1 ≤ i + n_ → ∀ (ls : Array Slot), lv_has ls 3 [(2, .int (nI i)), (1, .int (nI (allW z (kM z) i))), (0, .ref (am 0))] → W p l e ({ frames := 8, cells := 0, slots := 0, locals := 178 } : Room) s m ([.ref (am 0)] : List Value).toArray below meth c s.heap [] 0 0 (MQ below (q_Q (some (.int (nI (allW z (kM z) (sn z)))))) ([.ref (am 0)] : List Value).toArray s 0 0 (fun _ => False)) (F0 m 4 ls []) := by
    intro n_
    induction n_ with
    | zero => intro i  hi_ hn_; exact absurd hn_ (by omega)
    | succ n_ ih_4 =>
      intro i  hi_i hn_i  ls hl
      refine lv_iload_n hx hb dX4_allWrong_4 rfl (lv_at hl 0 rfl) ?_
      refine lv_aload_n hx hb dX4_allWrong_5 rfl (lv_at hl 2 rfl) ?_
      refine va_get (v := .int (nI (sn z))) (C := RX4) (T := TX4) (N := 9) hx hb hts (q_sub wsX40 51 rfl) hown hE.K (q_P1 h_m) 0 rfl rfl 2 (by decide) (hts _ (List.mem_of_getElem? (i := 1) rfl)) (fun _ h9 => h9) rfl dX4_allWrong_6 ?_
      refine q_icmp_ge (tgt := 26) hx hb (by omega) (by omega) dX4_allWrong_9 (by decide) (fun c_1 => ?_) (fun c_1 => ?_)
      · refine lv_iload_n hx hb dX4_allWrong_26 rfl (lv_at hl 1 rfl) ?_
        exact q_iret hx hb hr hlocks dX4_allWrong_27 (by rw [show i = sn z by omega])
      · refine lv_iload_n hx hb dX4_allWrong_12 rfl (lv_at hl 1 rfl) ?_
        refine lv_aload_n hx hb dX4_allWrong_13 rfl (lv_at hl 2 rfl) ?_
        refine lv_iload_n hx hb dX4_allWrong_14 rfl (lv_at hl 0 rfl) ?_
        refine q_roV (As := [.int (nI i)]) (rest := [.int (nI (allW z (kM z) i))]) ⟨hx, hb, hml, hown, hts⟩ (c_X4_wrongOf hV hR (k := i) (by omega)) (cwV 1 hts gX4_allWrong_X4_wrongOf rfl rfl rfl (by decide +kernel) ⟨Nat.le_of_ble_eq_true rfl, Nat.le_of_ble_eq_true rfl⟩) hE hA hP (va_recv hE.K (q_P1 h_m) (ci := 5) (q0 := 0) rfl rfl) rfl hl.1 rfl (Nat.le_of_ble_eq_true rfl) dX4_allWrong_15 ⟨Nat.zero_le _, Nat.zero_le _⟩ ?_
        refine q_iadd (v := nI (allW z (kM z) (i + 1))) hx hb dX4_allWrong_18 (nI_add _ _) ?_
        refine lv_istore_n (lv' := [(1, .int (nI (allW z (kM z) (i + 1)))), (2, .int (nI i)), (0, .ref (am 0))]) hx hb dX4_allWrong_19 rfl hl (by decide) rfl (fun ls hl => ?_)
        refine lv_iinc (v := nI (i + 1)) (lv' := [(2, .int (nI (i + 1))), (1, .int (nI (allW z (kM z) (i + 1)))), (0, .ref (am 0))]) hx hb dX4_allWrong_20 hl (k := 1) rfl (nI_1 _) (by decide) rfl (fun ls hl => ?_)
        refine lv_goto (tgt := 4) hx hb dX4_allWrong_23 (by decide) ?_
        exact ih_4 (i + 1)  (by omega) (by omega)  _ (lv_sub hl [0, 1, 2] rfl)
  exact lp_4 (sn z + 1) 0  (Nat.zero_le _) (by omega)  _ (lv_sub hl [0, 1, 2] rfl)
set_option maxHeartbeats 4000000 in
set_option maxRecDepth 100000 in
theorem c_X4_endOf {l : Launch} {g : gT} {am : Nat → Nat} {th : Int32} {sa : Nat → Int32} {z : sT} (hV : VS z) (hR : RS z sa) {k : Nat} (hk_ : k < sn z) : RO l yX4_endOf wsX4_endOf ({ frames := 1, cells := 0, slots := 0, locals := 22 } : Room) [.ref (am 0), .int (nI k)] g (fun H => va_P g.1 vwCl (wMo g am th sa z) H) (some (.int (nI (endF (sL z) (ssd z k) (sdl z k))))) := by
  refine RO.of (cc := cX4_endOf) (maxL := 2) (ret := (some .int)) (by decide) rfl (Nat.le_of_ble_eq_true rfl) ?_
  intro p e s m below meth c hx hb hml hr hlocks hown hts hE hF ls hl
  have hown : s.vm.findClass RX4 = some m.cls := hown
  have hA : ∀ q, s.heap.size ≤ q → q_n s.heap q := fun _ h => h
  have hP := hF
  have hl : lv_has ls 2 [(0, .ref (am 0)), (1, .int (nI k))] := hl
  have hL := hV.L
  have hn := hV.n
  have h_m : va_at g.1 vwCl (am 0, .inr (5, [.int th, .int (nI (sL z)), .int (nI (sn z)), .ref (am 1), .ref (am 2), .ref (am 3), .ref (am 4), .ref (am 5), .ref (am 6)])) s.heap := hP 0 _ rfl
  have h_1 : va_at g.1 vwCl (am 1, .inl (gI g, 8, .inl (fun j => nI (scd z j)))) s.heap := hP 1 _ rfl
  have h_2 : va_at g.1 vwCl (am 2, .inl (gI g, 8, .inl (fun j => nI (ssr z j)))) s.heap := hP 2 _ rfl
  have h_3 : va_at g.1 vwCl (am 3, .inl (gI g, 8, .inl (fun j => nI (sdl z j)))) s.heap := hP 3 _ rfl
  have h_4 : va_at g.1 vwCl (am 4, .inl (gI g, 8, .inl (fun j => nI (ssd z j)))) s.heap := hP 4 _ rfl
  have h_5 : va_at g.1 vwCl (am 5, .inl (gI g, 96, .inl sa)) s.heap := hP 5 _ rfl
  have h_6 : va_at g.1 vwCl (am 6, .inl (gI g, 20, .inl (sst z))) s.heap := hP 6 _ rfl
  have hb9 := hV.h hk_
  refine lv_aload_n hx hb dX4_endOf_0 rfl (lv_at hl 0 rfl) ?_
  refine va_get (v := .ref (am 4)) (C := RX4) (T := TX4) (N := 9) hx hb hts (q_sub wsX40 9 rfl) hown hE.K (q_P1 h_m) 0 rfl rfl 6 (by decide) (hts _ (List.mem_of_getElem? (i := 1) rfl)) (fun _ h9 => h9) rfl dX4_endOf_1 ?_
  refine lv_iload_n hx hb dX4_endOf_4 rfl (lv_at hl 1 rfl) ?_
  refine q_iald (v := nI (ssd z k)) hx hb hE h_4 (by omega) (by omega) dX4_endOf_5 rfl ?_
  refine q_if_ne (tgt := 13) hx hb (by omega) dX4_endOf_6 (by decide) (fun c_1 => ?_) (fun c_1 => ?_)
  · refine lv_aload_n hx hb dX4_endOf_13 rfl (lv_at hl 0 rfl) ?_
    refine lv_iload_n hx hb dX4_endOf_14 rfl (lv_at hl 1 rfl) ?_
    refine lv_aload_n hx hb dX4_endOf_15 rfl (lv_at hl 0 rfl) ?_
    refine va_get (v := .ref (am 4)) (C := RX4) (T := TX4) (N := 9) hx hb hts (q_sub wsX40 9 rfl) hown hE.K (q_P1 h_m) 0 rfl rfl 6 (by decide) (hts _ (List.mem_of_getElem? (i := 1) rfl)) (fun _ h9 => h9) rfl dX4_endOf_16 ?_
    refine lv_iload_n hx hb dX4_endOf_19 rfl (lv_at hl 1 rfl) ?_
    refine q_iald (v := nI (ssd z k)) hx hb hE h_4 (by omega) (by omega) dX4_endOf_20 rfl ?_
    refine q_roV (As := [.int (nI k), .int (nI (ssd z k))]) (rest := []) ⟨hx, hb, hml, hown, hts⟩ (c_X4_beginOf hV hR (w := ssd z k) hk_) (cwV 2 hts gX4_endOf_X4_beginOf rfl rfl rfl (by decide +kernel) ⟨Nat.le_of_ble_eq_true rfl, Nat.le_of_ble_eq_true rfl⟩) hE hA hP (va_recv hE.K (q_P1 h_m) (ci := 5) (q0 := 0) rfl rfl) rfl hl.1 rfl (Nat.le_of_ble_eq_true rfl) dX4_endOf_21 ⟨Nat.zero_le _, Nat.zero_le _⟩ ?_
    exact q_iret hx hb hr hlocks dX4_endOf_24 (by rw [endF, if_neg (by omega)])
  · refine lv_iconst (v := nI 0) hx hb dX4_endOf_9 (by decide) ?_
    refine lv_goto (tgt := 24) hx hb dX4_endOf_10 (by decide) ?_
    exact q_iret hx hb hr hlocks dX4_endOf_24 (by rw [endF, if_pos c_1])
set_option maxHeartbeats 4000000 in
set_option maxRecDepth 100000 in
theorem c_X4_end {l : Launch} {g : gT} {am : Nat → Nat} {th : Int32} {sa : Nat → Int32} {z : sT} (hV : VS z) (hR : RS z sa)  : RO l yX4_end wsX4_end ({ frames := 2, cells := 0, slots := 0, locals := 43 } : Room) [.ref (am 0)] g (fun H => va_P g.1 vwCl (wMo g am th sa z) H) (some (.int (nI (endA z (sn z))))) := by
  refine RO.of (cc := cX4_end) (maxL := 3) (ret := (some .int)) (by decide) rfl (Nat.le_of_ble_eq_true rfl) ?_
  intro p e s m below meth c hx hb hml hr hlocks hown hts hE hF ls hl
  have hown : s.vm.findClass RX4 = some m.cls := hown
  have hA : ∀ q, s.heap.size ≤ q → q_n s.heap q := fun _ h => h
  have hP := hF
  have hl : lv_has ls 3 [(0, .ref (am 0))] := hl
  have hL := hV.L
  have hn := hV.n
  have h_m : va_at g.1 vwCl (am 0, .inr (5, [.int th, .int (nI (sL z)), .int (nI (sn z)), .ref (am 1), .ref (am 2), .ref (am 3), .ref (am 4), .ref (am 5), .ref (am 6)])) s.heap := hP 0 _ rfl
  have h_1 : va_at g.1 vwCl (am 1, .inl (gI g, 8, .inl (fun j => nI (scd z j)))) s.heap := hP 1 _ rfl
  have h_2 : va_at g.1 vwCl (am 2, .inl (gI g, 8, .inl (fun j => nI (ssr z j)))) s.heap := hP 2 _ rfl
  have h_3 : va_at g.1 vwCl (am 3, .inl (gI g, 8, .inl (fun j => nI (sdl z j)))) s.heap := hP 3 _ rfl
  have h_4 : va_at g.1 vwCl (am 4, .inl (gI g, 8, .inl (fun j => nI (ssd z j)))) s.heap := hP 4 _ rfl
  have h_5 : va_at g.1 vwCl (am 5, .inl (gI g, 96, .inl sa)) s.heap := hP 5 _ rfl
  have h_6 : va_at g.1 vwCl (am 6, .inl (gI g, 20, .inl (sst z))) s.heap := hP 6 _ rfl
  refine lv_iconst (v := nI 0) hx hb dX4_end_0 (by decide) ?_
  refine lv_istore_n (lv' := [(1, .int (nI 0)), (0, .ref (am 0))]) hx hb dX4_end_1 rfl hl (by decide) rfl (fun ls hl => ?_)
  refine lv_iconst (v := nI 0) hx hb dX4_end_2 (by decide) ?_
  refine lv_istore_n (lv' := [(2, .int (nI 0)), (1, .int (nI 0)), (0, .ref (am 0))]) hx hb dX4_end_3 rfl hl (by decide) rfl (fun ls hl => ?_)
  have lp_4 : ∀ (n_ i : Nat) , i ≤ sn z → sn z + 1 ≤ i + n_ → ∀ (ls : Array Slot), lv_has ls 3 [(2, .int (nI i)), (1, .int (nI (endA z i))), (0, .ref (am 0))] → W p l e ({ frames := 2, cells := 0, slots := 0, locals := 43 } : Room) s m ([.ref (am 0)] : List Value).toArray below meth c s.heap [] 0 0 (MQ below (q_Q (some (.int (nI (endA z (sn z)))))) ([.ref (am 0)] : List Value).toArray s 0 0 (fun _ => False)) (F0 m 4 ls []) := by
    intro n_
    induction n_ with
    | zero => intro i  hi_ hn_; exact absurd hn_ (by omega)
    | succ n_ ih_4 =>
      intro i  hi_i hn_i  ls hl
      refine lv_iload_n hx hb dX4_end_4 rfl (lv_at hl 0 rfl) ?_
      refine lv_aload_n hx hb dX4_end_5 rfl (lv_at hl 2 rfl) ?_
      refine va_get (v := .int (nI (sn z))) (C := RX4) (T := TX4) (N := 9) hx hb hts (q_sub wsX40 18 rfl) hown hE.K (q_P1 h_m) 0 rfl rfl 2 (by decide) (hts _ (List.mem_of_getElem? (i := 1) rfl)) (fun _ h9 => h9) rfl dX4_end_6 ?_
      refine q_icmp_ge (tgt := 28) hx hb (by omega) (by omega) dX4_end_9 (by decide) (fun c_1 => ?_) (fun c_1 => ?_)
      · refine lv_iload_n hx hb dX4_end_28 rfl (lv_at hl 1 rfl) ?_
        exact q_iret hx hb hr hlocks dX4_end_29 (by rw [show i = sn z by omega])
      · refine lv_iload_n hx hb dX4_end_12 rfl (lv_at hl 1 rfl) ?_
        refine lv_aload_n hx hb dX4_end_13 rfl (lv_at hl 2 rfl) ?_
        refine lv_iload_n hx hb dX4_end_14 rfl (lv_at hl 0 rfl) ?_
        refine q_roV (As := [.int (nI i)]) (rest := [.int (nI (endA z i))]) ⟨hx, hb, hml, hown, hts⟩ (c_X4_endOf hV hR (k := i) (by omega)) (cwV 1 hts gX4_end_X4_endOf rfl rfl rfl (by decide +kernel) ⟨Nat.le_of_ble_eq_true rfl, Nat.le_of_ble_eq_true rfl⟩) hE hA hP (va_recv hE.K (q_P1 h_m) (ci := 5) (q0 := 0) rfl rfl) rfl hl.1 rfl (Nat.le_of_ble_eq_true rfl) dX4_end_15 ⟨Nat.zero_le _, Nat.zero_le _⟩ ?_
        refine q_mmax (v := nI (endA z (i + 1))) hx hb (hml.trans hl.1.symm) hown (hts _ (List.mem_of_getElem? (i := 2) rfl)) (hts _ (List.mem_of_getElem? (i := 3) rfl)) (hts _ (List.mem_of_getElem? (i := 4) rfl)) (hts _ (List.mem_of_getElem? (i := 5) rfl)) (Nat.le_of_ble_eq_true rfl) (Nat.le_of_ble_eq_true rfl) (Nat.zero_le _) (Nat.zero_le _) dX4_end_18 (q_maxN (by have := endA_le hV (show i ≤ sn z by omega); omega) (by have := endF_le hV (show i < sn z by omega); omega)) ?_
        refine lv_istore_n (lv' := [(1, .int (nI (endA z (i + 1)))), (2, .int (nI i)), (0, .ref (am 0))]) hx hb dX4_end_21 rfl hl (by decide) rfl (fun ls hl => ?_)
        refine lv_iinc (v := nI (i + 1)) (lv' := [(2, .int (nI (i + 1))), (1, .int (nI (endA z (i + 1)))), (0, .ref (am 0))]) hx hb dX4_end_22 hl (k := 1) rfl (nI_1 _) (by decide) rfl (fun ls hl => ?_)
        refine lv_goto (tgt := 4) hx hb dX4_end_25 (by decide) ?_
        exact ih_4 (i + 1)  (by omega) (by omega)  _ (lv_sub hl [0, 1, 2] rfl)
  exact lp_4 (sn z + 1) 0  (Nat.zero_le _) (by omega)  _ (lv_sub hl [0, 1, 2] rfl)
set_option maxHeartbeats 4000000 in
set_option maxRecDepth 100000 in
theorem c_X4_highest {l : Launch} {g : gT} {am : Nat → Nat} {th : Int32} {sa : Nat → Int32} {z : sT} (hV : VS z) (hR : RS z sa)  : RO l yX4_highest wsX4_highest ({ frames := 4, cells := 0, slots := 0, locals := 87 } : Room) [.ref (am 0)] g (fun H => va_P g.1 vwCl (wMo g am th sa z) H) (some (.int (hiF (kM z) (endA z (sn z))))) := by
  refine RO.of (cc := cX4_highest) (maxL := 4) (ret := (some .int)) (by decide) rfl (Nat.le_of_ble_eq_true rfl) ?_
  intro p e s m below meth c hx hb hml hr hlocks hown hts hE hF ls hl
  have hown : s.vm.findClass RX4 = some m.cls := hown
  have hA : ∀ q, s.heap.size ≤ q → q_n s.heap q := fun _ h => h
  have hP := hF
  have hl : lv_has ls 4 [(0, .ref (am 0))] := hl
  have hL := hV.L
  have hn := hV.n
  have h_m : va_at g.1 vwCl (am 0, .inr (5, [.int th, .int (nI (sL z)), .int (nI (sn z)), .ref (am 1), .ref (am 2), .ref (am 3), .ref (am 4), .ref (am 5), .ref (am 6)])) s.heap := hP 0 _ rfl
  have h_1 : va_at g.1 vwCl (am 1, .inl (gI g, 8, .inl (fun j => nI (scd z j)))) s.heap := hP 1 _ rfl
  have h_2 : va_at g.1 vwCl (am 2, .inl (gI g, 8, .inl (fun j => nI (ssr z j)))) s.heap := hP 2 _ rfl
  have h_3 : va_at g.1 vwCl (am 3, .inl (gI g, 8, .inl (fun j => nI (sdl z j)))) s.heap := hP 3 _ rfl
  have h_4 : va_at g.1 vwCl (am 4, .inl (gI g, 8, .inl (fun j => nI (ssd z j)))) s.heap := hP 4 _ rfl
  have h_5 : va_at g.1 vwCl (am 5, .inl (gI g, 96, .inl sa)) s.heap := hP 5 _ rfl
  have h_6 : va_at g.1 vwCl (am 6, .inl (gI g, 20, .inl (sst z))) s.heap := hP 6 _ rfl
  have hend := endA_le hV (Nat.le_refl (sn z))
  refine lv_iconst (v := nI 0) hx hb dX4_highest_0 (by decide) ?_
  refine lv_istore_n (lv' := [(1, .int (nI 0)), (0, .ref (am 0))]) hx hb dX4_highest_1 rfl hl (by decide) rfl (fun ls hl => ?_)
  refine lv_aload_n hx hb dX4_highest_2 rfl (lv_at hl 1 rfl) ?_
  refine q_roV (As := []) (rest := []) ⟨hx, hb, hml, hown, hts⟩ (c_X4_end hV hR) (cwV 0 hts gX4_highest_X4_end rfl rfl rfl (by decide +kernel) ⟨Nat.le_of_ble_eq_true rfl, Nat.le_of_ble_eq_true rfl⟩) hE hA hP (va_recv hE.K (q_P1 h_m) (ci := 5) (q0 := 0) rfl rfl) rfl hl.1 rfl (Nat.le_of_ble_eq_true rfl) dX4_highest_3 ⟨Nat.zero_le _, Nat.zero_le _⟩ ?_
  refine lv_istore_n (lv' := [(2, .int (nI (endA z (sn z)))), (1, .int (nI 0)), (0, .ref (am 0))]) hx hb dX4_highest_6 rfl hl (by decide) rfl (fun ls hl => ?_)
  refine lv_iconst (v := nI 0) hx hb dX4_highest_7 (by decide) ?_
  refine lv_istore_n (lv' := [(3, .int (nI 0)), (2, .int (nI (endA z (sn z)))), (1, .int (nI 0)), (0, .ref (am 0))]) hx hb dX4_highest_8 rfl hl (by decide) rfl (fun ls hl => ?_)
  have lp_9 : ∀ (n_ i : Nat) , i ≤ endA z (sn z) → endA z (sn z) + 1 ≤ i + n_ → ∀ (ls : Array Slot), lv_has ls 4 [(3, .int (nI i)), (2, .int (nI (endA z (sn z)))), (1, .int (hiF (kM z) i)), (0, .ref (am 0))] → W p l e ({ frames := 4, cells := 0, slots := 0, locals := 87 } : Room) s m ([.ref (am 0)] : List Value).toArray below meth c s.heap [] 0 0 (MQ below (q_Q (some (.int (hiF (kM z) (endA z (sn z)))))) ([.ref (am 0)] : List Value).toArray s 0 0 (fun _ => False)) (F0 m 9 ls []) := by
    intro n_
    induction n_ with
    | zero => intro i  hi_ hn_; exact absurd hn_ (by omega)
    | succ n_ ih_9 =>
      intro i  hi_i hn_i  ls hl
      refine lv_iload_n hx hb dX4_highest_9 rfl (lv_at hl 0 rfl) ?_
      refine lv_iload_n hx hb dX4_highest_10 rfl (lv_at hl 1 rfl) ?_
      refine q_icmp_ge (tgt := 33) hx hb (by omega) (by omega) dX4_highest_11 (by decide) (fun c_1 => ?_) (fun c_1 => ?_)
      · refine lv_iload_n hx hb dX4_highest_33 rfl (lv_at hl 2 rfl) ?_
        exact q_iret hx hb hr hlocks dX4_highest_34 (by rw [show i = endA z (sn z) by omega])
      · refine lv_iload_n hx hb dX4_highest_14 rfl (lv_at hl 2 rfl) ?_
        refine lv_aload_n hx hb dX4_highest_15 rfl (lv_at hl 3 rfl) ?_
        refine lv_iload_n hx hb dX4_highest_16 rfl (lv_at hl 0 rfl) ?_
        refine q_roV (As := [.int (nI i)]) (rest := [.int (hiF (kM z) i)]) ⟨hx, hb, hml, hown, hts⟩ (c_X4_skyAt hV hR (t := i) (by omega)) (cwV 1 hts gX4_highest_X4_skyAt rfl rfl rfl (by decide +kernel) ⟨Nat.le_of_ble_eq_true rfl, Nat.le_of_ble_eq_true rfl⟩) hE hA hP (va_recv hE.K (q_P1 h_m) (ci := 5) (q0 := 0) rfl rfl) rfl hl.1 rfl (Nat.le_of_ble_eq_true rfl) dX4_highest_17 ⟨Nat.zero_le _, Nat.zero_le _⟩ ?_
        refine q_mabs (v := ab (kM z i)) hx hb (hml.trans hl.1.symm) hown (hts _ (List.mem_of_getElem? (i := 1) rfl)) (hts _ (List.mem_of_getElem? (i := 2) rfl)) (hts _ (List.mem_of_getElem? (i := 3) rfl)) (hts _ (List.mem_of_getElem? (i := 4) rfl)) (Nat.le_of_ble_eq_true rfl) (Nat.le_of_ble_eq_true rfl) (Nat.zero_le _) (Nat.zero_le _) dX4_highest_20 rfl ?_
        refine q_mmax (v := hiF (kM z) (i + 1)) hx hb (hml.trans hl.1.symm) hown (hts _ (List.mem_of_getElem? (i := 5) rfl)) (hts _ (List.mem_of_getElem? (i := 6) rfl)) (hts _ (List.mem_of_getElem? (i := 3) rfl)) (hts _ (List.mem_of_getElem? (i := 7) rfl)) (Nat.le_of_ble_eq_true rfl) (Nat.le_of_ble_eq_true rfl) (Nat.zero_le _) (Nat.zero_le _) dX4_highest_23 rfl ?_
        refine lv_istore_n (lv' := [(1, .int (hiF (kM z) (i + 1))), (3, .int (nI i)), (2, .int (nI (endA z (sn z)))), (0, .ref (am 0))]) hx hb dX4_highest_26 rfl hl (by decide) rfl (fun ls hl => ?_)
        refine lv_iinc (v := nI (i + 1)) (lv' := [(3, .int (nI (i + 1))), (1, .int (hiF (kM z) (i + 1))), (2, .int (nI (endA z (sn z)))), (0, .ref (am 0))]) hx hb dX4_highest_27 hl (k := 1) rfl (nI_1 _) (by decide) rfl (fun ls hl => ?_)
        refine lv_goto (tgt := 9) hx hb dX4_highest_30 (by decide) ?_
        exact ih_9 (i + 1)  (by omega) (by omega)  _ (lv_sub hl [0, 2, 1, 3] rfl)
  exact lp_9 (endA z (sn z) + 1) 0  (Nat.zero_le _) (by omega)  _ (lv_sub hl [0, 1, 2, 3] rfl)
set_option maxHeartbeats 4000000 in
set_option maxRecDepth 100000 in
theorem c_X4_isTaken {l : Launch} {g : gT} {am : Nat → Nat} {th : Int32} {sa : Nat → Int32} {z : sT} (hV : VS z) (hR : RS z sa) {a : Nat} (ha : a < 2147483648) : RO l yX4_isTaken wsX4_isTaken ({ frames := 0, cells := 0, slots := 0, locals := 0 } : Room) [.ref (am 0), .int (nI a)] g (fun H => va_P g.1 vwCl (wMo g am th sa z) H) (some (.int (bI (takB z a (sn z) = true)))) := by
  refine RO.of (cc := cX4_isTaken) (maxL := 3) (ret := (some .boolean)) (by decide) rfl (Nat.le_of_ble_eq_true rfl) ?_
  intro p e s m below meth c hx hb hml hr hlocks hown hts hE hF ls hl
  have hown : s.vm.findClass RX4 = some m.cls := hown
  have hA : ∀ q, s.heap.size ≤ q → q_n s.heap q := fun _ h => h
  have hP := hF
  have hl : lv_has ls 3 [(0, .ref (am 0)), (1, .int (nI a))] := hl
  have hL := hV.L
  have hn := hV.n
  have h_m : va_at g.1 vwCl (am 0, .inr (5, [.int th, .int (nI (sL z)), .int (nI (sn z)), .ref (am 1), .ref (am 2), .ref (am 3), .ref (am 4), .ref (am 5), .ref (am 6)])) s.heap := hP 0 _ rfl
  have h_1 : va_at g.1 vwCl (am 1, .inl (gI g, 8, .inl (fun j => nI (scd z j)))) s.heap := hP 1 _ rfl
  have h_2 : va_at g.1 vwCl (am 2, .inl (gI g, 8, .inl (fun j => nI (ssr z j)))) s.heap := hP 2 _ rfl
  have h_3 : va_at g.1 vwCl (am 3, .inl (gI g, 8, .inl (fun j => nI (sdl z j)))) s.heap := hP 3 _ rfl
  have h_4 : va_at g.1 vwCl (am 4, .inl (gI g, 8, .inl (fun j => nI (ssd z j)))) s.heap := hP 4 _ rfl
  have h_5 : va_at g.1 vwCl (am 5, .inl (gI g, 96, .inl sa)) s.heap := hP 5 _ rfl
  have h_6 : va_at g.1 vwCl (am 6, .inl (gI g, 20, .inl (sst z))) s.heap := hP 6 _ rfl
  refine lv_iconst (v := nI 0) hx hb dX4_isTaken_0 (by decide) ?_
  refine lv_istore_n (lv' := [(2, .int (nI 0)), (0, .ref (am 0)), (1, .int (nI a))]) hx hb dX4_isTaken_1 rfl hl (by decide) rfl (fun ls hl => ?_)
  have lp_2 : ∀ (n_ i : Nat) , i ≤ sn z → sn z + 1 ≤ i + n_ → takB z a i = false → ∀ (ls : Array Slot), lv_has ls 3 [(2, .int (nI i)), (0, .ref (am 0)), (1, .int (nI a))] → W p l e ({ frames := 0, cells := 0, slots := 0, locals := 0 } : Room) s m ([.ref (am 0), .int (nI a)] : List Value).toArray below meth c s.heap [] 0 0 (MQ below (q_Q (some (.int (bI (takB z a (sn z) = true))))) ([.ref (am 0), .int (nI a)] : List Value).toArray s 0 0 (fun _ => False)) (F0 m 2 ls []) := by
    intro n_
    induction n_ with
    | zero => intro i  hi_ hn_; exact absurd hn_ (by omega)
    | succ n_ ih_2 =>
      intro i  hi_i hn_i hf_ ls hl
      refine lv_iload_n hx hb dX4_isTaken_2 rfl (lv_at hl 0 rfl) ?_
      refine lv_aload_n hx hb dX4_isTaken_3 rfl (lv_at hl 1 rfl) ?_
      refine va_get (v := .int (nI (sn z))) (C := RX4) (T := TX4) (N := 9) hx hb hts (q_sub wsX40 3 rfl) hown hE.K (q_P1 h_m) 0 rfl rfl 2 (by decide) (hts _ (List.mem_of_getElem? (i := 1) rfl)) (fun _ h9 => h9) rfl dX4_isTaken_4 ?_
      refine q_icmp_ge (tgt := 28) hx hb (by omega) (by omega) dX4_isTaken_7 (by decide) (fun c_1 => ?_) (fun c_1 => ?_)
      · refine lv_iconst (v := nI 0) hx hb dX4_isTaken_28 (by decide) ?_
        exact q_zret hx hb hr hlocks dX4_isTaken_29 rfl (bI_f (by rw [← show i = sn z by omega, hf_]; decide))
      · have hb9 := hV.h c_1
        refine lv_aload_n hx hb dX4_isTaken_10 rfl (lv_at hl 1 rfl) ?_
        refine va_get (v := .ref (am 1)) (C := RX4) (T := TX4) (N := 9) hx hb hts (q_sub wsX40 3 rfl) hown hE.K (q_P1 h_m) 0 rfl rfl 3 (by decide) (hts _ (List.mem_of_getElem? (i := 2) rfl)) (fun _ h9 => h9) rfl dX4_isTaken_11 ?_
        refine lv_iload_n hx hb dX4_isTaken_14 rfl (lv_at hl 0 rfl) ?_
        refine q_iald (v := nI (scd z i)) hx hb hE h_1 (by omega) (by omega) dX4_isTaken_15 rfl ?_
        refine lv_iload_n hx hb dX4_isTaken_16 rfl (lv_at hl 2 rfl) ?_
        refine q_icmp_ne (tgt := 22) hx hb (by omega) (by omega) dX4_isTaken_17 (by decide) (fun c_2 => ?_) (fun c_2 => ?_)
        · refine lv_iinc (v := nI (i + 1)) (lv' := [(2, .int (nI (i + 1))), (0, .ref (am 0)), (1, .int (nI a))]) hx hb dX4_isTaken_22 hl (k := 0) rfl (nI_1 _) (by decide) rfl (fun ls hl => ?_)
          refine lv_goto (tgt := 2) hx hb dX4_isTaken_25 (by decide) ?_
          exact ih_2 (i + 1)  (by omega) (by omega) (by rw [takB, hf_, Bool.false_or]; exact beq_false_of_ne c_2) _ (lv_sub hl [0, 1, 2] rfl)
        · refine lv_iconst (v := nI 1) hx hb dX4_isTaken_20 (by decide) ?_
          exact q_zret hx hb hr hlocks dX4_isTaken_21 rfl (bI_t (takB_t c_1 c_2))
  exact lp_2 (sn z + 1) 0  (Nat.zero_le _) (by omega) rfl _ (lv_sub hl [0, 1, 2] rfl)
set_option maxHeartbeats 4000000 in
set_option maxRecDepth 100000 in
theorem c_X4_likeness {l : Launch} {g : gT} {am : Nat → Nat} {th : Int32} {sa : Nat → Int32} {z : sT} (hV : VS z) (hR : RS z sa) {a b s_ : Nat} (ha : a < 16) (hb_ : b < 16) (hs_ : s_ < 16) : RO l yX4_likeness wsX4_likeness ({ frames := 2, cells := 0, slots := 0, locals := 41 } : Room) [.ref (am 0), .int (nI a), .int (nI b), .int (nI s_)] g (fun H => va_P g.1 vwCl (wMo g am th sa z) H) (some (.int (likF (sL z) a b s_))) := by
  refine RO.of (cc := cX4_likeness) (maxL := 6) (ret := (some .int)) (by decide) rfl (Nat.le_of_ble_eq_true rfl) ?_
  intro p e s m below meth c hx hb hml hr hlocks hown hts hE hF ls hl
  have hown : s.vm.findClass RX4 = some m.cls := hown
  have hA : ∀ q, s.heap.size ≤ q → q_n s.heap q := fun _ h => h
  have hP := hF
  have hl : lv_has ls 6 [(0, .ref (am 0)), (1, .int (nI a)), (2, .int (nI b)), (3, .int (nI s_))] := hl
  have hL := hV.L
  have hn := hV.n
  have h_m : va_at g.1 vwCl (am 0, .inr (5, [.int th, .int (nI (sL z)), .int (nI (sn z)), .ref (am 1), .ref (am 2), .ref (am 3), .ref (am 4), .ref (am 5), .ref (am 6)])) s.heap := hP 0 _ rfl
  have h_1 : va_at g.1 vwCl (am 1, .inl (gI g, 8, .inl (fun j => nI (scd z j)))) s.heap := hP 1 _ rfl
  have h_2 : va_at g.1 vwCl (am 2, .inl (gI g, 8, .inl (fun j => nI (ssr z j)))) s.heap := hP 2 _ rfl
  have h_3 : va_at g.1 vwCl (am 3, .inl (gI g, 8, .inl (fun j => nI (sdl z j)))) s.heap := hP 3 _ rfl
  have h_4 : va_at g.1 vwCl (am 4, .inl (gI g, 8, .inl (fun j => nI (ssd z j)))) s.heap := hP 4 _ rfl
  have h_5 : va_at g.1 vwCl (am 5, .inl (gI g, 96, .inl sa)) s.heap := hP 5 _ rfl
  have h_6 : va_at g.1 vwCl (am 6, .inl (gI g, 20, .inl (sst z))) s.heap := hP 6 _ rfl
  refine lv_iconst (v := nI 0) hx hb dX4_likeness_0 (by decide) ?_
  refine lv_istore (lv' := [(4, .int (nI 0)), (0, .ref (am 0)), (1, .int (nI a)), (2, .int (nI b)), (3, .int (nI s_))]) hx hb dX4_likeness_1 hl (by decide) rfl (fun ls hl => ?_)
  refine lv_iconst (v := nI 0) hx hb dX4_likeness_3 (by decide) ?_
  refine lv_istore (lv' := [(5, .int (nI 0)), (4, .int (nI 0)), (0, .ref (am 0)), (1, .int (nI a)), (2, .int (nI b)), (3, .int (nI s_))]) hx hb dX4_likeness_4 hl (by decide) rfl (fun ls hl => ?_)
  have lp_6 : ∀ (n_ i : Nat) , i ≤ sL z → sL z + 1 ≤ i + n_ → ∀ (ls : Array Slot), lv_has ls 6 [(5, .int (nI i)), (4, .int (likS (sL z) a b s_ i)), (0, .ref (am 0)), (1, .int (nI a)), (2, .int (nI b)), (3, .int (nI s_))] → W p l e ({ frames := 2, cells := 0, slots := 0, locals := 41 } : Room) s m ([.ref (am 0), .int (nI a), .int (nI b), .int (nI s_)] : List Value).toArray below meth c s.heap [] 0 0 (MQ below (q_Q (some (.int (likF (sL z) a b s_)))) ([.ref (am 0), .int (nI a), .int (nI b), .int (nI s_)] : List Value).toArray s 0 0 (fun _ => False)) (F0 m 6 ls []) := by
    intro n_
    induction n_ with
    | zero => intro i  hi_ hn_; exact absurd hn_ (by omega)
    | succ n_ ih_6 =>
      intro i  hi_i hn_i  ls hl
      refine lv_iload hx hb dX4_likeness_6 (lv_at hl 0 rfl) ?_
      refine lv_aload_n hx hb dX4_likeness_8 rfl (lv_at hl 2 rfl) ?_
      refine va_get (v := .int (nI (sL z))) (C := RX4) (T := TX4) (N := 9) hx hb hts (q_sub wsX40 17 rfl) hown hE.K (q_P1 h_m) 0 rfl rfl 1 (by decide) (hts _ (List.mem_of_getElem? (i := 1) rfl)) (fun _ h9 => h9) rfl dX4_likeness_9 ?_
      refine q_icmp_ge (tgt := 46) hx hb (by omega) (by omega) dX4_likeness_12 (by decide) (fun c_1 => ?_) (fun c_1 => ?_)
      · have ei : i = sL z := by omega
        refine lv_iload hx hb dX4_likeness_46 (lv_at hl 1 rfl) ?_
        refine q_mabs (v := likF (sL z) a b s_) hx hb (hml.trans hl.1.symm) hown (hts _ (List.mem_of_getElem? (i := 2) rfl)) (hts _ (List.mem_of_getElem? (i := 3) rfl)) (hts _ (List.mem_of_getElem? (i := 4) rfl)) (hts _ (List.mem_of_getElem? (i := 5) rfl)) (Nat.le_of_ble_eq_true rfl) (Nat.le_of_ble_eq_true rfl) (Nat.zero_le _) (Nat.zero_le _) dX4_likeness_48 (by rw [ei]; rfl) ?_
        exact q_iret hx hb hr hlocks dX4_likeness_51 rfl
      · refine lv_iload hx hb dX4_likeness_15 (lv_at hl 1 rfl) ?_
        refine lv_iload_n hx hb dX4_likeness_17 rfl (lv_at hl 3 rfl) ?_
        refine lv_iload hx hb dX4_likeness_18 (lv_at hl 0 rfl) ?_
        refine q_roS (As := [.int (nI a), .int (nI i)]) (rest := [.int (likS (sL z) a b s_ i)]) ⟨hx, hb, hml, hown, hts⟩ (c_X4_chipOf (a := a) (b := i) ha) (va_cwS 2 hts gX4_likeness_X4_chipOf rfl rfl rfl (by decide +kernel) ⟨Nat.le_of_ble_eq_true rfl, Nat.le_of_ble_eq_true rfl⟩) hE hA trivial rfl hl.1 rfl (Nat.le_of_ble_eq_true rfl) dX4_likeness_20 ⟨Nat.zero_le _, Nat.zero_le _⟩ ?_
        refine lv_iload_n hx hb dX4_likeness_23 rfl (lv_at hl 4 rfl) ?_
        refine lv_iload hx hb dX4_likeness_24 (lv_at hl 0 rfl) ?_
        refine lv_iload_n hx hb dX4_likeness_26 rfl (lv_at hl 5 rfl) ?_
        refine q_iadd (v := nI (i + s_)) hx hb dX4_likeness_27 (nI_add _ _) ?_
        refine lv_aload_n hx hb dX4_likeness_28 rfl (lv_at hl 2 rfl) ?_
        refine va_get (v := .int (nI (sL z))) (C := RX4) (T := TX4) (N := 9) hx hb hts (q_sub wsX40 17 rfl) hown hE.K (q_P1 h_m) 0 rfl rfl 1 (by decide) (hts _ (List.mem_of_getElem? (i := 1) rfl)) (fun _ h9 => h9) rfl dX4_likeness_29 ?_
        refine q_irem (v := nI ((i + s_) % sL z)) hx hb dX4_likeness_32 (q_ne0 (by omega) (by omega)) (q_rem (by omega) (by omega) (by omega)) ?_
        refine q_roS (As := [.int (nI b), .int (nI ((i + s_) % sL z))]) (rest := [.int (chip a i), .int (likS (sL z) a b s_ i)]) ⟨hx, hb, hml, hown, hts⟩ (c_X4_chipOf (a := b) (b := (i + s_) % sL z) hb_) (va_cwS 2 hts gX4_likeness_X4_chipOf rfl rfl rfl (by decide +kernel) ⟨Nat.le_of_ble_eq_true rfl, Nat.le_of_ble_eq_true rfl⟩) hE hA trivial rfl hl.1 rfl (Nat.le_of_ble_eq_true rfl) dX4_likeness_33 ⟨Nat.zero_le _, Nat.zero_le _⟩ ?_
        refine q_imul (v := (chip a i) * (chip b ((i + s_) % sL z))) hx hb dX4_likeness_36 rfl ?_
        refine q_iadd (v := likS (sL z) a b s_ (i + 1)) hx hb dX4_likeness_37 rfl ?_
        refine lv_istore (lv' := [(4, .int (likS (sL z) a b s_ (i + 1))), (5, .int (nI i)), (0, .ref (am 0)), (1, .int (nI a)), (2, .int (nI b)), (3, .int (nI s_))]) hx hb dX4_likeness_38 hl (by decide) rfl (fun ls hl => ?_)
        refine lv_iinc (v := nI (i + 1)) (lv' := [(5, .int (nI (i + 1))), (4, .int (likS (sL z) a b s_ (i + 1))), (0, .ref (am 0)), (1, .int (nI a)), (2, .int (nI b)), (3, .int (nI s_))]) hx hb dX4_likeness_40 hl (k := 1) rfl (nI_1 _) (by decide) rfl (fun ls hl => ?_)
        refine lv_goto (tgt := 6) hx hb dX4_likeness_43 (by decide) ?_
        exact ih_6 (i + 1)  (by omega) (by omega)  _ (lv_sub hl [0, 1, 2, 3, 4, 5] rfl)
  exact lp_6 (sL z + 1) 0  (Nat.zero_le _) (by omega)  _ (lv_sub hl [0, 1, 2, 3, 4, 5] rfl)
set_option maxHeartbeats 4000000 in
set_option maxRecDepth 100000 in
theorem c_X4_wordTold {l : Launch} {g : gT} {am : Nat → Nat} {th : Int32} {sa : Nat → Int32} {z : sT} (hV : VS z) (hR : RS z sa) {k w q : Nat} (hk_ : k < sn z) (hw : w < ssd z k) (hq : q < 3) : RO l yX4_wordTold wsX4_wordTold ({ frames := 7, cells := 0, slots := 0, locals := 155 } : Room) [.ref (am 0), .int (nI k), .int (nI w), .int (nI q)] g (fun H => va_P g.1 vwCl (wMo g am th sa z) H) (some (.int (wrdV z (kM z) k w q))) := by
  refine RO.of (cc := cX4_wordTold) (maxL := 4) (ret := (some .int)) (by decide) rfl (Nat.le_of_ble_eq_true rfl) ?_
  intro p e s m below meth c hx hb hml hr hlocks hown hts hE hF ls hl
  have hown : s.vm.findClass RX4 = some m.cls := hown
  have hA : ∀ q, s.heap.size ≤ q → q_n s.heap q := fun _ h => h
  have hP := hF
  have hl : lv_has ls 4 [(0, .ref (am 0)), (1, .int (nI k)), (2, .int (nI w)), (3, .int (nI q))] := hl
  have hL := hV.L
  have hn := hV.n
  have h_m : va_at g.1 vwCl (am 0, .inr (5, [.int th, .int (nI (sL z)), .int (nI (sn z)), .ref (am 1), .ref (am 2), .ref (am 3), .ref (am 4), .ref (am 5), .ref (am 6)])) s.heap := hP 0 _ rfl
  have h_1 : va_at g.1 vwCl (am 1, .inl (gI g, 8, .inl (fun j => nI (scd z j)))) s.heap := hP 1 _ rfl
  have h_2 : va_at g.1 vwCl (am 2, .inl (gI g, 8, .inl (fun j => nI (ssr z j)))) s.heap := hP 2 _ rfl
  have h_3 : va_at g.1 vwCl (am 3, .inl (gI g, 8, .inl (fun j => nI (sdl z j)))) s.heap := hP 3 _ rfl
  have h_4 : va_at g.1 vwCl (am 4, .inl (gI g, 8, .inl (fun j => nI (ssd z j)))) s.heap := hP 4 _ rfl
  have h_5 : va_at g.1 vwCl (am 5, .inl (gI g, 96, .inl sa)) s.heap := hP 5 _ rfl
  have h_6 : va_at g.1 vwCl (am 6, .inl (gI g, 20, .inl (sst z))) s.heap := hP 6 _ rfl
  have hb9 := hV.h hk_
  refine lv_iload_n hx hb dX4_wordTold_0 rfl (lv_at hl 3 rfl) ?_
  refine q_if_ne (tgt := 18) hx hb (by omega) dX4_wordTold_1 (by decide) (fun c_1 => ?_) (fun c_1 => ?_)
  · refine lv_iload_n hx hb dX4_wordTold_18 rfl (lv_at hl 3 rfl) ?_
    refine lv_iconst (v := nI 1) hx hb dX4_wordTold_19 (by decide) ?_
    refine q_icmp_ne (tgt := 32) hx hb (by omega) (by omega) dX4_wordTold_20 (by decide) (fun c_2 => ?_) (fun c_2 => ?_)
    · refine lv_aload_n hx hb dX4_wordTold_32 rfl (lv_at hl 0 rfl) ?_
      refine lv_iload_n hx hb dX4_wordTold_33 rfl (lv_at hl 1 rfl) ?_
      refine lv_iload_n hx hb dX4_wordTold_34 rfl (lv_at hl 2 rfl) ?_
      refine q_roV (As := [.int (nI k), .int (nI w)]) (rest := []) ⟨hx, hb, hml, hown, hts⟩ (c_X4_isWrong hV hR (k := k) (w := w) hk_ hw) (cwV 2 hts gX4_wordTold_X4_isWrong rfl rfl rfl (by decide +kernel) ⟨Nat.le_of_ble_eq_true rfl, Nat.le_of_ble_eq_true rfl⟩) hE hA hP (va_recv hE.K (q_P1 h_m) (ci := 5) (q0 := 0) rfl rfl) rfl hl.1 rfl (Nat.le_of_ble_eq_true rfl) dX4_wordTold_35 ⟨Nat.zero_le _, Nat.zero_le _⟩ ?_
      exact q_iret hx hb hr hlocks dX4_wordTold_38 (by rw [wrdV, if_neg (by omega), if_neg c_2])
    · refine lv_aload_n hx hb dX4_wordTold_23 rfl (lv_at hl 0 rfl) ?_
      refine lv_iload_n hx hb dX4_wordTold_24 rfl (lv_at hl 1 rfl) ?_
      refine lv_iload_n hx hb dX4_wordTold_25 rfl (lv_at hl 2 rfl) ?_
      refine q_roV (As := [.int (nI k), .int (nI w)]) (rest := []) ⟨hx, hb, hml, hown, hts⟩ (c_X4_heardOf hV hR (k := k) (w := w) hk_ hw) (cwV 2 hts gX4_wordTold_X4_heardOf rfl rfl rfl (by decide +kernel) ⟨Nat.le_of_ble_eq_true rfl, Nat.le_of_ble_eq_true rfl⟩) hE hA hP (va_recv hE.K (q_P1 h_m) (ci := 5) (q0 := 0) rfl rfl) rfl hl.1 rfl (Nat.le_of_ble_eq_true rfl) dX4_wordTold_26 ⟨Nat.zero_le _, Nat.zero_le _⟩ ?_
      refine lv_goto (tgt := 38) hx hb dX4_wordTold_29 (by decide) ?_
      exact q_iret hx hb hr hlocks dX4_wordTold_38 (by rw [wrdV, if_neg (by omega), if_pos c_2])
  · refine lv_aload_n hx hb dX4_wordTold_4 rfl (lv_at hl 0 rfl) ?_
    refine va_get (v := .ref (am 5)) (C := RX4) (T := TX4) (N := 9) hx hb hts (q_sub wsX40 47 rfl) hown hE.K (q_P1 h_m) 0 rfl rfl 7 (by decide) (hts _ (List.mem_of_getElem? (i := 1) rfl)) (fun _ h9 => h9) rfl dX4_wordTold_5 ?_
    refine lv_bipush (v := nI 12) hx hb dX4_wordTold_8 (by decide) ?_
    refine lv_iload_n hx hb dX4_wordTold_10 rfl (lv_at hl 1 rfl) ?_
    refine q_imul (v := nI (12 * k)) hx hb dX4_wordTold_11 (pk_mul _ _) ?_
    refine lv_iload_n hx hb dX4_wordTold_12 rfl (lv_at hl 2 rfl) ?_
    refine q_iadd (v := nI (12 * k + w)) hx hb dX4_wordTold_13 (nI_add _ _) ?_
    refine q_iald (v := swd z k w) hx hb hE h_5 (by omega) (by omega) dX4_wordTold_14 (hR k hk_ w hw) ?_
    refine lv_goto (tgt := 38) hx hb dX4_wordTold_15 (by decide) ?_
    exact q_iret hx hb hr hlocks dX4_wordTold_38 (by rw [wrdV, if_pos c_1])
set_option maxHeartbeats 4000000 in
set_option maxRecDepth 100000 in
theorem c_X4_faintest {l : Launch} {g : gT} {am : Nat → Nat} {th : Int32} {sa : Nat → Int32} {z : sT} (hV : VS z) (hR : RS z sa) {k : Nat} (hk_ : k < sn z) : RO l yX4_faintest wsX4_faintest ({ frames := 6, cells := 0, slots := 0, locals := 133 } : Room) [.ref (am 0), .int (nI k)] g (fun H => va_P g.1 vwCl (wMo g am th sa z) H) (some (.int (fnF (fun w => hearF (sL z) (kM z) (scd z k) (w * sL z + sdl z k)) (ssd z k)))) := by
  refine RO.of (cc := cX4_faintest) (maxL := 4) (ret := (some .int)) (by decide) rfl (Nat.le_of_ble_eq_true rfl) ?_
  intro p e s m below meth c hx hb hml hr hlocks hown hts hE hF ls hl
  have hown : s.vm.findClass RX4 = some m.cls := hown
  have hA : ∀ q, s.heap.size ≤ q → q_n s.heap q := fun _ h => h
  have hP := hF
  have hl : lv_has ls 4 [(0, .ref (am 0)), (1, .int (nI k))] := hl
  have hL := hV.L
  have hn := hV.n
  have h_m : va_at g.1 vwCl (am 0, .inr (5, [.int th, .int (nI (sL z)), .int (nI (sn z)), .ref (am 1), .ref (am 2), .ref (am 3), .ref (am 4), .ref (am 5), .ref (am 6)])) s.heap := hP 0 _ rfl
  have h_1 : va_at g.1 vwCl (am 1, .inl (gI g, 8, .inl (fun j => nI (scd z j)))) s.heap := hP 1 _ rfl
  have h_2 : va_at g.1 vwCl (am 2, .inl (gI g, 8, .inl (fun j => nI (ssr z j)))) s.heap := hP 2 _ rfl
  have h_3 : va_at g.1 vwCl (am 3, .inl (gI g, 8, .inl (fun j => nI (sdl z j)))) s.heap := hP 3 _ rfl
  have h_4 : va_at g.1 vwCl (am 4, .inl (gI g, 8, .inl (fun j => nI (ssd z j)))) s.heap := hP 4 _ rfl
  have h_5 : va_at g.1 vwCl (am 5, .inl (gI g, 96, .inl sa)) s.heap := hP 5 _ rfl
  have h_6 : va_at g.1 vwCl (am 6, .inl (gI g, 20, .inl (sst z))) s.heap := hP 6 _ rfl
  have hb9 := hV.h hk_
  refine lv_iconst (v := nI 0) hx hb dX4_faintest_0 (by decide) ?_
  refine lv_istore_n (lv' := [(2, .int (nI 0)), (0, .ref (am 0)), (1, .int (nI k))]) hx hb dX4_faintest_1 rfl hl (by decide) rfl (fun ls hl => ?_)
  refine lv_iconst (v := nI 0) hx hb dX4_faintest_2 (by decide) ?_
  refine lv_istore_n (lv' := [(3, .int (nI 0)), (2, .int (nI 0)), (0, .ref (am 0)), (1, .int (nI k))]) hx hb dX4_faintest_3 rfl hl (by decide) rfl (fun ls hl => ?_)
  have lp_4 : ∀ (n_ i : Nat) , i ≤ ssd z k → ssd z k + 1 ≤ i + n_ → ∀ (ls : Array Slot), lv_has ls 4 [(3, .int (nI i)), (2, .int (fnF (fun w => hearF (sL z) (kM z) (scd z k) (w * sL z + sdl z k)) i)), (0, .ref (am 0)), (1, .int (nI k))] → W p l e ({ frames := 6, cells := 0, slots := 0, locals := 133 } : Room) s m ([.ref (am 0), .int (nI k)] : List Value).toArray below meth c s.heap [] 0 0 (MQ below (q_Q (some (.int (fnF (fun w => hearF (sL z) (kM z) (scd z k) (w * sL z + sdl z k)) (ssd z k))))) ([.ref (am 0), .int (nI k)] : List Value).toArray s 0 0 (fun _ => False)) (F0 m 4 ls []) := by
    intro n_
    induction n_ with
    | zero => intro i  hi_ hn_; exact absurd hn_ (by omega)
    | succ n_ ih_4 =>
      intro i  hi_i hn_i  ls hl
      refine lv_iload_n hx hb dX4_faintest_4 rfl (lv_at hl 0 rfl) ?_
      refine lv_aload_n hx hb dX4_faintest_5 rfl (lv_at hl 2 rfl) ?_
      refine va_get (v := .ref (am 4)) (C := RX4) (T := TX4) (N := 9) hx hb hts (q_sub wsX40 47 rfl) hown hE.K (q_P1 h_m) 0 rfl rfl 6 (by decide) (hts _ (List.mem_of_getElem? (i := 1) rfl)) (fun _ h9 => h9) rfl dX4_faintest_6 ?_
      refine lv_iload_n hx hb dX4_faintest_9 rfl (lv_at hl 3 rfl) ?_
      refine q_iald (v := nI (ssd z k)) hx hb hE h_4 (by omega) (by omega) dX4_faintest_10 rfl ?_
      refine q_icmp_ge (tgt := 50) hx hb (by omega) (by omega) dX4_faintest_11 (by decide) (fun c_1 => ?_) (fun c_1 => ?_)
      · refine lv_iload_n hx hb dX4_faintest_50 rfl (lv_at hl 1 rfl) ?_
        exact q_iret hx hb hr hlocks dX4_faintest_51 (by rw [show i = ssd z k by omega])
      · refine lv_iload_n hx hb dX4_faintest_14 rfl (lv_at hl 0 rfl) ?_
        refine q_if_ne (tgt := 30) hx hb (by omega) dX4_faintest_15 (by decide) (fun c_0 => ?_) (fun c_0 => ?_)
        · refine lv_iload_n hx hb dX4_faintest_30 rfl (lv_at hl 1 rfl) ?_
          refine lv_aload_n hx hb dX4_faintest_31 rfl (lv_at hl 2 rfl) ?_
          refine lv_iload_n hx hb dX4_faintest_32 rfl (lv_at hl 3 rfl) ?_
          refine lv_iload_n hx hb dX4_faintest_33 rfl (lv_at hl 0 rfl) ?_
          refine q_roV (As := [.int (nI k), .int (nI i)]) (rest := [.int (fnF (fun w => hearF (sL z) (kM z) (scd z k) (w * sL z + sdl z k)) i)]) ⟨hx, hb, hml, hown, hts⟩ (c_X4_heardOf hV hR (k := k) (w := i) hk_ (by omega)) (cwV 2 hts gX4_faintest_X4_heardOf rfl rfl rfl (by decide +kernel) ⟨Nat.le_of_ble_eq_true rfl, Nat.le_of_ble_eq_true rfl⟩) hE hA hP (va_recv hE.K (q_P1 h_m) (ci := 5) (q0 := 0) rfl rfl) rfl hl.1 rfl (Nat.le_of_ble_eq_true rfl) dX4_faintest_34 ⟨Nat.zero_le _, Nat.zero_le _⟩ ?_
          refine q_mabs (v := ab (hearF (sL z) (kM z) (scd z k) (i * sL z + sdl z k))) hx hb (hml.trans hl.1.symm) hown (hts _ (List.mem_of_getElem? (i := 2) rfl)) (hts _ (List.mem_of_getElem? (i := 3) rfl)) (hts _ (List.mem_of_getElem? (i := 4) rfl)) (hts _ (List.mem_of_getElem? (i := 5) rfl)) (Nat.le_of_ble_eq_true rfl) (Nat.le_of_ble_eq_true rfl) (Nat.zero_le _) (Nat.zero_le _) dX4_faintest_37 rfl ?_
          refine q_mmin (v := fnF (fun w => hearF (sL z) (kM z) (scd z k) (w * sL z + sdl z k)) (i + 1)) hx hb (hml.trans hl.1.symm) hown (hts _ (List.mem_of_getElem? (i := 6) rfl)) (hts _ (List.mem_of_getElem? (i := 7) rfl)) (hts _ (List.mem_of_getElem? (i := 4) rfl)) (hts _ (List.mem_of_getElem? (i := 8) rfl)) (Nat.le_of_ble_eq_true rfl) (Nat.le_of_ble_eq_true rfl) (Nat.zero_le _) (Nat.zero_le _) dX4_faintest_40 (fnF_m c_0) ?_
          refine lv_istore_n (lv' := [(2, .int (fnF (fun w => hearF (sL z) (kM z) (scd z k) (w * sL z + sdl z k)) (i + 1))), (3, .int (nI i)), (0, .ref (am 0)), (1, .int (nI k))]) hx hb dX4_faintest_43 rfl hl (by decide) rfl (fun ls hl => ?_)
          refine lv_iinc (v := nI (i + 1)) (lv' := [(3, .int (nI (i + 1))), (2, .int (fnF (fun w => hearF (sL z) (kM z) (scd z k) (w * sL z + sdl z k)) (i + 1))), (0, .ref (am 0)), (1, .int (nI k))]) hx hb dX4_faintest_44 hl (k := 1) rfl (nI_1 _) (by decide) rfl (fun ls hl => ?_)
          refine lv_goto (tgt := 4) hx hb dX4_faintest_47 (by decide) ?_
          exact ih_4 (i + 1)  (by omega) (by omega)  _ (lv_sub hl [0, 1, 2, 3] rfl)
        · refine lv_aload_n hx hb dX4_faintest_18 rfl (lv_at hl 2 rfl) ?_
          refine lv_iload_n hx hb dX4_faintest_19 rfl (lv_at hl 3 rfl) ?_
          refine lv_iload_n hx hb dX4_faintest_20 rfl (lv_at hl 0 rfl) ?_
          refine q_roV (As := [.int (nI k), .int (nI i)]) (rest := []) ⟨hx, hb, hml, hown, hts⟩ (c_X4_heardOf hV hR (k := k) (w := i) hk_ (by omega)) (cwV 2 hts gX4_faintest_X4_heardOf rfl rfl rfl (by decide +kernel) ⟨Nat.le_of_ble_eq_true rfl, Nat.le_of_ble_eq_true rfl⟩) hE hA hP (va_recv hE.K (q_P1 h_m) (ci := 5) (q0 := 0) rfl rfl) rfl hl.1 rfl (Nat.le_of_ble_eq_true rfl) dX4_faintest_21 ⟨Nat.zero_le _, Nat.zero_le _⟩ ?_
          refine q_mabs (v := fnF (fun w => hearF (sL z) (kM z) (scd z k) (w * sL z + sdl z k)) (i + 1)) hx hb (hml.trans hl.1.symm) hown (hts _ (List.mem_of_getElem? (i := 2) rfl)) (hts _ (List.mem_of_getElem? (i := 3) rfl)) (hts _ (List.mem_of_getElem? (i := 4) rfl)) (hts _ (List.mem_of_getElem? (i := 5) rfl)) (Nat.le_of_ble_eq_true rfl) (Nat.le_of_ble_eq_true rfl) (Nat.zero_le _) (Nat.zero_le _) dX4_faintest_24 (by rw [fnF_a (Or.inl c_0)]; rfl) ?_
          refine lv_goto (tgt := 43) hx hb dX4_faintest_27 (by decide) ?_
          refine lv_istore_n (lv' := [(2, .int (fnF (fun w => hearF (sL z) (kM z) (scd z k) (w * sL z + sdl z k)) (i + 1))), (3, .int (nI i)), (0, .ref (am 0)), (1, .int (nI k))]) hx hb dX4_faintest_43 rfl hl (by decide) rfl (fun ls hl => ?_)
          refine lv_iinc (v := nI (i + 1)) (lv' := [(3, .int (nI (i + 1))), (2, .int (fnF (fun w => hearF (sL z) (kM z) (scd z k) (w * sL z + sdl z k)) (i + 1))), (0, .ref (am 0)), (1, .int (nI k))]) hx hb dX4_faintest_44 hl (k := 1) rfl (nI_1 _) (by decide) rfl (fun ls hl => ?_)
          refine lv_goto (tgt := 4) hx hb dX4_faintest_47 (by decide) ?_
          exact ih_4 (i + 1)  (by omega) (by omega)  _ (lv_sub hl [0, 1, 2, 3] rfl)
  exact lp_4 (ssd z k + 1) 0  (Nat.zero_le _) (by omega)  _ (lv_sub hl [0, 1, 2, 3] rfl)
set_option maxHeartbeats 4000000 in
set_option maxRecDepth 100000 in
theorem c_X4_hillTold {l : Launch} {g : gT} {am : Nat → Nat} {th : Int32} {sa : Nat → Int32} {z : sT} (hV : VS z) (hR : RS z sa) {k q : Nat} (hk_ : k < sn z) (hq : q < 7) : RO l yX4_hillTold wsX4_hillTold ({ frames := 8, cells := 0, slots := 0, locals := 178 } : Room) [.ref (am 0), .int (nI k), .int (nI q)] g (fun H => va_P g.1 vwCl (wMo g am th sa z) H) (some (.int (abtV z (kM z) k q))) := by
  refine RO.of (cc := cX4_hillTold) (maxL := 3) (ret := (some .int)) (by decide) rfl (Nat.le_of_ble_eq_true rfl) ?_
  intro p e s m below meth c hx hb hml hr hlocks hown hts hE hF ls hl
  have hown : s.vm.findClass RX4 = some m.cls := hown
  have hA : ∀ q, s.heap.size ≤ q → q_n s.heap q := fun _ h => h
  have hP := hF
  have hl : lv_has ls 3 [(0, .ref (am 0)), (1, .int (nI k)), (2, .int (nI q))] := hl
  have hL := hV.L
  have hn := hV.n
  have h_m : va_at g.1 vwCl (am 0, .inr (5, [.int th, .int (nI (sL z)), .int (nI (sn z)), .ref (am 1), .ref (am 2), .ref (am 3), .ref (am 4), .ref (am 5), .ref (am 6)])) s.heap := hP 0 _ rfl
  have h_1 : va_at g.1 vwCl (am 1, .inl (gI g, 8, .inl (fun j => nI (scd z j)))) s.heap := hP 1 _ rfl
  have h_2 : va_at g.1 vwCl (am 2, .inl (gI g, 8, .inl (fun j => nI (ssr z j)))) s.heap := hP 2 _ rfl
  have h_3 : va_at g.1 vwCl (am 3, .inl (gI g, 8, .inl (fun j => nI (sdl z j)))) s.heap := hP 3 _ rfl
  have h_4 : va_at g.1 vwCl (am 4, .inl (gI g, 8, .inl (fun j => nI (ssd z j)))) s.heap := hP 4 _ rfl
  have h_5 : va_at g.1 vwCl (am 5, .inl (gI g, 96, .inl sa)) s.heap := hP 5 _ rfl
  have h_6 : va_at g.1 vwCl (am 6, .inl (gI g, 20, .inl (sst z))) s.heap := hP 6 _ rfl
  have hb9 := hV.h hk_
  refine lv_iload_n hx hb dX4_hillTold_0 rfl (lv_at hl 2 rfl) ?_
  rcases (show q = 0 ∨ q = 1 ∨ q = 2 ∨ q = 3 ∨ q = 4 ∨ q = 5 ∨ q = 6 by omega) with rfl | rfl | rfl | rfl | rfl | rfl | rfl
  · refine lv_tableIn (tgt := 40) hx hb dX4_hillTold_1 (by decide) (by decide) rfl (by decide) ?_
    refine lv_aload_n hx hb dX4_hillTold_40 rfl (lv_at hl 0 rfl) ?_
    refine va_get (v := .ref (am 1)) (C := RX4) (T := TX4) (N := 9) hx hb hts (q_sub wsX40 66 rfl) hown hE.K (q_P1 h_m) 0 rfl rfl 3 (by decide) (hts _ (List.mem_of_getElem? (i := 1) rfl)) (fun _ h9 => h9) rfl dX4_hillTold_41 ?_
    refine lv_iload_n hx hb dX4_hillTold_44 rfl (lv_at hl 1 rfl) ?_
    refine q_iald (v := nI (scd z k)) hx hb hE h_1 (by omega) (by omega) dX4_hillTold_45 rfl ?_
    exact q_iret hx hb hr hlocks dX4_hillTold_46 rfl
  · refine lv_tableIn (tgt := 47) hx hb dX4_hillTold_1 (by decide) (by decide) rfl (by decide) ?_
    refine lv_aload_n hx hb dX4_hillTold_47 rfl (lv_at hl 0 rfl) ?_
    refine va_get (v := .ref (am 2)) (C := RX4) (T := TX4) (N := 9) hx hb hts (q_sub wsX40 66 rfl) hown hE.K (q_P1 h_m) 0 rfl rfl 4 (by decide) (hts _ (List.mem_of_getElem? (i := 2) rfl)) (fun _ h9 => h9) rfl dX4_hillTold_48 ?_
    refine lv_iload_n hx hb dX4_hillTold_51 rfl (lv_at hl 1 rfl) ?_
    refine q_iald (v := nI (ssr z k)) hx hb hE h_2 (by omega) (by omega) dX4_hillTold_52 rfl ?_
    exact q_iret hx hb hr hlocks dX4_hillTold_53 rfl
  · refine lv_tableIn (tgt := 54) hx hb dX4_hillTold_1 (by decide) (by decide) rfl (by decide) ?_
    refine lv_aload_n hx hb dX4_hillTold_54 rfl (lv_at hl 0 rfl) ?_
    refine va_get (v := .ref (am 3)) (C := RX4) (T := TX4) (N := 9) hx hb hts (q_sub wsX40 66 rfl) hown hE.K (q_P1 h_m) 0 rfl rfl 5 (by decide) (hts _ (List.mem_of_getElem? (i := 3) rfl)) (fun _ h9 => h9) rfl dX4_hillTold_55 ?_
    refine lv_iload_n hx hb dX4_hillTold_58 rfl (lv_at hl 1 rfl) ?_
    refine q_iald (v := nI (sdl z k)) hx hb hE h_3 (by omega) (by omega) dX4_hillTold_59 rfl ?_
    exact q_iret hx hb hr hlocks dX4_hillTold_60 rfl
  · refine lv_tableIn (tgt := 61) hx hb dX4_hillTold_1 (by decide) (by decide) rfl (by decide) ?_
    refine lv_aload_n hx hb dX4_hillTold_61 rfl (lv_at hl 0 rfl) ?_
    refine va_get (v := .ref (am 4)) (C := RX4) (T := TX4) (N := 9) hx hb hts (q_sub wsX40 66 rfl) hown hE.K (q_P1 h_m) 0 rfl rfl 6 (by decide) (hts _ (List.mem_of_getElem? (i := 4) rfl)) (fun _ h9 => h9) rfl dX4_hillTold_62 ?_
    refine lv_iload_n hx hb dX4_hillTold_65 rfl (lv_at hl 1 rfl) ?_
    refine q_iald (v := nI (ssd z k)) hx hb hE h_4 (by omega) (by omega) dX4_hillTold_66 rfl ?_
    exact q_iret hx hb hr hlocks dX4_hillTold_67 rfl
  · refine lv_tableIn (tgt := 68) hx hb dX4_hillTold_1 (by decide) (by decide) rfl (by decide) ?_
    refine lv_aload_n hx hb dX4_hillTold_68 rfl (lv_at hl 0 rfl) ?_
    refine lv_iload_n hx hb dX4_hillTold_69 rfl (lv_at hl 1 rfl) ?_
    refine q_roV (As := [.int (nI k)]) (rest := []) ⟨hx, hb, hml, hown, hts⟩ (c_X4_wrongOf hV hR (k := k) hk_) (cwV 1 hts gX4_hillTold_X4_wrongOf rfl rfl rfl (by decide +kernel) ⟨Nat.le_of_ble_eq_true rfl, Nat.le_of_ble_eq_true rfl⟩) hE hA hP (va_recv hE.K (q_P1 h_m) (ci := 5) (q0 := 0) rfl rfl) rfl hl.1 rfl (Nat.le_of_ble_eq_true rfl) dX4_hillTold_70 ⟨Nat.zero_le _, Nat.zero_le _⟩ ?_
    exact q_iret hx hb hr hlocks dX4_hillTold_73 rfl
  · refine lv_tableIn (tgt := 74) hx hb dX4_hillTold_1 (by decide) (by decide) rfl (by decide) ?_
    refine lv_aload_n hx hb dX4_hillTold_74 rfl (lv_at hl 0 rfl) ?_
    refine lv_iload_n hx hb dX4_hillTold_75 rfl (lv_at hl 1 rfl) ?_
    refine q_roV (As := [.int (nI k)]) (rest := []) ⟨hx, hb, hml, hown, hts⟩ (c_X4_endOf hV hR (k := k) hk_) (cwV 1 hts gX4_hillTold_X4_endOf rfl rfl rfl (by decide +kernel) ⟨Nat.le_of_ble_eq_true rfl, Nat.le_of_ble_eq_true rfl⟩) hE hA hP (va_recv hE.K (q_P1 h_m) (ci := 5) (q0 := 0) rfl rfl) rfl hl.1 rfl (Nat.le_of_ble_eq_true rfl) dX4_hillTold_76 ⟨Nat.zero_le _, Nat.zero_le _⟩ ?_
    exact q_iret hx hb hr hlocks dX4_hillTold_79 rfl
  · refine lv_tableOut (tgt := 80) hx hb dX4_hillTold_1 (by decide) (by decide) ?_
    refine lv_aload_n hx hb dX4_hillTold_80 rfl (lv_at hl 0 rfl) ?_
    refine lv_iload_n hx hb dX4_hillTold_81 rfl (lv_at hl 1 rfl) ?_
    refine q_roV (As := [.int (nI k)]) (rest := []) ⟨hx, hb, hml, hown, hts⟩ (c_X4_faintest hV hR (k := k) hk_) (cwV 1 hts gX4_hillTold_X4_faintest rfl rfl rfl (by decide +kernel) ⟨Nat.le_of_ble_eq_true rfl, Nat.le_of_ble_eq_true rfl⟩) hE hA hP (va_recv hE.K (q_P1 h_m) (ci := 5) (q0 := 0) rfl rfl) rfl hl.1 rfl (Nat.le_of_ble_eq_true rfl) dX4_hillTold_82 ⟨Nat.zero_le _, Nat.zero_le _⟩ ?_
    exact q_iret hx hb hr hlocks dX4_hillTold_85 rfl
set_option maxHeartbeats 4000000 in
set_option maxRecDepth 100000 in
theorem c_X4_counted {l : Launch} {g : gT} {am : Nat → Nat} {th : Int32} {sa : Nat → Int32} {z : sT} (hV : VS z) (hR : RS z sa) {q : Nat} (hq : q < 7) : RO l yX4_counted wsX4_counted ({ frames := 9, cells := 0, slots := 0, locals := 200 } : Room) [.ref (am 0), .int (nI q)] g (fun H => va_P g.1 vwCl (wMo g am th sa z) H) (some (.int (cntV z (kM z) q))) := by
  refine RO.of (cc := cX4_counted) (maxL := 4) (ret := (some .int)) (by decide) rfl (Nat.le_of_ble_eq_true rfl) ?_
  intro p e s m below meth c hx hb hml hr hlocks hown hts hE hF ls hl
  have hown : s.vm.findClass RX4 = some m.cls := hown
  have hA : ∀ q, s.heap.size ≤ q → q_n s.heap q := fun _ h => h
  have hP := hF
  have hl : lv_has ls 4 [(0, .ref (am 0)), (1, .int (nI q))] := hl
  have hL := hV.L
  have hn := hV.n
  have h_m : va_at g.1 vwCl (am 0, .inr (5, [.int th, .int (nI (sL z)), .int (nI (sn z)), .ref (am 1), .ref (am 2), .ref (am 3), .ref (am 4), .ref (am 5), .ref (am 6)])) s.heap := hP 0 _ rfl
  have h_1 : va_at g.1 vwCl (am 1, .inl (gI g, 8, .inl (fun j => nI (scd z j)))) s.heap := hP 1 _ rfl
  have h_2 : va_at g.1 vwCl (am 2, .inl (gI g, 8, .inl (fun j => nI (ssr z j)))) s.heap := hP 2 _ rfl
  have h_3 : va_at g.1 vwCl (am 3, .inl (gI g, 8, .inl (fun j => nI (sdl z j)))) s.heap := hP 3 _ rfl
  have h_4 : va_at g.1 vwCl (am 4, .inl (gI g, 8, .inl (fun j => nI (ssd z j)))) s.heap := hP 4 _ rfl
  have h_5 : va_at g.1 vwCl (am 5, .inl (gI g, 96, .inl sa)) s.heap := hP 5 _ rfl
  have h_6 : va_at g.1 vwCl (am 6, .inl (gI g, 20, .inl (sst z))) s.heap := hP 6 _ rfl
  refine lv_iconst (v := nI 0) hx hb dX4_counted_0 (by decide) ?_
  refine lv_istore_n (lv' := [(2, .int (nI 0)), (0, .ref (am 0)), (1, .int (nI q))]) hx hb dX4_counted_1 rfl hl (by decide) rfl (fun ls hl => ?_)
  refine lv_iload_n hx hb dX4_counted_2 rfl (lv_at hl 2 rfl) ?_
  rcases (show q = 0 ∨ q = 1 ∨ q = 2 ∨ q = 3 ∨ q = 4 ∨ q = 5 ∨ q = 6 by omega) with rfl | rfl | rfl | rfl | rfl | rfl | rfl
  · refine lv_tableIn (tgt := 40) hx hb dX4_counted_3 (by decide) (by decide) rfl (by decide) ?_
    refine lv_aload_n hx hb dX4_counted_40 rfl (lv_at hl 1 rfl) ?_
    refine va_get (v := .int (nI (sL z))) (C := RX4) (T := TX4) (N := 9) hx hb hts (q_sub wsX40 78 rfl) hown hE.K (q_P1 h_m) 0 rfl rfl 1 (by decide) (hts _ (List.mem_of_getElem? (i := 1) rfl)) (fun _ h9 => h9) rfl dX4_counted_41 ?_
    exact q_iret hx hb hr hlocks dX4_counted_44 rfl
  · refine lv_tableIn (tgt := 45) hx hb dX4_counted_3 (by decide) (by decide) rfl (by decide) ?_
    refine lv_aload_n hx hb dX4_counted_45 rfl (lv_at hl 1 rfl) ?_
    refine va_get (v := .int (nI (sn z))) (C := RX4) (T := TX4) (N := 9) hx hb hts (q_sub wsX40 78 rfl) hown hE.K (q_P1 h_m) 0 rfl rfl 2 (by decide) (hts _ (List.mem_of_getElem? (i := 2) rfl)) (fun _ h9 => h9) rfl dX4_counted_46 ?_
    exact q_iret hx hb hr hlocks dX4_counted_49 rfl
  · refine lv_tableIn (tgt := 50) hx hb dX4_counted_3 (by decide) (by decide) rfl (by decide) ?_
    refine lv_iconst (v := nI 0) hx hb dX4_counted_50 (by decide) ?_
    refine lv_istore_n (lv' := [(3, .int (nI 0)), (2, .int (nI 0)), (0, .ref (am 0)), (1, .int (nI 2))]) hx hb dX4_counted_51 rfl hl (by decide) rfl (fun ls hl => ?_)
    have lp_52 : ∀ (n_ i : Nat) , i ≤ sn z → sn z + 1 ≤ i + n_ → ∀ (ls : Array Slot), lv_has ls 4 [(3, .int (nI i)), (2, .int (nI (sumN (ssd z) i))), (0, .ref (am 0))] → W p l e ({ frames := 9, cells := 0, slots := 0, locals := 200 } : Room) s m ([.ref (am 0), .int (nI 2)] : List Value).toArray below meth c s.heap [] 0 0 (MQ below (q_Q (some (.int (cntV z (kM z) 2)))) ([.ref (am 0), .int (nI 2)] : List Value).toArray s 0 0 (fun _ => False)) (F0 m 52 ls []) := by
      intro n_
      induction n_ with
      | zero => intro i  hi_ hn_; exact absurd hn_ (by omega)
      | succ n_ ih_52 =>
        intro i  hi_i hn_i  ls hl
        refine lv_iload_n hx hb dX4_counted_52 rfl (lv_at hl 0 rfl) ?_
        refine lv_aload_n hx hb dX4_counted_53 rfl (lv_at hl 2 rfl) ?_
        refine va_get (v := .int (nI (sn z))) (C := RX4) (T := TX4) (N := 9) hx hb hts (q_sub wsX40 78 rfl) hown hE.K (q_P1 h_m) 0 rfl rfl 2 (by decide) (hts _ (List.mem_of_getElem? (i := 2) rfl)) (fun _ h9 => h9) rfl dX4_counted_54 ?_
        refine q_icmp_ge (tgt := 75) hx hb (by omega) (by omega) dX4_counted_57 (by decide) (fun c_1 => ?_) (fun c_1 => ?_)
        · refine lv_iload_n hx hb dX4_counted_75 rfl (lv_at hl 1 rfl) ?_
          exact q_iret hx hb hr hlocks dX4_counted_76 (by rw [show i = sn z by omega]; rfl)
        · have hb9 := hV.h c_1
          refine lv_iload_n hx hb dX4_counted_60 rfl (lv_at hl 1 rfl) ?_
          refine lv_aload_n hx hb dX4_counted_61 rfl (lv_at hl 2 rfl) ?_
          refine va_get (v := .ref (am 4)) (C := RX4) (T := TX4) (N := 9) hx hb hts (q_sub wsX40 78 rfl) hown hE.K (q_P1 h_m) 0 rfl rfl 6 (by decide) (hts _ (List.mem_of_getElem? (i := 3) rfl)) (fun _ h9 => h9) rfl dX4_counted_62 ?_
          refine lv_iload_n hx hb dX4_counted_65 rfl (lv_at hl 0 rfl) ?_
          refine q_iald (v := nI (ssd z i)) hx hb hE h_4 (by omega) (by omega) dX4_counted_66 rfl ?_
          refine q_iadd (v := nI (sumN (ssd z) (i + 1))) hx hb dX4_counted_67 (nI_add _ _) ?_
          refine lv_istore_n (lv' := [(2, .int (nI (sumN (ssd z) (i + 1)))), (3, .int (nI i)), (0, .ref (am 0))]) hx hb dX4_counted_68 rfl hl (by decide) rfl (fun ls hl => ?_)
          refine lv_iinc (v := nI (i + 1)) (lv' := [(3, .int (nI (i + 1))), (2, .int (nI (sumN (ssd z) (i + 1)))), (0, .ref (am 0))]) hx hb dX4_counted_69 hl (k := 1) rfl (nI_1 _) (by decide) rfl (fun ls hl => ?_)
          refine lv_goto (tgt := 52) hx hb dX4_counted_72 (by decide) ?_
          exact ih_52 (i + 1)  (by omega) (by omega)  _ (lv_sub hl [0, 1, 2] rfl)
    exact lp_52 (sn z + 1) 0  (Nat.zero_le _) (by omega)  _ (lv_sub hl [0, 1, 2] rfl)
  · refine lv_tableIn (tgt := 77) hx hb dX4_counted_3 (by decide) (by decide) rfl (by decide) ?_
    refine lv_aload_n hx hb dX4_counted_77 rfl (lv_at hl 1 rfl) ?_
    refine q_roV (As := []) (rest := []) ⟨hx, hb, hml, hown, hts⟩ (c_X4_allWrong hV hR) (cwV 0 hts gX4_counted_X4_allWrong rfl rfl rfl (by decide +kernel) ⟨Nat.le_of_ble_eq_true rfl, Nat.le_of_ble_eq_true rfl⟩) hE hA hP (va_recv hE.K (q_P1 h_m) (ci := 5) (q0 := 0) rfl rfl) rfl hl.1 rfl (Nat.le_of_ble_eq_true rfl) dX4_counted_78 ⟨Nat.zero_le _, Nat.zero_le _⟩ ?_
    exact q_iret hx hb hr hlocks dX4_counted_81 rfl
  · refine lv_tableIn (tgt := 82) hx hb dX4_counted_3 (by decide) (by decide) rfl (by decide) ?_
    refine lv_aload_n hx hb dX4_counted_82 rfl (lv_at hl 1 rfl) ?_
    refine q_roV (As := []) (rest := []) ⟨hx, hb, hml, hown, hts⟩ (c_X4_end hV hR) (cwV 0 hts gX4_counted_X4_end rfl rfl rfl (by decide +kernel) ⟨Nat.le_of_ble_eq_true rfl, Nat.le_of_ble_eq_true rfl⟩) hE hA hP (va_recv hE.K (q_P1 h_m) (ci := 5) (q0 := 0) rfl rfl) rfl hl.1 rfl (Nat.le_of_ble_eq_true rfl) dX4_counted_83 ⟨Nat.zero_le _, Nat.zero_le _⟩ ?_
    exact q_iret hx hb hr hlocks dX4_counted_86 rfl
  · refine lv_tableIn (tgt := 87) hx hb dX4_counted_3 (by decide) (by decide) rfl (by decide) ?_
    refine lv_aload_n hx hb dX4_counted_87 rfl (lv_at hl 1 rfl) ?_
    refine q_roV (As := []) (rest := []) ⟨hx, hb, hml, hown, hts⟩ (c_X4_highest hV hR) (cwV 0 hts gX4_counted_X4_highest rfl rfl rfl (by decide +kernel) ⟨Nat.le_of_ble_eq_true rfl, Nat.le_of_ble_eq_true rfl⟩) hE hA hP (va_recv hE.K (q_P1 h_m) (ci := 5) (q0 := 0) rfl rfl) rfl hl.1 rfl (Nat.le_of_ble_eq_true rfl) dX4_counted_88 ⟨Nat.zero_le _, Nat.zero_le _⟩ ?_
    exact q_iret hx hb hr hlocks dX4_counted_91 rfl
  · refine lv_tableOut (tgt := 92) hx hb dX4_counted_3 (by decide) (by decide) ?_
    refine lv_iconst (v := nI 0) hx hb dX4_counted_92 (by decide) ?_
    refine lv_istore_n (lv' := [(3, .int (nI 0)), (2, .int (nI 0)), (0, .ref (am 0)), (1, .int (nI 6))]) hx hb dX4_counted_93 rfl hl (by decide) rfl (fun ls hl => ?_)
    have lp_94 : ∀ (n_ i : Nat) , i ≤ sL z → sL z + 1 ≤ i + n_ → ∀ (ls : Array Slot), lv_has ls 4 [(3, .int (nI i)), (2, .int (nI (sumN (fun c => if takB z c (sn z) = true then 0 else 1) i))), (0, .ref (am 0))] → W p l e ({ frames := 9, cells := 0, slots := 0, locals := 200 } : Room) s m ([.ref (am 0), .int (nI 6)] : List Value).toArray below meth c s.heap [] 0 0 (MQ below (q_Q (some (.int (cntV z (kM z) 6)))) ([.ref (am 0), .int (nI 6)] : List Value).toArray s 0 0 (fun _ => False)) (F0 m 94 ls []) := by
      intro n_
      induction n_ with
      | zero => intro i  hi_ hn_; exact absurd hn_ (by omega)
      | succ n_ ih_94 =>
        intro i  hi_i hn_i  ls hl
        refine lv_iload_n hx hb dX4_counted_94 rfl (lv_at hl 0 rfl) ?_
        refine lv_aload_n hx hb dX4_counted_95 rfl (lv_at hl 2 rfl) ?_
        refine va_get (v := .int (nI (sL z))) (C := RX4) (T := TX4) (N := 9) hx hb hts (q_sub wsX40 78 rfl) hown hE.K (q_P1 h_m) 0 rfl rfl 1 (by decide) (hts _ (List.mem_of_getElem? (i := 1) rfl)) (fun _ h9 => h9) rfl dX4_counted_96 ?_
        refine q_icmp_ge (tgt := 124) hx hb (by omega) (by omega) dX4_counted_99 (by decide) (fun c_2 => ?_) (fun c_2 => ?_)
        · refine lv_iload_n hx hb dX4_counted_124 rfl (lv_at hl 1 rfl) ?_
          exact q_iret hx hb hr hlocks dX4_counted_125 (by rw [show i = sL z by omega]; rfl)
        · refine lv_iload_n hx hb dX4_counted_102 rfl (lv_at hl 1 rfl) ?_
          refine lv_aload_n hx hb dX4_counted_103 rfl (lv_at hl 2 rfl) ?_
          refine lv_iload_n hx hb dX4_counted_104 rfl (lv_at hl 0 rfl) ?_
          refine q_roV (As := [.int (nI i)]) (rest := [.int (nI (sumN (fun c => if takB z c (sn z) = true then 0 else 1) i))]) ⟨hx, hb, hml, hown, hts⟩ (c_X4_isTaken hV hR (a := i) (by omega)) (cwV 1 hts gX4_counted_X4_isTaken rfl rfl rfl (by decide +kernel) ⟨Nat.le_of_ble_eq_true rfl, Nat.le_of_ble_eq_true rfl⟩) hE hA hP (va_recv hE.K (q_P1 h_m) (ci := 5) (q0 := 0) rfl rfl) rfl hl.1 rfl (Nat.le_of_ble_eq_true rfl) dX4_counted_105 ⟨Nat.zero_le _, Nat.zero_le _⟩ ?_
          refine q_ifb_eq (tgt := 115) hx hb dX4_counted_108 (by decide) (fun c_t => ?_) (fun c_t => ?_)
          · refine lv_iconst (v := nI 1) hx hb dX4_counted_115 (by decide) ?_
            refine q_iadd (v := nI (sumN (fun c => if takB z c (sn z) = true then 0 else 1) (i + 1))) hx hb dX4_counted_116 (by rw [sumN, if_neg c_t]; exact nI_add _ _) ?_
            refine lv_istore_n (lv' := [(2, .int (nI (sumN (fun c => if takB z c (sn z) = true then 0 else 1) (i + 1)))), (3, .int (nI i)), (0, .ref (am 0))]) hx hb dX4_counted_117 rfl hl (by decide) rfl (fun ls hl => ?_)
            refine lv_iinc (v := nI (i + 1)) (lv' := [(3, .int (nI (i + 1))), (2, .int (nI (sumN (fun c => if takB z c (sn z) = true then 0 else 1) (i + 1)))), (0, .ref (am 0))]) hx hb dX4_counted_118 hl (k := 1) rfl (nI_1 _) (by decide) rfl (fun ls hl => ?_)
            refine lv_goto (tgt := 94) hx hb dX4_counted_121 (by decide) ?_
            exact ih_94 (i + 1)  (by omega) (by omega)  _ (lv_sub hl [0, 1, 2] rfl)
          · refine lv_iconst (v := nI 0) hx hb dX4_counted_111 (by decide) ?_
            refine lv_goto (tgt := 116) hx hb dX4_counted_112 (by decide) ?_
            refine q_iadd (v := nI (sumN (fun c => if takB z c (sn z) = true then 0 else 1) (i + 1))) hx hb dX4_counted_116 (by rw [sumN, if_pos c_t]; exact nI_add _ _) ?_
            refine lv_istore_n (lv' := [(2, .int (nI (sumN (fun c => if takB z c (sn z) = true then 0 else 1) (i + 1)))), (3, .int (nI i)), (0, .ref (am 0))]) hx hb dX4_counted_117 rfl hl (by decide) rfl (fun ls hl => ?_)
            refine lv_iinc (v := nI (i + 1)) (lv' := [(3, .int (nI (i + 1))), (2, .int (nI (sumN (fun c => if takB z c (sn z) = true then 0 else 1) (i + 1)))), (0, .ref (am 0))]) hx hb dX4_counted_118 hl (k := 1) rfl (nI_1 _) (by decide) rfl (fun ls hl => ?_)
            refine lv_goto (tgt := 94) hx hb dX4_counted_121 (by decide) ?_
            exact ih_94 (i + 1)  (by omega) (by omega)  _ (lv_sub hl [0, 1, 2] rfl)
    exact lp_94 (sL z + 1) 0  (Nat.zero_le _) (by omega)  _ (lv_sub hl [0, 1, 2] rfl)
set_option maxHeartbeats 4000000 in
set_option maxRecDepth 100000 in
theorem c_X4_disturbed {l : Launch} {g : gT} {am : Nat → Nat} {th : Int32} {sa : Nat → Int32} {z : sT} (hV : VS z) (hR : RS z sa) {a b : Nat} (ha : a < sL z) (hb_ : b < sL z) : RO l yX4_disturbed wsX4_disturbed ({ frames := 3, cells := 0, slots := 0, locals := 66 } : Room) [.ref (am 0), .int (nI a), .int (nI b)] g (fun H => va_P g.1 vwCl (wMo g am th sa z) H) (some (.int (disF z a b))) := by
  refine RO.of (cc := cX4_disturbed) (maxL := 5) (ret := (some .int)) (by decide) rfl (Nat.le_of_ble_eq_true rfl) ?_
  intro p e s m below meth c hx hb hml hr hlocks hown hts hE hF ls hl
  have hown : s.vm.findClass RX4 = some m.cls := hown
  have hA : ∀ q, s.heap.size ≤ q → q_n s.heap q := fun _ h => h
  have hP := hF
  have hl : lv_has ls 5 [(0, .ref (am 0)), (1, .int (nI a)), (2, .int (nI b))] := hl
  have hL := hV.L
  have hn := hV.n
  have h_m : va_at g.1 vwCl (am 0, .inr (5, [.int th, .int (nI (sL z)), .int (nI (sn z)), .ref (am 1), .ref (am 2), .ref (am 3), .ref (am 4), .ref (am 5), .ref (am 6)])) s.heap := hP 0 _ rfl
  have h_1 : va_at g.1 vwCl (am 1, .inl (gI g, 8, .inl (fun j => nI (scd z j)))) s.heap := hP 1 _ rfl
  have h_2 : va_at g.1 vwCl (am 2, .inl (gI g, 8, .inl (fun j => nI (ssr z j)))) s.heap := hP 2 _ rfl
  have h_3 : va_at g.1 vwCl (am 3, .inl (gI g, 8, .inl (fun j => nI (sdl z j)))) s.heap := hP 3 _ rfl
  have h_4 : va_at g.1 vwCl (am 4, .inl (gI g, 8, .inl (fun j => nI (ssd z j)))) s.heap := hP 4 _ rfl
  have h_5 : va_at g.1 vwCl (am 5, .inl (gI g, 96, .inl sa)) s.heap := hP 5 _ rfl
  have h_6 : va_at g.1 vwCl (am 6, .inl (gI g, 20, .inl (sst z))) s.heap := hP 6 _ rfl
  refine lv_iconst (v := nI 0) hx hb dX4_disturbed_0 (by decide) ?_
  refine lv_istore_n (lv' := [(3, .int (nI 0)), (0, .ref (am 0)), (1, .int (nI a)), (2, .int (nI b))]) hx hb dX4_disturbed_1 rfl hl (by decide) rfl (fun ls hl => ?_)
  refine lv_iconst (v := nI 0) hx hb dX4_disturbed_2 (by decide) ?_
  refine lv_istore (lv' := [(4, .int (nI 0)), (3, .int (nI 0)), (0, .ref (am 0)), (1, .int (nI a)), (2, .int (nI b))]) hx hb dX4_disturbed_3 hl (by decide) rfl (fun ls hl => ?_)
  have lp_5 : ∀ (n_ i : Nat) , i ≤ sn z → sn z + 1 ≤ i + n_ → ∀ (ls : Array Slot), lv_has ls 5 [(4, .int (nI i)), (3, .int (sumI (fun h => nI (ssr z h) * likF (sL z) a (scd z h) ((b + sL z - sdl z h) % sL z)) i)), (0, .ref (am 0)), (1, .int (nI a)), (2, .int (nI b))] → W p l e ({ frames := 3, cells := 0, slots := 0, locals := 66 } : Room) s m ([.ref (am 0), .int (nI a), .int (nI b)] : List Value).toArray below meth c s.heap [] 0 0 (MQ below (q_Q (some (.int (disF z a b)))) ([.ref (am 0), .int (nI a), .int (nI b)] : List Value).toArray s 0 0 (fun _ => False)) (F0 m 5 ls []) := by
    intro n_
    induction n_ with
    | zero => intro i  hi_ hn_; exact absurd hn_ (by omega)
    | succ n_ ih_5 =>
      intro i  hi_i hn_i  ls hl
      refine lv_iload hx hb dX4_disturbed_5 (lv_at hl 0 rfl) ?_
      refine lv_aload_n hx hb dX4_disturbed_7 rfl (lv_at hl 2 rfl) ?_
      refine va_get (v := .int (nI (sn z))) (C := RX4) (T := TX4) (N := 9) hx hb hts (q_sub wsX40 25 rfl) hown hE.K (q_P1 h_m) 0 rfl rfl 2 (by decide) (hts _ (List.mem_of_getElem? (i := 1) rfl)) (fun _ h9 => h9) rfl dX4_disturbed_8 ?_
      refine q_icmp_ge (tgt := 62) hx hb (by omega) (by omega) dX4_disturbed_11 (by decide) (fun c_1 => ?_) (fun c_1 => ?_)
      · refine lv_iload_n hx hb dX4_disturbed_62 rfl (lv_at hl 1 rfl) ?_
        exact q_iret hx hb hr hlocks dX4_disturbed_63 (by rw [show i = sn z by omega]; rfl)
      · have hb9 := hV.h c_1
        have hd9 := hV.hL c_1
        refine lv_iload_n hx hb dX4_disturbed_14 rfl (lv_at hl 1 rfl) ?_
        refine lv_aload_n hx hb dX4_disturbed_15 rfl (lv_at hl 2 rfl) ?_
        refine va_get (v := .ref (am 2)) (C := RX4) (T := TX4) (N := 9) hx hb hts (q_sub wsX40 25 rfl) hown hE.K (q_P1 h_m) 0 rfl rfl 4 (by decide) (hts _ (List.mem_of_getElem? (i := 2) rfl)) (fun _ h9 => h9) rfl dX4_disturbed_16 ?_
        refine lv_iload hx hb dX4_disturbed_19 (lv_at hl 0 rfl) ?_
        refine q_iald (v := nI (ssr z i)) hx hb hE h_2 (by omega) (by omega) dX4_disturbed_21 rfl ?_
        refine lv_aload_n hx hb dX4_disturbed_22 rfl (lv_at hl 2 rfl) ?_
        refine lv_iload_n hx hb dX4_disturbed_23 rfl (lv_at hl 3 rfl) ?_
        refine lv_aload_n hx hb dX4_disturbed_24 rfl (lv_at hl 2 rfl) ?_
        refine va_get (v := .ref (am 1)) (C := RX4) (T := TX4) (N := 9) hx hb hts (q_sub wsX40 25 rfl) hown hE.K (q_P1 h_m) 0 rfl rfl 3 (by decide) (hts _ (List.mem_of_getElem? (i := 3) rfl)) (fun _ h9 => h9) rfl dX4_disturbed_25 ?_
        refine lv_iload hx hb dX4_disturbed_28 (lv_at hl 0 rfl) ?_
        refine q_iald (v := nI (scd z i)) hx hb hE h_1 (by omega) (by omega) dX4_disturbed_30 rfl ?_
        refine lv_iload_n hx hb dX4_disturbed_31 rfl (lv_at hl 4 rfl) ?_
        refine lv_aload_n hx hb dX4_disturbed_32 rfl (lv_at hl 2 rfl) ?_
        refine va_get (v := .ref (am 3)) (C := RX4) (T := TX4) (N := 9) hx hb hts (q_sub wsX40 25 rfl) hown hE.K (q_P1 h_m) 0 rfl rfl 5 (by decide) (hts _ (List.mem_of_getElem? (i := 4) rfl)) (fun _ h9 => h9) rfl dX4_disturbed_33 ?_
        refine lv_iload hx hb dX4_disturbed_36 (lv_at hl 0 rfl) ?_
        refine q_iald (v := nI (sdl z i)) hx hb hE h_3 (by omega) (by omega) dX4_disturbed_38 rfl ?_
        refine q_isub (v := nI b - nI (sdl z i)) hx hb dX4_disturbed_39 rfl ?_
        refine lv_aload_n hx hb dX4_disturbed_40 rfl (lv_at hl 2 rfl) ?_
        refine va_get (v := .int (nI (sL z))) (C := RX4) (T := TX4) (N := 9) hx hb hts (q_sub wsX40 25 rfl) hown hE.K (q_P1 h_m) 0 rfl rfl 1 (by decide) (hts _ (List.mem_of_getElem? (i := 5) rfl)) (fun _ h9 => h9) rfl dX4_disturbed_41 ?_
        refine q_iadd (v := nI (b + sL z - sdl z i)) hx hb dX4_disturbed_44 (by_add (by omega)) ?_
        refine lv_aload_n hx hb dX4_disturbed_45 rfl (lv_at hl 2 rfl) ?_
        refine va_get (v := .int (nI (sL z))) (C := RX4) (T := TX4) (N := 9) hx hb hts (q_sub wsX40 25 rfl) hown hE.K (q_P1 h_m) 0 rfl rfl 1 (by decide) (hts _ (List.mem_of_getElem? (i := 5) rfl)) (fun _ h9 => h9) rfl dX4_disturbed_46 ?_
        refine q_irem (v := nI ((b + sL z - sdl z i) % sL z)) hx hb dX4_disturbed_49 (q_ne0 (by omega) (by omega)) (q_rem (by omega) (by omega) (by omega)) ?_
        refine q_roV (As := [.int (nI a), .int (nI (scd z i)), .int (nI ((b + sL z - sdl z i) % sL z))]) (rest := [.int (nI (ssr z i)), .int (sumI (fun h => nI (ssr z h) * likF (sL z) a (scd z h) ((b + sL z - sdl z h) % sL z)) i)]) ⟨hx, hb, hml, hown, hts⟩ (c_X4_likeness hV hR (a := a) (b := scd z i) (s_ := (b + sL z - sdl z i) % sL z) (by omega) (by omega) (Nat.lt_of_lt_of_le (Nat.mod_lt _ (by omega)) hL.2)) (cwV 3 hts gX4_disturbed_X4_likeness rfl rfl rfl (by decide +kernel) ⟨Nat.le_of_ble_eq_true rfl, Nat.le_of_ble_eq_true rfl⟩) hE hA hP (va_recv hE.K (q_P1 h_m) (ci := 5) (q0 := 0) rfl rfl) rfl hl.1 rfl (Nat.le_of_ble_eq_true rfl) dX4_disturbed_50 ⟨Nat.zero_le _, Nat.zero_le _⟩ ?_
        refine q_imul (v := (nI (ssr z i)) * (likF (sL z) a (scd z i) ((b + sL z - sdl z i) % sL z))) hx hb dX4_disturbed_53 rfl ?_
        refine q_iadd (v := sumI (fun h => nI (ssr z h) * likF (sL z) a (scd z h) ((b + sL z - sdl z h) % sL z)) (i + 1)) hx hb dX4_disturbed_54 rfl ?_
        refine lv_istore_n (lv' := [(3, .int (sumI (fun h => nI (ssr z h) * likF (sL z) a (scd z h) ((b + sL z - sdl z h) % sL z)) (i + 1))), (4, .int (nI i)), (0, .ref (am 0)), (1, .int (nI a)), (2, .int (nI b))]) hx hb dX4_disturbed_55 rfl hl (by decide) rfl (fun ls hl => ?_)
        refine lv_iinc (v := nI (i + 1)) (lv' := [(4, .int (nI (i + 1))), (3, .int (sumI (fun h => nI (ssr z h) * likF (sL z) a (scd z h) ((b + sL z - sdl z h) % sL z)) (i + 1))), (0, .ref (am 0)), (1, .int (nI a)), (2, .int (nI b))]) hx hb dX4_disturbed_56 hl (k := 1) rfl (nI_1 _) (by decide) rfl (fun ls hl => ?_)
        refine lv_goto (tgt := 5) hx hb dX4_disturbed_59 (by decide) ?_
        exact ih_5 (i + 1)  (by omega) (by omega)  _ (lv_sub hl [0, 1, 2, 3, 4] rfl)
  exact lp_5 (sn z + 1) 0  (Nat.zero_le _) (by omega)  _ (lv_sub hl [0, 1, 2, 3, 4] rfl)
