/-! ===== ArrayList: what reads only ===== -/
set_option maxHeartbeats 4000000 in
set_option maxRecDepth 100000 in
theorem c_size {l : Launch} {g : gT} {al ed n : Nat} {mc : Int32} : RO l yJx4a65c_size_8abf5 wsJx4a65c_size_8abf5 ({ frames := 0, cells := 0, slots := 0, locals := 0 } : Room) [.ref al] g (fun H => va_at g.1 vwCl (al, .inr (0, [.int mc, .ref ed, .int (nI n)])) H) (some (.int (nI n))) := by
  refine RO.of (cc := cJx4a65c_size_8abf5) (maxL := 1) (ret := (some .int)) (by decide) rfl (Nat.le_of_ble_eq_true rfl) ?_
  intro p e s m below meth c hx hb hml hr hlocks hown hts hE hF ls hl
  have hown : s.vm.findClass RJx4a65c = some m.cls := hown
  have hA : ∀ q, s.heap.size ≤ q → q_n s.heap q := fun _ h => h
  have h_l := hF
  have hl : lv_has ls 1 [(0, .ref al)] := hl
  refine lv_aload_n hx hb dJx4a65c_size_8abf5_0 rfl (lv_at hl 0 rfl) ?_
  refine va_get (v := .int (nI n)) (C := RJx4a65c) (T := TJx4a65c) (N := 3) hx hb hts (q_sub wsJx4a65c0 2 rfl) hown hE.K (q_P1 h_l) 0 rfl rfl 2 (by decide) (hts _ (List.mem_of_getElem? (i := 1) rfl)) (fun _ h9 => h9) rfl dJx4a65c_size_8abf5_1 ?_
  exact q_iret hx hb hr hlocks dJx4a65c_size_8abf5_4 rfl
set_option maxHeartbeats 4000000 in
set_option maxRecDepth 100000 in
theorem c_checkI3 {l : Launch} {g : gT} {i n : Nat} (hi : i < n) (hn : n < 2147483648) : RO l yJ3_checkIndex_8e157 wsJ3_checkIndex_8e157 ({ frames := 0, cells := 0, slots := 0, locals := 0 } : Room) [.int (nI i), .int (nI n), .null] g (fun H => True) (some (.int (nI i))) := by
  refine RO.of (cc := cJ3_checkIndex_8e157) (maxL := 3) (ret := (some .int)) (by decide) rfl (Nat.le_of_ble_eq_true rfl) ?_
  intro p e s m below meth c hx hb hml hr hlocks hown hts hE hF ls hl
  have hown : s.vm.findClass RJ3 = some m.cls := hown
  have hA : ∀ q, s.heap.size ≤ q → q_n s.heap q := fun _ h => h
  have hl : lv_has ls 3 [(0, .int (nI i)), (1, .int (nI n)), (2, .null)] := hl
  refine lv_iload_n hx hb dJ3_checkIndex_8e157_0 rfl (lv_at hl 0 rfl) ?_
  refine q_if_lt (tgt := 9) hx hb (by omega) dJ3_checkIndex_8e157_1 (by decide) ?_
  refine lv_iload_n hx hb dJ3_checkIndex_8e157_4 rfl (lv_at hl 0 rfl) ?_
  refine lv_iload_n hx hb dJ3_checkIndex_8e157_5 rfl (lv_at hl 1 rfl) ?_
  refine q_icmp_lt (tgt := 16) hx hb (by omega) (by omega) dJ3_checkIndex_8e157_6 (by decide) (fun c_2 => ?_) (fun c_2 => ?_)
  · refine lv_iload_n hx hb dJ3_checkIndex_8e157_16 rfl (lv_at hl 0 rfl) ?_
    exact q_iret hx hb hr hlocks dJ3_checkIndex_8e157_17 rfl
  · exact absurd c_2 (by omega)
set_option maxHeartbeats 4000000 in
set_option maxRecDepth 100000 in
theorem c_checkI {l : Launch} {g : gT} {i n : Nat} (hi : i < n) (hn : n < 2147483648) : RO l yJ15_checkIndex_7cf53 wsJ15_checkIndex_7cf53 ({ frames := 1, cells := 0, slots := 0, locals := 22 } : Room) [.int (nI i), .int (nI n)] g (fun H => True) (some (.int (nI i))) := by
  refine RO.of (cc := cJ15_checkIndex_7cf53) (maxL := 2) (ret := (some .int)) (by decide) rfl (Nat.le_of_ble_eq_true rfl) ?_
  intro p e s m below meth c hx hb hml hr hlocks hown hts hE hF ls hl
  have hown : s.vm.findClass RJ15 = some m.cls := hown
  have hA : ∀ q, s.heap.size ≤ q → q_n s.heap q := fun _ h => h
  have hl : lv_has ls 2 [(0, .int (nI i)), (1, .int (nI n))] := hl
  refine lv_iload_n hx hb dJ15_checkIndex_7cf53_0 rfl (lv_at hl 0 rfl) ?_
  refine lv_iload_n hx hb dJ15_checkIndex_7cf53_1 rfl (lv_at hl 1 rfl) ?_
  refine lv_null hx hb dJ15_checkIndex_7cf53_2 ?_
  refine q_roS (As := [.int (nI i), .int (nI n), .null]) (rest := []) ⟨hx, hb, hml, hown, hts⟩ (c_checkI3 hi hn) (va_cwS 3 hts gJ15_checkIndex_7cf53_J3_checkIndex_8e157 rfl rfl rfl (by decide +kernel) ⟨Nat.le_of_ble_eq_true rfl, Nat.le_of_ble_eq_true rfl⟩) hE hA trivial rfl hl.1 rfl (Nat.le_of_ble_eq_true rfl) dJ15_checkIndex_7cf53_3 ⟨Nat.zero_le _, Nat.zero_le _⟩ ?_
  exact q_iret hx hb hr hlocks dJ15_checkIndex_7cf53_6 rfl
set_option maxHeartbeats 4000000 in
set_option maxRecDepth 100000 in
theorem c_eldata {l : Launch} {g : gT} {al ed n i b : Nat} {mc : Int32} {row : Nat → Option Nat} (hi : i < 10) (hrow : row i = some b) : RO l yJx4a65c_elementData_915e3 wsJx4a65c_elementData_915e3 ({ frames := 0, cells := 0, slots := 0, locals := 0 } : Room) [.ref al, .int (nI i)] g (fun H => va_at g.1 vwCl (al, .inr (0, [.int mc, .ref ed, .int (nI n)])) H ∧ va_at g.1 vwCl (ed, .inl (gO g, 10, .inr (.inr (.inr (.inr row))))) H) (some (.ref b)) := by
  refine RO.of (cc := cJx4a65c_elementData_915e3) (maxL := 2) (ret := (some (.object "java/lang/Object"))) (by decide) rfl (Nat.le_of_ble_eq_true rfl) ?_
  intro p e s m below meth c hx hb hml hr hlocks hown hts hE hF ls hl
  have hown : s.vm.findClass RJx4a65c = some m.cls := hown
  have hA : ∀ q, s.heap.size ≤ q → q_n s.heap q := fun _ h => h
  obtain ⟨h_l, h_e⟩ := hF
  have hl : lv_has ls 2 [(0, .ref al), (1, .int (nI i))] := hl
  refine lv_aload_n hx hb dJx4a65c_elementData_915e3_0 rfl (lv_at hl 0 rfl) ?_
  refine va_get (v := .ref ed) (C := RJx4a65c) (T := TJx4a65c) (N := 3) hx hb hts (q_sub wsJx4a65c0 2 rfl) hown hE.K (q_P1 h_l) 0 rfl rfl 1 (by decide) (hts _ (List.mem_of_getElem? (i := 1) rfl)) (fun _ h9 => h9) rfl dJx4a65c_elementData_915e3_1 ?_
  refine lv_iload_n hx hb dJx4a65c_elementData_915e3_4 rfl (lv_at hl 1 rfl) ?_
  refine q_aald hx hb hE h_e hi (Nat.le_of_ble_eq_true rfl) hrow dJx4a65c_elementData_915e3_5 ?_
  exact q_aret hx hb hr (Or.inl ⟨_, rfl⟩) hlocks dJx4a65c_elementData_915e3_6
set_option maxHeartbeats 4000000 in
set_option maxRecDepth 100000 in
theorem c_get {l : Launch} {g : gT} {al ed n i b : Nat} {mc : Int32} {row : Nat → Option Nat} (hi : i < n) (hn : n ≤ 8) (hrow : row i = some b) : RO l yJx4a65c_get_915e3 wsJx4a65c_get_915e3 ({ frames := 2, cells := 0, slots := 0, locals := 43 } : Room) [.ref al, .int (nI i)] g (fun H => va_at g.1 vwCl (al, .inr (0, [.int mc, .ref ed, .int (nI n)])) H ∧ va_at g.1 vwCl (ed, .inl (gO g, 10, .inr (.inr (.inr (.inr row))))) H) (some (.ref b)) := by
  refine RO.of (cc := cJx4a65c_get_915e3) (maxL := 2) (ret := (some (.object "java/lang/Object"))) (by decide) rfl (Nat.le_of_ble_eq_true rfl) ?_
  intro p e s m below meth c hx hb hml hr hlocks hown hts hE hF ls hl
  have hown : s.vm.findClass RJx4a65c = some m.cls := hown
  have hA : ∀ q, s.heap.size ≤ q → q_n s.heap q := fun _ h => h
  obtain ⟨h_l, h_e⟩ := hF
  have hl : lv_has ls 2 [(0, .ref al), (1, .int (nI i))] := hl
  refine lv_iload_n hx hb dJx4a65c_get_915e3_0 rfl (lv_at hl 1 rfl) ?_
  refine lv_aload_n hx hb dJx4a65c_get_915e3_1 rfl (lv_at hl 0 rfl) ?_
  refine va_get (v := .int (nI n)) (C := RJx4a65c) (T := TJx4a65c) (N := 3) hx hb hts (q_sub wsJx4a65c0 16 rfl) hown hE.K (q_P1 h_l) 0 rfl rfl 2 (by decide) (hts _ (List.mem_of_getElem? (i := 1) rfl)) (fun _ h9 => h9) rfl dJx4a65c_get_915e3_2 ?_
  refine q_roS (As := [.int (nI i), .int (nI n)]) (rest := []) ⟨hx, hb, hml, hown, hts⟩ (c_checkI (i := i) (n := n) hi (by omega)) (va_cwS 2 hts gJx4a65c_get_915e3_J15_checkIndex_7cf53 rfl rfl rfl (by decide +kernel) ⟨Nat.le_of_ble_eq_true rfl, Nat.le_of_ble_eq_true rfl⟩) hE hA trivial rfl hl.1 rfl (Nat.le_of_ble_eq_true rfl) dJx4a65c_get_915e3_5 ⟨Nat.zero_le _, Nat.zero_le _⟩ ?_
  refine lv_pop hx hb dJx4a65c_get_915e3_8 rfl ?_
  refine lv_aload_n hx hb dJx4a65c_get_915e3_9 rfl (lv_at hl 0 rfl) ?_
  refine lv_iload_n hx hb dJx4a65c_get_915e3_10 rfl (lv_at hl 1 rfl) ?_
  refine q_roV (As := [.int (nI i)]) (rest := []) ⟨hx, hb, hml, hown, hts⟩ (c_eldata (by omega) hrow) (cwV 1 hts gJx4a65c_get_915e3_Jx4a65c_elementData_915e3 rfl rfl rfl (by decide +kernel) ⟨Nat.le_of_ble_eq_true rfl, Nat.le_of_ble_eq_true rfl⟩) hE hA ⟨h_l, h_e⟩ (va_recv hE.K (q_P1 h_l) (ci := 0) (q0 := 0) rfl rfl) rfl hl.1 rfl (Nat.le_of_ble_eq_true rfl) dJx4a65c_get_915e3_11 ⟨Nat.zero_le _, Nat.zero_le _⟩ ?_
  exact q_aret hx hb hr (Or.inl ⟨_, rfl⟩) hlocks dJx4a65c_get_915e3_14
/-! ===== FlagChips: what reads only ===== -/
set_option maxHeartbeats 4000000 in
set_option maxRecDepth 100000 in
theorem c_X3_allWords {l : Launch} {g : gT} {ad : Nat → Nat} {mc : Int32} {M : Nat} {sig : Nat → Int32} {z : sT} (hM : wM M (sn z)) (hV : VS z)  : RO l yX3_allWords wsX3_allWords ({ frames := 3, cells := 0, slots := 0, locals := 64 } : Room) [.ref (ad 0)] g (fun H => va_P g.1 vwCl (wC g ad mc M sig z) H) (some (.int (nI (sumN (ssd z) (sn z))))) := by
  refine RO.of (cc := cX3_allWords) (maxL := 3) (ret := (some .int)) (by decide) rfl (Nat.le_of_ble_eq_true rfl) ?_
  intro p e s m below meth c hx hb hml hr hlocks hown hts hE hF ls hl
  have hown : s.vm.findClass RX3 = some m.cls := hown
  have hA : ∀ q, s.heap.size ≤ q → q_n s.heap q := fun _ h => h
  have hP := hF
  have hl : lv_has ls 3 [(0, .ref (ad 0))] := hl
  have hL := hV.L
  have hn := hV.n
  have h_x : va_at g.1 vwCl (ad 0, .inr (4, [.ref (ad 1), .ref (ad 2), .ref (ad 5)])) s.heap := hP 0 _ rfl
  have h_c : va_at g.1 vwCl (ad 1, .inr (1, [.int (nI (sL z))])) s.heap := hP 1 _ rfl
  have h_k : va_at g.1 vwCl (ad 2, .inr (3, [.ref (ad 3), .ref (ad 4), .ref (ad 1)])) s.heap := hP 2 _ rfl
  have h_st : va_at g.1 vwCl (ad 3, .inl (gI g, 20, .inl (sst z))) s.heap := hP 3 _ rfl
  have h_sg : va_at g.1 vwCl (ad 4, .inl (gI g, 207, .inl sig)) s.heap := hP 4 _ rfl
  have h_l : va_at g.1 vwCl (ad 5, .inr (0, [.int mc, .ref (if M = 0 then gE g else ad 6), .int (nI (sn z))])) s.heap := hP 5 _ rfl
  refine lv_iconst (v := nI 0) hx hb dX3_allWords_0 (by decide) ?_
  refine lv_istore_n (lv' := [(1, .int (nI 0)), (0, .ref (ad 0))]) hx hb dX3_allWords_1 rfl hl (by decide) rfl (fun ls hl => ?_)
  refine lv_iconst (v := nI 0) hx hb dX3_allWords_2 (by decide) ?_
  refine lv_istore_n (lv' := [(2, .int (nI 0)), (1, .int (nI 0)), (0, .ref (ad 0))]) hx hb dX3_allWords_3 rfl hl (by decide) rfl (fun ls hl => ?_)
  have lp_4 : ∀ (n_ i : Nat) , i ≤ sn z → sn z + 1 ≤ i + n_ → ∀ (ls : Array Slot), lv_has ls 3 [(2, .int (nI i)), (1, .int (nI (sumN (ssd z) i))), (0, .ref (ad 0))] → W p l e ({ frames := 3, cells := 0, slots := 0, locals := 64 } : Room) s m ([.ref (ad 0)] : List Value).toArray below meth c s.heap [] 0 0 (MQ below (q_Q (some (.int (nI (sumN (ssd z) (sn z)))))) ([.ref (ad 0)] : List Value).toArray s 0 0 (fun _ => False)) (F0 m 4 ls []) := by
    intro n_
    induction n_ with
    | zero => intro i  hi_ hn_; exact absurd hn_ (by omega)
    | succ n_ ih_4 =>
      intro i  hi_i hn_i  ls hl
      refine lv_iload_n hx hb dX3_allWords_4 rfl (lv_at hl 0 rfl) ?_
      refine lv_aload_n hx hb dX3_allWords_5 rfl (lv_at hl 2 rfl) ?_
      refine va_get (v := .ref (ad 5)) (C := RX3) (T := TX3) (N := 3) hx hb hts (q_sub wsX30 27 rfl) hown hE.K (q_P1 h_x) 0 rfl rfl 2 (by decide) (hts _ (List.mem_of_getElem? (i := 1) rfl)) (fun _ h9 => h9) rfl dX3_allWords_6 ?_
      refine q_roV (As := []) (rest := [.int (nI i)]) ⟨hx, hb, hml, hown, hts⟩ (c_size ) (cwV 0 hts gX3_allWords_Jx4a65c_size_8abf5 rfl rfl rfl (by decide +kernel) ⟨Nat.le_of_ble_eq_true rfl, Nat.le_of_ble_eq_true rfl⟩) hE hA h_l (va_recv hE.K (q_P1 h_l) (ci := 0) (q0 := 0) rfl rfl) rfl hl.1 rfl (Nat.le_of_ble_eq_true rfl) dX3_allWords_9 ⟨Nat.zero_le _, Nat.zero_le _⟩ ?_
      refine q_icmp_ge (tgt := 38) hx hb (by omega) (by omega) dX3_allWords_12 (by decide) (fun c_1 => ?_) (fun c_1 => ?_)
      · refine lv_iload_n hx hb dX3_allWords_38 rfl (lv_at hl 1 rfl) ?_
        exact q_iret hx hb hr hlocks dX3_allWords_39 (by rw [show i = sn z by omega])
      · have hk_ : i < sn z := c_1
        have hb_ := hV.h hk_
        have h_h := hP (2 * i + 7) _ (wC_h hM hk_)
        have h_w := hP (2 * i + 8) _ (wC_w hM hk_)
        have h_e := hP 6 _ (wC_e (by omega))
        have h_l6 : va_at g.1 vwCl (ad 5, .inr (0, [.int mc, .ref (ad 6), .int (nI (sn z))])) s.heap := by
          have := h_l
          rwa [if_neg (show ¬ M = 0 by omega)] at this
        refine lv_iload_n hx hb dX3_allWords_15 rfl (lv_at hl 1 rfl) ?_
        refine lv_aload_n hx hb dX3_allWords_16 rfl (lv_at hl 2 rfl) ?_
        refine va_get (v := .ref (ad 5)) (C := RX3) (T := TX3) (N := 3) hx hb hts (q_sub wsX30 27 rfl) hown hE.K (q_P1 h_x) 0 rfl rfl 2 (by decide) (hts _ (List.mem_of_getElem? (i := 1) rfl)) (fun _ h9 => h9) rfl dX3_allWords_17 ?_
        refine lv_iload_n hx hb dX3_allWords_20 rfl (lv_at hl 0 rfl) ?_
        refine q_roV (As := [.int (nI i)]) (rest := [.int (nI (sumN (ssd z) i))]) ⟨hx, hb, hml, hown, hts⟩ (c_get (i := i) (b := ad (2 * i + 7)) hk_ hn (rowF_lt hk_)) (cwV 1 hts gX3_allWords_Jx4a65c_get_915e3 rfl rfl rfl (by decide +kernel) ⟨Nat.le_of_ble_eq_true rfl, Nat.le_of_ble_eq_true rfl⟩) hE hA ⟨h_l6, h_e⟩ (va_recv hE.K (q_P1 h_l) (ci := 0) (q0 := 0) rfl rfl) rfl hl.1 rfl (Nat.le_of_ble_eq_true rfl) dX3_allWords_21 ⟨Nat.zero_le _, Nat.zero_le _⟩ ?_
        refine va_castY (C := RX1) (nm := RX1) hx hb hown (hts _ (List.mem_of_getElem? (i := 2) rfl)) (hE.1.2.2.2.1 _ (List.mem_of_getElem? (i := 0) rfl)) (va_recv hE.K (q_P1 h_h) (ci := 2) (q0 := 0) rfl rfl) dX3_allWords_24 ?_
        refine va_get (v := .int (nI (ssd z i))) (C := RX1) (T := TX1) (N := 5) hx hb hts (q_sub wsX10 30 rfl) hown hE.K (q_P1 h_h) 0 rfl rfl 3 (by decide) (hts _ (List.mem_of_getElem? (i := 3) rfl)) (fun _ h9 => h9) rfl dX3_allWords_27 ?_
        refine q_iadd (v := nI (sumN (ssd z) (i + 1))) hx hb dX3_allWords_30 (nI_add _ _) ?_
        refine lv_istore_n (lv' := [(1, .int (nI (sumN (ssd z) (i + 1)))), (2, .int (nI i)), (0, .ref (ad 0))]) hx hb dX3_allWords_31 rfl hl (by decide) rfl (fun ls hl => ?_)
        refine lv_iinc (v := nI (i + 1)) (lv' := [(2, .int (nI (i + 1))), (1, .int (nI (sumN (ssd z) (i + 1)))), (0, .ref (ad 0))]) hx hb dX3_allWords_32 hl (k := 1) rfl (nI_1 _) (by decide) rfl (fun ls hl => ?_)
        refine lv_goto (tgt := 4) hx hb dX3_allWords_35 (by decide) ?_
        exact ih_4 (i + 1)  (by omega) (by omega)  _ (lv_sub hl [0, 1, 2] rfl)
  exact lp_4 (sn z + 1) 0  (Nat.zero_le _) (by omega)  _ (lv_sub hl [0, 1, 2] rfl)
set_option maxHeartbeats 4000000 in
set_option maxRecDepth 100000 in
theorem c_X3_allWrongWords {l : Launch} {g : gT} {ad : Nat → Nat} {mc : Int32} {M : Nat} {sig : Nat → Int32} {z : sT} (hM : wM M (sn z)) (hV : VS z)  : RO l yX3_allWrongWords wsX3_allWrongWords ({ frames := 5, cells := 0, slots := 0, locals := 111 } : Room) [.ref (ad 0)] g (fun H => va_P g.1 vwCl (wC g ad mc M sig z) H) (some (.int (nI (allW z (atF (sst z) sig) (sn z))))) := by
  refine RO.of (cc := cX3_allWrongWords) (maxL := 3) (ret := (some .int)) (by decide) rfl (Nat.le_of_ble_eq_true rfl) ?_
  intro p e s m below meth c hx hb hml hr hlocks hown hts hE hF ls hl
  have hown : s.vm.findClass RX3 = some m.cls := hown
  have hA : ∀ q, s.heap.size ≤ q → q_n s.heap q := fun _ h => h
  have hP := hF
  have hl : lv_has ls 3 [(0, .ref (ad 0))] := hl
  have hL := hV.L
  have hn := hV.n
  have h_x : va_at g.1 vwCl (ad 0, .inr (4, [.ref (ad 1), .ref (ad 2), .ref (ad 5)])) s.heap := hP 0 _ rfl
  have h_c : va_at g.1 vwCl (ad 1, .inr (1, [.int (nI (sL z))])) s.heap := hP 1 _ rfl
  have h_k : va_at g.1 vwCl (ad 2, .inr (3, [.ref (ad 3), .ref (ad 4), .ref (ad 1)])) s.heap := hP 2 _ rfl
  have h_st : va_at g.1 vwCl (ad 3, .inl (gI g, 20, .inl (sst z))) s.heap := hP 3 _ rfl
  have h_sg : va_at g.1 vwCl (ad 4, .inl (gI g, 207, .inl sig)) s.heap := hP 4 _ rfl
  have h_l : va_at g.1 vwCl (ad 5, .inr (0, [.int mc, .ref (if M = 0 then gE g else ad 6), .int (nI (sn z))])) s.heap := hP 5 _ rfl
  refine lv_iconst (v := nI 0) hx hb dX3_allWrongWords_0 (by decide) ?_
  refine lv_istore_n (lv' := [(1, .int (nI 0)), (0, .ref (ad 0))]) hx hb dX3_allWrongWords_1 rfl hl (by decide) rfl (fun ls hl => ?_)
  refine lv_iconst (v := nI 0) hx hb dX3_allWrongWords_2 (by decide) ?_
  refine lv_istore_n (lv' := [(2, .int (nI 0)), (1, .int (nI 0)), (0, .ref (ad 0))]) hx hb dX3_allWrongWords_3 rfl hl (by decide) rfl (fun ls hl => ?_)
  have lp_4 : ∀ (n_ i : Nat) , i ≤ sn z → sn z + 1 ≤ i + n_ → ∀ (ls : Array Slot), lv_has ls 3 [(2, .int (nI i)), (1, .int (nI (allW z (atF (sst z) sig) i))), (0, .ref (ad 0))] → W p l e ({ frames := 5, cells := 0, slots := 0, locals := 111 } : Room) s m ([.ref (ad 0)] : List Value).toArray below meth c s.heap [] 0 0 (MQ below (q_Q (some (.int (nI (allW z (atF (sst z) sig) (sn z)))))) ([.ref (ad 0)] : List Value).toArray s 0 0 (fun _ => False)) (F0 m 4 ls []) := by
    intro n_
    induction n_ with
    | zero => intro i  hi_ hn_; exact absurd hn_ (by omega)
    | succ n_ ih_4 =>
      intro i  hi_i hn_i  ls hl
      refine lv_iload_n hx hb dX3_allWrongWords_4 rfl (lv_at hl 0 rfl) ?_
      refine lv_aload_n hx hb dX3_allWrongWords_5 rfl (lv_at hl 2 rfl) ?_
      refine va_get (v := .ref (ad 5)) (C := RX3) (T := TX3) (N := 3) hx hb hts (q_sub wsX30 77 rfl) hown hE.K (q_P1 h_x) 0 rfl rfl 2 (by decide) (hts _ (List.mem_of_getElem? (i := 1) rfl)) (fun _ h9 => h9) rfl dX3_allWrongWords_6 ?_
      refine q_roV (As := []) (rest := [.int (nI i)]) ⟨hx, hb, hml, hown, hts⟩ (c_size ) (cwV 0 hts gX3_allWrongWords_Jx4a65c_size_8abf5 rfl rfl rfl (by decide +kernel) ⟨Nat.le_of_ble_eq_true rfl, Nat.le_of_ble_eq_true rfl⟩) hE hA h_l (va_recv hE.K (q_P1 h_l) (ci := 0) (q0 := 0) rfl rfl) rfl hl.1 rfl (Nat.le_of_ble_eq_true rfl) dX3_allWrongWords_9 ⟨Nat.zero_le _, Nat.zero_le _⟩ ?_
      refine q_icmp_ge (tgt := 42) hx hb (by omega) (by omega) dX3_allWrongWords_12 (by decide) (fun c_1 => ?_) (fun c_1 => ?_)
      · refine lv_iload_n hx hb dX3_allWrongWords_42 rfl (lv_at hl 1 rfl) ?_
        exact q_iret hx hb hr hlocks dX3_allWrongWords_43 (by rw [show i = sn z by omega])
      · have hk_ : i < sn z := c_1
        have hb_ := hV.h hk_
        have h_h := hP (2 * i + 7) _ (wC_h hM hk_)
        have h_w := hP (2 * i + 8) _ (wC_w hM hk_)
        have h_e := hP 6 _ (wC_e (by omega))
        have h_l6 : va_at g.1 vwCl (ad 5, .inr (0, [.int mc, .ref (ad 6), .int (nI (sn z))])) s.heap := by
          have := h_l
          rwa [if_neg (show ¬ M = 0 by omega)] at this
        refine lv_iload_n hx hb dX3_allWrongWords_15 rfl (lv_at hl 1 rfl) ?_
        refine lv_aload_n hx hb dX3_allWrongWords_16 rfl (lv_at hl 2 rfl) ?_
        refine va_get (v := .ref (ad 2)) (C := RX3) (T := TX3) (N := 3) hx hb hts (q_sub wsX30 77 rfl) hown hE.K (q_P1 h_x) 0 rfl rfl 1 (by decide) (hts _ (List.mem_of_getElem? (i := 2) rfl)) (fun _ h9 => h9) rfl dX3_allWrongWords_17 ?_
        refine lv_aload_n hx hb dX3_allWrongWords_20 rfl (lv_at hl 2 rfl) ?_
        refine va_get (v := .ref (ad 5)) (C := RX3) (T := TX3) (N := 3) hx hb hts (q_sub wsX30 77 rfl) hown hE.K (q_P1 h_x) 0 rfl rfl 2 (by decide) (hts _ (List.mem_of_getElem? (i := 1) rfl)) (fun _ h9 => h9) rfl dX3_allWrongWords_21 ?_
        refine lv_iload_n hx hb dX3_allWrongWords_24 rfl (lv_at hl 0 rfl) ?_
        refine q_roV (As := [.int (nI i)]) (rest := [.ref (ad 2), .int (nI (allW z (atF (sst z) sig) i))]) ⟨hx, hb, hml, hown, hts⟩ (c_get (i := i) (b := ad (2 * i + 7)) hk_ hn (rowF_lt hk_)) (cwV 1 hts gX3_allWrongWords_Jx4a65c_get_915e3 rfl rfl rfl (by decide +kernel) ⟨Nat.le_of_ble_eq_true rfl, Nat.le_of_ble_eq_true rfl⟩) hE hA ⟨h_l6, h_e⟩ (va_recv hE.K (q_P1 h_l) (ci := 0) (q0 := 0) rfl rfl) rfl hl.1 rfl (Nat.le_of_ble_eq_true rfl) dX3_allWrongWords_25 ⟨Nat.zero_le _, Nat.zero_le _⟩ ?_
        refine va_castY (C := RX1) (nm := RX1) hx hb hown (hts _ (List.mem_of_getElem? (i := 3) rfl)) (hE.1.2.2.2.1 _ (List.mem_of_getElem? (i := 0) rfl)) (va_recv hE.K (q_P1 h_h) (ci := 2) (q0 := 0) rfl rfl) dX3_allWrongWords_28 ?_
        refine q_roV (As := [.ref (ad (2 * i + 7))]) (rest := [.int (nI (allW z (atF (sst z) sig) i))]) ⟨hx, hb, hml, hown, hts⟩ (c_X2_wrongWords hL.2 hb_.1 hb_.2.2.1 hb_.2.2.2) (cwV 1 hts gX3_allWrongWords_X2_wrongWords rfl rfl rfl (by decide +kernel) ⟨Nat.le_of_ble_eq_true rfl, Nat.le_of_ble_eq_true rfl⟩) hE hA ⟨h_k, h_st, h_sg, h_c, h_h, h_w⟩ (va_recv hE.K (q_P1 h_k) (ci := 3) (q0 := 0) rfl rfl) rfl hl.1 rfl (Nat.le_of_ble_eq_true rfl) dX3_allWrongWords_31 ⟨Nat.zero_le _, Nat.zero_le _⟩ ?_
        refine q_iadd (v := nI (allW z (atF (sst z) sig) (i + 1))) hx hb dX3_allWrongWords_34 (nI_add _ _) ?_
        refine lv_istore_n (lv' := [(1, .int (nI (allW z (atF (sst z) sig) (i + 1)))), (2, .int (nI i)), (0, .ref (ad 0))]) hx hb dX3_allWrongWords_35 rfl hl (by decide) rfl (fun ls hl => ?_)
        refine lv_iinc (v := nI (i + 1)) (lv' := [(2, .int (nI (i + 1))), (1, .int (nI (allW z (atF (sst z) sig) (i + 1)))), (0, .ref (ad 0))]) hx hb dX3_allWrongWords_36 hl (k := 1) rfl (nI_1 _) (by decide) rfl (fun ls hl => ?_)
        refine lv_goto (tgt := 4) hx hb dX3_allWrongWords_39 (by decide) ?_
        exact ih_4 (i + 1)  (by omega) (by omega)  _ (lv_sub hl [0, 1, 2] rfl)
  exact lp_4 (sn z + 1) 0  (Nat.zero_le _) (by omega)  _ (lv_sub hl [0, 1, 2] rfl)
set_option maxHeartbeats 4000000 in
set_option maxRecDepth 100000 in
theorem c_X3_endOfAll {l : Launch} {g : gT} {ad : Nat → Nat} {mc : Int32} {M : Nat} {sig : Nat → Int32} {z : sT} (hM : wM M (sn z)) (hV : VS z)  : RO l yX3_endOfAll wsX3_endOfAll ({ frames := 3, cells := 0, slots := 0, locals := 64 } : Room) [.ref (ad 0)] g (fun H => va_P g.1 vwCl (wC g ad mc M sig z) H) (some (.int (nI (endA z (sn z))))) := by
  refine RO.of (cc := cX3_endOfAll) (maxL := 3) (ret := (some .int)) (by decide) rfl (Nat.le_of_ble_eq_true rfl) ?_
  intro p e s m below meth c hx hb hml hr hlocks hown hts hE hF ls hl
  have hown : s.vm.findClass RX3 = some m.cls := hown
  have hA : ∀ q, s.heap.size ≤ q → q_n s.heap q := fun _ h => h
  have hP := hF
  have hl : lv_has ls 3 [(0, .ref (ad 0))] := hl
  have hL := hV.L
  have hn := hV.n
  have h_x : va_at g.1 vwCl (ad 0, .inr (4, [.ref (ad 1), .ref (ad 2), .ref (ad 5)])) s.heap := hP 0 _ rfl
  have h_c : va_at g.1 vwCl (ad 1, .inr (1, [.int (nI (sL z))])) s.heap := hP 1 _ rfl
  have h_k : va_at g.1 vwCl (ad 2, .inr (3, [.ref (ad 3), .ref (ad 4), .ref (ad 1)])) s.heap := hP 2 _ rfl
  have h_st : va_at g.1 vwCl (ad 3, .inl (gI g, 20, .inl (sst z))) s.heap := hP 3 _ rfl
  have h_sg : va_at g.1 vwCl (ad 4, .inl (gI g, 207, .inl sig)) s.heap := hP 4 _ rfl
  have h_l : va_at g.1 vwCl (ad 5, .inr (0, [.int mc, .ref (if M = 0 then gE g else ad 6), .int (nI (sn z))])) s.heap := hP 5 _ rfl
  refine lv_iconst (v := nI 0) hx hb dX3_endOfAll_0 (by decide) ?_
  refine lv_istore_n (lv' := [(1, .int (nI 0)), (0, .ref (ad 0))]) hx hb dX3_endOfAll_1 rfl hl (by decide) rfl (fun ls hl => ?_)
  refine lv_iconst (v := nI 0) hx hb dX3_endOfAll_2 (by decide) ?_
  refine lv_istore_n (lv' := [(2, .int (nI 0)), (1, .int (nI 0)), (0, .ref (ad 0))]) hx hb dX3_endOfAll_3 rfl hl (by decide) rfl (fun ls hl => ?_)
  have lp_4 : ∀ (n_ i : Nat) , i ≤ sn z → sn z + 1 ≤ i + n_ → ∀ (ls : Array Slot), lv_has ls 3 [(2, .int (nI i)), (1, .int (nI (endA z i))), (0, .ref (ad 0))] → W p l e ({ frames := 3, cells := 0, slots := 0, locals := 64 } : Room) s m ([.ref (ad 0)] : List Value).toArray below meth c s.heap [] 0 0 (MQ below (q_Q (some (.int (nI (endA z (sn z)))))) ([.ref (ad 0)] : List Value).toArray s 0 0 (fun _ => False)) (F0 m 4 ls []) := by
    intro n_
    induction n_ with
    | zero => intro i  hi_ hn_; exact absurd hn_ (by omega)
    | succ n_ ih_4 =>
      intro i  hi_i hn_i  ls hl
      refine lv_iload_n hx hb dX3_endOfAll_4 rfl (lv_at hl 0 rfl) ?_
      refine lv_aload_n hx hb dX3_endOfAll_5 rfl (lv_at hl 2 rfl) ?_
      refine va_get (v := .ref (ad 5)) (C := RX3) (T := TX3) (N := 3) hx hb hts (q_sub wsX30 43 rfl) hown hE.K (q_P1 h_x) 0 rfl rfl 2 (by decide) (hts _ (List.mem_of_getElem? (i := 1) rfl)) (fun _ h9 => h9) rfl dX3_endOfAll_6 ?_
      refine q_roV (As := []) (rest := [.int (nI i)]) ⟨hx, hb, hml, hown, hts⟩ (c_size ) (cwV 0 hts gX3_endOfAll_Jx4a65c_size_8abf5 rfl rfl rfl (by decide +kernel) ⟨Nat.le_of_ble_eq_true rfl, Nat.le_of_ble_eq_true rfl⟩) hE hA h_l (va_recv hE.K (q_P1 h_l) (ci := 0) (q0 := 0) rfl rfl) rfl hl.1 rfl (Nat.le_of_ble_eq_true rfl) dX3_endOfAll_9 ⟨Nat.zero_le _, Nat.zero_le _⟩ ?_
      refine q_icmp_ge (tgt := 47) hx hb (by omega) (by omega) dX3_endOfAll_12 (by decide) (fun c_1 => ?_) (fun c_1 => ?_)
      · refine lv_iload_n hx hb dX3_endOfAll_47 rfl (lv_at hl 1 rfl) ?_
        exact q_iret hx hb hr hlocks dX3_endOfAll_48 (by rw [show i = sn z by omega])
      · have hk_ : i < sn z := c_1
        have hb_ := hV.h hk_
        have h_h := hP (2 * i + 7) _ (wC_h hM hk_)
        have h_w := hP (2 * i + 8) _ (wC_w hM hk_)
        have h_e := hP 6 _ (wC_e (by omega))
        have h_l6 : va_at g.1 vwCl (ad 5, .inr (0, [.int mc, .ref (ad 6), .int (nI (sn z))])) s.heap := by
          have := h_l
          rwa [if_neg (show ¬ M = 0 by omega)] at this
        refine lv_iload_n hx hb dX3_endOfAll_15 rfl (lv_at hl 1 rfl) ?_
        refine lv_aload_n hx hb dX3_endOfAll_16 rfl (lv_at hl 2 rfl) ?_
        refine va_get (v := .ref (ad 5)) (C := RX3) (T := TX3) (N := 3) hx hb hts (q_sub wsX30 43 rfl) hown hE.K (q_P1 h_x) 0 rfl rfl 2 (by decide) (hts _ (List.mem_of_getElem? (i := 1) rfl)) (fun _ h9 => h9) rfl dX3_endOfAll_17 ?_
        refine lv_iload_n hx hb dX3_endOfAll_20 rfl (lv_at hl 0 rfl) ?_
        refine q_roV (As := [.int (nI i)]) (rest := [.int (nI (endA z i))]) ⟨hx, hb, hml, hown, hts⟩ (c_get (i := i) (b := ad (2 * i + 7)) hk_ hn (rowF_lt hk_)) (cwV 1 hts gX3_endOfAll_Jx4a65c_get_915e3 rfl rfl rfl (by decide +kernel) ⟨Nat.le_of_ble_eq_true rfl, Nat.le_of_ble_eq_true rfl⟩) hE hA ⟨h_l6, h_e⟩ (va_recv hE.K (q_P1 h_l) (ci := 0) (q0 := 0) rfl rfl) rfl hl.1 rfl (Nat.le_of_ble_eq_true rfl) dX3_endOfAll_21 ⟨Nat.zero_le _, Nat.zero_le _⟩ ?_
        refine va_castY (C := RX1) (nm := RX1) hx hb hown (hts _ (List.mem_of_getElem? (i := 2) rfl)) (hE.1.2.2.2.1 _ (List.mem_of_getElem? (i := 0) rfl)) (va_recv hE.K (q_P1 h_h) (ci := 2) (q0 := 0) rfl rfl) dX3_endOfAll_24 ?_
        refine lv_aload_n hx hb dX3_endOfAll_27 rfl (lv_at hl 2 rfl) ?_
        refine va_get (v := .ref (ad 1)) (C := RX3) (T := TX3) (N := 3) hx hb hts (q_sub wsX30 43 rfl) hown hE.K (q_P1 h_x) 0 rfl rfl 0 (by decide) (hts _ (List.mem_of_getElem? (i := 3) rfl)) (fun _ h9 => h9) rfl dX3_endOfAll_28 ?_
        refine va_get (v := .int (nI (sL z))) (C := RX0) (T := TX0) (N := 1) hx hb hts (q_sub wsX00 46 rfl) hown hE.K (q_P1 h_c) 0 rfl rfl 0 (by decide) (hts _ (List.mem_of_getElem? (i := 4) rfl)) (fun _ h9 => h9) rfl dX3_endOfAll_31 ?_
        refine q_roV (As := [.int (nI (sL z))]) (rest := [.int (nI (endA z i))]) ⟨hx, hb, hml, hown, hts⟩ (c_X1_end (L := sL z) (by omega)) (cwV 1 hts gX3_endOfAll_X1_end rfl rfl rfl (by decide +kernel) ⟨Nat.le_of_ble_eq_true rfl, Nat.le_of_ble_eq_true rfl⟩) hE hA h_h (va_recv hE.K (q_P1 h_h) (ci := 2) (q0 := 0) rfl rfl) rfl hl.1 rfl (Nat.le_of_ble_eq_true rfl) dX3_endOfAll_34 ⟨Nat.zero_le _, Nat.zero_le _⟩ ?_
        refine q_mmax (v := nI (endA z (i + 1))) hx hb (hml.trans hl.1.symm) hown (hts _ (List.mem_of_getElem? (i := 5) rfl)) (hts _ (List.mem_of_getElem? (i := 6) rfl)) (hts _ (List.mem_of_getElem? (i := 7) rfl)) (hts _ (List.mem_of_getElem? (i := 8) rfl)) (Nat.le_of_ble_eq_true rfl) (Nat.le_of_ble_eq_true rfl) (Nat.zero_le _) (Nat.zero_le _) dX3_endOfAll_37 (q_maxN (by have := endA_le hV (show i ≤ sn z by omega); omega) (by have := endF_le hV hk_; omega)) ?_
        refine lv_istore_n (lv' := [(1, .int (nI (endA z (i + 1)))), (2, .int (nI i)), (0, .ref (ad 0))]) hx hb dX3_endOfAll_40 rfl hl (by decide) rfl (fun ls hl => ?_)
        refine lv_iinc (v := nI (i + 1)) (lv' := [(2, .int (nI (i + 1))), (1, .int (nI (endA z (i + 1)))), (0, .ref (ad 0))]) hx hb dX3_endOfAll_41 hl (k := 1) rfl (nI_1 _) (by decide) rfl (fun ls hl => ?_)
        refine lv_goto (tgt := 4) hx hb dX3_endOfAll_44 (by decide) ?_
        exact ih_4 (i + 1)  (by omega) (by omega)  _ (lv_sub hl [0, 1, 2] rfl)
  exact lp_4 (sn z + 1) 0  (Nat.zero_le _) (by omega)  _ (lv_sub hl [0, 1, 2] rfl)
set_option maxHeartbeats 4000000 in
set_option maxRecDepth 100000 in
theorem c_X3_isTaken {l : Launch} {g : gT} {ad : Nat → Nat} {mc : Int32} {M : Nat} {sig : Nat → Int32} {z : sT} (hM : wM M (sn z)) (hV : VS z) {a : Nat} (ha : a < 2147483648) : RO l yX3_isTaken wsX3_isTaken ({ frames := 3, cells := 0, slots := 0, locals := 64 } : Room) [.ref (ad 0), .int (nI a)] g (fun H => va_P g.1 vwCl (wC g ad mc M sig z) H) (some (.int (bI (takB z a (sn z) = true)))) := by
  refine RO.of (cc := cX3_isTaken) (maxL := 3) (ret := (some .boolean)) (by decide) rfl (Nat.le_of_ble_eq_true rfl) ?_
  intro p e s m below meth c hx hb hml hr hlocks hown hts hE hF ls hl
  have hown : s.vm.findClass RX3 = some m.cls := hown
  have hA : ∀ q, s.heap.size ≤ q → q_n s.heap q := fun _ h => h
  have hP := hF
  have hl : lv_has ls 3 [(0, .ref (ad 0)), (1, .int (nI a))] := hl
  have hL := hV.L
  have hn := hV.n
  have h_x : va_at g.1 vwCl (ad 0, .inr (4, [.ref (ad 1), .ref (ad 2), .ref (ad 5)])) s.heap := hP 0 _ rfl
  have h_c : va_at g.1 vwCl (ad 1, .inr (1, [.int (nI (sL z))])) s.heap := hP 1 _ rfl
  have h_k : va_at g.1 vwCl (ad 2, .inr (3, [.ref (ad 3), .ref (ad 4), .ref (ad 1)])) s.heap := hP 2 _ rfl
  have h_st : va_at g.1 vwCl (ad 3, .inl (gI g, 20, .inl (sst z))) s.heap := hP 3 _ rfl
  have h_sg : va_at g.1 vwCl (ad 4, .inl (gI g, 207, .inl sig)) s.heap := hP 4 _ rfl
  have h_l : va_at g.1 vwCl (ad 5, .inr (0, [.int mc, .ref (if M = 0 then gE g else ad 6), .int (nI (sn z))])) s.heap := hP 5 _ rfl
  refine lv_iconst (v := nI 0) hx hb dX3_isTaken_0 (by decide) ?_
  refine lv_istore_n (lv' := [(2, .int (nI 0)), (0, .ref (ad 0)), (1, .int (nI a))]) hx hb dX3_isTaken_1 rfl hl (by decide) rfl (fun ls hl => ?_)
  have lp_2 : ∀ (n_ i : Nat) , i ≤ sn z → sn z + 1 ≤ i + n_ → takB z a i = false → ∀ (ls : Array Slot), lv_has ls 3 [(2, .int (nI i)), (0, .ref (ad 0)), (1, .int (nI a))] → W p l e ({ frames := 3, cells := 0, slots := 0, locals := 64 } : Room) s m ([.ref (ad 0), .int (nI a)] : List Value).toArray below meth c s.heap [] 0 0 (MQ below (q_Q (some (.int (bI (takB z a (sn z) = true))))) ([.ref (ad 0), .int (nI a)] : List Value).toArray s 0 0 (fun _ => False)) (F0 m 2 ls []) := by
    intro n_
    induction n_ with
    | zero => intro i  hi_ hn_; exact absurd hn_ (by omega)
    | succ n_ ih_2 =>
      intro i  hi_i hn_i hf_ ls hl
      refine lv_iload_n hx hb dX3_isTaken_2 rfl (lv_at hl 0 rfl) ?_
      refine lv_aload_n hx hb dX3_isTaken_3 rfl (lv_at hl 1 rfl) ?_
      refine va_get (v := .ref (ad 5)) (C := RX3) (T := TX3) (N := 3) hx hb hts (q_sub wsX30 27 rfl) hown hE.K (q_P1 h_x) 0 rfl rfl 2 (by decide) (hts _ (List.mem_of_getElem? (i := 1) rfl)) (fun _ h9 => h9) rfl dX3_isTaken_4 ?_
      refine q_roV (As := []) (rest := [.int (nI i)]) ⟨hx, hb, hml, hown, hts⟩ (c_size ) (cwV 0 hts gX3_isTaken_Jx4a65c_size_8abf5 rfl rfl rfl (by decide +kernel) ⟨Nat.le_of_ble_eq_true rfl, Nat.le_of_ble_eq_true rfl⟩) hE hA h_l (va_recv hE.K (q_P1 h_l) (ci := 0) (q0 := 0) rfl rfl) rfl hl.1 rfl (Nat.le_of_ble_eq_true rfl) dX3_isTaken_7 ⟨Nat.zero_le _, Nat.zero_le _⟩ ?_
      refine q_icmp_ge (tgt := 39) hx hb (by omega) (by omega) dX3_isTaken_10 (by decide) (fun c_1 => ?_) (fun c_1 => ?_)
      · refine lv_iconst (v := nI 0) hx hb dX3_isTaken_39 (by decide) ?_
        exact q_zret hx hb hr hlocks dX3_isTaken_40 rfl (bI_f (by rw [← show i = sn z by omega, hf_]; decide))
      · have hk_ : i < sn z := c_1
        have hb_ := hV.h hk_
        have h_h := hP (2 * i + 7) _ (wC_h hM hk_)
        have h_w := hP (2 * i + 8) _ (wC_w hM hk_)
        have h_e := hP 6 _ (wC_e (by omega))
        have h_l6 : va_at g.1 vwCl (ad 5, .inr (0, [.int mc, .ref (ad 6), .int (nI (sn z))])) s.heap := by
          have := h_l
          rwa [if_neg (show ¬ M = 0 by omega)] at this
        refine lv_aload_n hx hb dX3_isTaken_13 rfl (lv_at hl 1 rfl) ?_
        refine va_get (v := .ref (ad 5)) (C := RX3) (T := TX3) (N := 3) hx hb hts (q_sub wsX30 27 rfl) hown hE.K (q_P1 h_x) 0 rfl rfl 2 (by decide) (hts _ (List.mem_of_getElem? (i := 1) rfl)) (fun _ h9 => h9) rfl dX3_isTaken_14 ?_
        refine lv_iload_n hx hb dX3_isTaken_17 rfl (lv_at hl 0 rfl) ?_
        refine q_roV (As := [.int (nI i)]) (rest := []) ⟨hx, hb, hml, hown, hts⟩ (c_get (i := i) (b := ad (2 * i + 7)) hk_ hn (rowF_lt hk_)) (cwV 1 hts gX3_isTaken_Jx4a65c_get_915e3 rfl rfl rfl (by decide +kernel) ⟨Nat.le_of_ble_eq_true rfl, Nat.le_of_ble_eq_true rfl⟩) hE hA ⟨h_l6, h_e⟩ (va_recv hE.K (q_P1 h_l) (ci := 0) (q0 := 0) rfl rfl) rfl hl.1 rfl (Nat.le_of_ble_eq_true rfl) dX3_isTaken_18 ⟨Nat.zero_le _, Nat.zero_le _⟩ ?_
        refine va_castY (C := RX1) (nm := RX1) hx hb hown (hts _ (List.mem_of_getElem? (i := 2) rfl)) (hE.1.2.2.2.1 _ (List.mem_of_getElem? (i := 0) rfl)) (va_recv hE.K (q_P1 h_h) (ci := 2) (q0 := 0) rfl rfl) dX3_isTaken_21 ?_
        refine va_get (v := .int (nI (scd z i))) (C := RX1) (T := TX1) (N := 5) hx hb hts (q_sub wsX10 30 rfl) hown hE.K (q_P1 h_h) 0 rfl rfl 0 (by decide) (hts _ (List.mem_of_getElem? (i := 3) rfl)) (fun _ h9 => h9) rfl dX3_isTaken_24 ?_
        refine lv_iload_n hx hb dX3_isTaken_27 rfl (lv_at hl 2 rfl) ?_
        refine q_icmp_ne (tgt := 33) hx hb (by omega) (by omega) dX3_isTaken_28 (by decide) (fun c_2 => ?_) (fun c_2 => ?_)
        · refine lv_iinc (v := nI (i + 1)) (lv' := [(2, .int (nI (i + 1))), (0, .ref (ad 0)), (1, .int (nI a))]) hx hb dX3_isTaken_33 hl (k := 0) rfl (nI_1 _) (by decide) rfl (fun ls hl => ?_)
          refine lv_goto (tgt := 2) hx hb dX3_isTaken_36 (by decide) ?_
          exact ih_2 (i + 1)  (by omega) (by omega) (by rw [takB, hf_, Bool.false_or]; exact beq_false_of_ne c_2) _ (lv_sub hl [0, 1, 2] rfl)
        · refine lv_iconst (v := nI 1) hx hb dX3_isTaken_31 (by decide) ?_
          exact q_zret hx hb hr hlocks dX3_isTaken_32 rfl (bI_t (takB_t hk_ c_2))
  exact lp_2 (sn z + 1) 0  (Nat.zero_le _) (by omega) rfl _ (lv_sub hl [0, 1, 2] rfl)
set_option maxHeartbeats 4000000 in
set_option maxRecDepth 100000 in
theorem c_X3_freeCodes {l : Launch} {g : gT} {ad : Nat → Nat} {mc : Int32} {M : Nat} {sig : Nat → Int32} {z : sT} (hM : wM M (sn z)) (hV : VS z)  : RO l yX3_freeCodes wsX3_freeCodes ({ frames := 4, cells := 0, slots := 0, locals := 86 } : Room) [.ref (ad 0)] g (fun H => va_P g.1 vwCl (wC g ad mc M sig z) H) (some (.int (nI (sumN (fun c => if takB z c (sn z) = true then 0 else 1) (sL z))))) := by
  refine RO.of (cc := cX3_freeCodes) (maxL := 3) (ret := (some .int)) (by decide) rfl (Nat.le_of_ble_eq_true rfl) ?_
  intro p e s m below meth c hx hb hml hr hlocks hown hts hE hF ls hl
  have hown : s.vm.findClass RX3 = some m.cls := hown
  have hA : ∀ q, s.heap.size ≤ q → q_n s.heap q := fun _ h => h
  have hP := hF
  have hl : lv_has ls 3 [(0, .ref (ad 0))] := hl
  have hL := hV.L
  have hn := hV.n
  have h_x : va_at g.1 vwCl (ad 0, .inr (4, [.ref (ad 1), .ref (ad 2), .ref (ad 5)])) s.heap := hP 0 _ rfl
  have h_c : va_at g.1 vwCl (ad 1, .inr (1, [.int (nI (sL z))])) s.heap := hP 1 _ rfl
  have h_k : va_at g.1 vwCl (ad 2, .inr (3, [.ref (ad 3), .ref (ad 4), .ref (ad 1)])) s.heap := hP 2 _ rfl
  have h_st : va_at g.1 vwCl (ad 3, .inl (gI g, 20, .inl (sst z))) s.heap := hP 3 _ rfl
  have h_sg : va_at g.1 vwCl (ad 4, .inl (gI g, 207, .inl sig)) s.heap := hP 4 _ rfl
  have h_l : va_at g.1 vwCl (ad 5, .inr (0, [.int mc, .ref (if M = 0 then gE g else ad 6), .int (nI (sn z))])) s.heap := hP 5 _ rfl
  refine lv_iconst (v := nI 0) hx hb dX3_freeCodes_0 (by decide) ?_
  refine lv_istore_n (lv' := [(1, .int (nI 0)), (0, .ref (ad 0))]) hx hb dX3_freeCodes_1 rfl hl (by decide) rfl (fun ls hl => ?_)
  refine lv_iconst (v := nI 0) hx hb dX3_freeCodes_2 (by decide) ?_
  refine lv_istore_n (lv' := [(2, .int (nI 0)), (1, .int (nI 0)), (0, .ref (ad 0))]) hx hb dX3_freeCodes_3 rfl hl (by decide) rfl (fun ls hl => ?_)
  have lp_4 : ∀ (n_ i : Nat) , i ≤ sL z → sL z + 1 ≤ i + n_ → ∀ (ls : Array Slot), lv_has ls 3 [(2, .int (nI i)), (1, .int (nI (sumN (fun c => if takB z c (sn z) = true then 0 else 1) i))), (0, .ref (ad 0))] → W p l e ({ frames := 4, cells := 0, slots := 0, locals := 86 } : Room) s m ([.ref (ad 0)] : List Value).toArray below meth c s.heap [] 0 0 (MQ below (q_Q (some (.int (nI (sumN (fun c => if takB z c (sn z) = true then 0 else 1) (sL z)))))) ([.ref (ad 0)] : List Value).toArray s 0 0 (fun _ => False)) (F0 m 4 ls []) := by
    intro n_
    induction n_ with
    | zero => intro i  hi_ hn_; exact absurd hn_ (by omega)
    | succ n_ ih_4 =>
      intro i  hi_i hn_i  ls hl
      refine lv_iload_n hx hb dX3_freeCodes_4 rfl (lv_at hl 0 rfl) ?_
      refine lv_aload_n hx hb dX3_freeCodes_5 rfl (lv_at hl 2 rfl) ?_
      refine va_get (v := .ref (ad 1)) (C := RX3) (T := TX3) (N := 3) hx hb hts (q_sub wsX30 34 rfl) hown hE.K (q_P1 h_x) 0 rfl rfl 0 (by decide) (hts _ (List.mem_of_getElem? (i := 1) rfl)) (fun _ h9 => h9) rfl dX3_freeCodes_6 ?_
      refine va_get (v := .int (nI (sL z))) (C := RX0) (T := TX0) (N := 1) hx hb hts (q_sub wsX00 37 rfl) hown hE.K (q_P1 h_c) 0 rfl rfl 0 (by decide) (hts _ (List.mem_of_getElem? (i := 2) rfl)) (fun _ h9 => h9) rfl dX3_freeCodes_9 ?_
      refine q_icmp_ge (tgt := 32) hx hb (by omega) (by omega) dX3_freeCodes_12 (by decide) (fun c_1 => ?_) (fun c_1 => ?_)
      · refine lv_iload_n hx hb dX3_freeCodes_32 rfl (lv_at hl 1 rfl) ?_
        exact q_iret hx hb hr hlocks dX3_freeCodes_33 (by rw [show i = sL z by omega])
      · refine lv_aload_n hx hb dX3_freeCodes_15 rfl (lv_at hl 2 rfl) ?_
        refine lv_iload_n hx hb dX3_freeCodes_16 rfl (lv_at hl 0 rfl) ?_
        refine q_roV (As := [.int (nI i)]) (rest := []) ⟨hx, hb, hml, hown, hts⟩ (c_X3_isTaken hM hV (a := i) (by omega)) (cwV 1 hts gX3_freeCodes_X3_isTaken rfl rfl rfl (by decide +kernel) ⟨Nat.le_of_ble_eq_true rfl, Nat.le_of_ble_eq_true rfl⟩) hE hA hP (va_recv hE.K (q_P1 h_x) (ci := 4) (q0 := 0) rfl rfl) rfl hl.1 rfl (Nat.le_of_ble_eq_true rfl) dX3_freeCodes_17 ⟨Nat.zero_le _, Nat.zero_le _⟩ ?_
        refine q_ifb_ne (tgt := 26) hx hb dX3_freeCodes_20 (by decide) (fun c_2 => ?_) (fun c_2 => ?_)
        · have e9 : sumN (fun c => if takB z c (sn z) = true then 0 else 1) (i + 1) = sumN (fun c => if takB z c (sn z) = true then 0 else 1) i := by rw [sumN, if_pos c_2]; rfl
          refine lv_iinc (v := nI (i + 1)) (lv' := [(2, .int (nI (i + 1))), (1, .int (nI (sumN (fun c => if takB z c (sn z) = true then 0 else 1) i))), (0, .ref (ad 0))]) hx hb dX3_freeCodes_26 hl (k := 0) rfl (nI_1 _) (by decide) rfl (fun ls hl => ?_)
          refine lv_goto (tgt := 4) hx hb dX3_freeCodes_29 (by decide) ?_
          exact ih_4 (i + 1)  (by omega) (by omega)  _ (by rw [e9]; exact lv_sub hl [0, 1, 2] rfl)
        · have e9 : sumN (fun c => if takB z c (sn z) = true then 0 else 1) (i + 1) = sumN (fun c => if takB z c (sn z) = true then 0 else 1) i + 1 := by rw [sumN, if_neg c_2]
          refine lv_iinc (v := nI (sumN (fun c => if takB z c (sn z) = true then 0 else 1) i + 1)) (lv' := [(1, .int (nI (sumN (fun c => if takB z c (sn z) = true then 0 else 1) i + 1))), (2, .int (nI i)), (0, .ref (ad 0))]) hx hb dX3_freeCodes_23 hl (k := 1) rfl (nI_1 _) (by decide) rfl (fun ls hl => ?_)
          refine lv_iinc (v := nI (i + 1)) (lv' := [(2, .int (nI (i + 1))), (1, .int (nI (sumN (fun c => if takB z c (sn z) = true then 0 else 1) i + 1))), (0, .ref (ad 0))]) hx hb dX3_freeCodes_26 hl (k := 1) rfl (nI_1 _) (by decide) rfl (fun ls hl => ?_)
          refine lv_goto (tgt := 4) hx hb dX3_freeCodes_29 (by decide) ?_
          exact ih_4 (i + 1)  (by omega) (by omega)  _ (by rw [e9]; exact lv_sub hl [0, 1, 2] rfl)
  exact lp_4 (sL z + 1) 0  (Nat.zero_le _) (by omega)  _ (lv_sub hl [0, 1, 2] rfl)
set_option maxHeartbeats 4000000 in
set_option maxRecDepth 100000 in
theorem c_X3_likenessToAll {l : Launch} {g : gT} {ad : Nat → Nat} {mc : Int32} {M : Nat} {sig : Nat → Int32} {z : sT} (hM : wM M (sn z)) (hV : VS z) {a b : Nat} (ha : a < sL z) (hb_ : b < sL z) : RO l yX3_likenessToAll wsX3_likenessToAll ({ frames := 3, cells := 0, slots := 0, locals := 68 } : Room) [.ref (ad 0), .int (nI a), .int (nI b)] g (fun H => va_P g.1 vwCl (wC g ad mc M sig z) H) (some (.int (sumI (fun h => nI (ssr z h) * likF (sL z) a (scd z h) ((b + sL z - sdl z h) % sL z)) (sn z)))) := by
  refine RO.of (cc := cX3_likenessToAll) (maxL := 7) (ret := (some .int)) (by decide) rfl (Nat.le_of_ble_eq_true rfl) ?_
  intro p e s m below meth c hx hb hml hr hlocks hown hts hE hF ls hl
  have hown : s.vm.findClass RX3 = some m.cls := hown
  have hA : ∀ q, s.heap.size ≤ q → q_n s.heap q := fun _ h => h
  have hP := hF
  have hl : lv_has ls 7 [(0, .ref (ad 0)), (1, .int (nI a)), (2, .int (nI b))] := hl
  have hL := hV.L
  have hn := hV.n
  have h_x : va_at g.1 vwCl (ad 0, .inr (4, [.ref (ad 1), .ref (ad 2), .ref (ad 5)])) s.heap := hP 0 _ rfl
  have h_c : va_at g.1 vwCl (ad 1, .inr (1, [.int (nI (sL z))])) s.heap := hP 1 _ rfl
  have h_k : va_at g.1 vwCl (ad 2, .inr (3, [.ref (ad 3), .ref (ad 4), .ref (ad 1)])) s.heap := hP 2 _ rfl
  have h_st : va_at g.1 vwCl (ad 3, .inl (gI g, 20, .inl (sst z))) s.heap := hP 3 _ rfl
  have h_sg : va_at g.1 vwCl (ad 4, .inl (gI g, 207, .inl sig)) s.heap := hP 4 _ rfl
  have h_l : va_at g.1 vwCl (ad 5, .inr (0, [.int mc, .ref (if M = 0 then gE g else ad 6), .int (nI (sn z))])) s.heap := hP 5 _ rfl
  refine lv_iconst (v := nI 0) hx hb dX3_likenessToAll_0 (by decide) ?_
  refine lv_istore_n (lv' := [(3, .int (nI 0)), (0, .ref (ad 0)), (1, .int (nI a)), (2, .int (nI b))]) hx hb dX3_likenessToAll_1 rfl hl (by decide) rfl (fun ls hl => ?_)
  refine lv_iconst (v := nI 0) hx hb dX3_likenessToAll_2 (by decide) ?_
  refine lv_istore (lv' := [(4, .int (nI 0)), (3, .int (nI 0)), (0, .ref (ad 0)), (1, .int (nI a)), (2, .int (nI b))]) hx hb dX3_likenessToAll_3 hl (by decide) rfl (fun ls hl => ?_)
  have lp_5 : ∀ (n_ i : Nat) , i ≤ sn z → sn z + 1 ≤ i + n_ → ∀ (ls : Array Slot), lv_has ls 7 [(4, .int (nI i)), (3, .int (sumI (fun h => nI (ssr z h) * likF (sL z) a (scd z h) ((b + sL z - sdl z h) % sL z)) i)), (0, .ref (ad 0)), (1, .int (nI a)), (2, .int (nI b))] → W p l e ({ frames := 3, cells := 0, slots := 0, locals := 68 } : Room) s m ([.ref (ad 0), .int (nI a), .int (nI b)] : List Value).toArray below meth c s.heap [] 0 0 (MQ below (q_Q (some (.int (sumI (fun h => nI (ssr z h) * likF (sL z) a (scd z h) ((b + sL z - sdl z h) % sL z)) (sn z))))) ([.ref (ad 0), .int (nI a), .int (nI b)] : List Value).toArray s 0 0 (fun _ => False)) (F0 m 5 ls []) := by
    intro n_
    induction n_ with
    | zero => intro i  hi_ hn_; exact absurd hn_ (by omega)
    | succ n_ ih_5 =>
      intro i  hi_i hn_i  ls hl
      refine lv_iload hx hb dX3_likenessToAll_5 (lv_at hl 0 rfl) ?_
      refine lv_aload_n hx hb dX3_likenessToAll_7 rfl (lv_at hl 2 rfl) ?_
      refine va_get (v := .ref (ad 5)) (C := RX3) (T := TX3) (N := 3) hx hb hts (q_sub wsX30 52 rfl) hown hE.K (q_P1 h_x) 0 rfl rfl 2 (by decide) (hts _ (List.mem_of_getElem? (i := 1) rfl)) (fun _ h9 => h9) rfl dX3_likenessToAll_8 ?_
      refine q_roV (As := []) (rest := [.int (nI i)]) ⟨hx, hb, hml, hown, hts⟩ (c_size ) (cwV 0 hts gX3_likenessToAll_Jx4a65c_size_8abf5 rfl rfl rfl (by decide +kernel) ⟨Nat.le_of_ble_eq_true rfl, Nat.le_of_ble_eq_true rfl⟩) hE hA h_l (va_recv hE.K (q_P1 h_l) (ci := 0) (q0 := 0) rfl rfl) rfl hl.1 rfl (Nat.le_of_ble_eq_true rfl) dX3_likenessToAll_11 ⟨Nat.zero_le _, Nat.zero_le _⟩ ?_
      refine q_icmp_ge (tgt := 87) hx hb (by omega) (by omega) dX3_likenessToAll_14 (by decide) (fun c_1 => ?_) (fun c_1 => ?_)
      · refine lv_iload_n hx hb dX3_likenessToAll_87 rfl (lv_at hl 1 rfl) ?_
        exact q_iret hx hb hr hlocks dX3_likenessToAll_88 (by rw [show i = sn z by omega])
      · have hk_ : i < sn z := c_1
        have hd_ := hV.hL hk_
        have hb9 := hV.h hk_
        have h_h := hP (2 * i + 7) _ (wC_h hM hk_)
        have h_w := hP (2 * i + 8) _ (wC_w hM hk_)
        have h_e := hP 6 _ (wC_e (by omega))
        have h_l6 : va_at g.1 vwCl (ad 5, .inr (0, [.int mc, .ref (ad 6), .int (nI (sn z))])) s.heap := by
          have := h_l
          rwa [if_neg (show ¬ M = 0 by omega)] at this
        refine lv_aload_n hx hb dX3_likenessToAll_17 rfl (lv_at hl 2 rfl) ?_
        refine va_get (v := .ref (ad 5)) (C := RX3) (T := TX3) (N := 3) hx hb hts (q_sub wsX30 52 rfl) hown hE.K (q_P1 h_x) 0 rfl rfl 2 (by decide) (hts _ (List.mem_of_getElem? (i := 1) rfl)) (fun _ h9 => h9) rfl dX3_likenessToAll_18 ?_
        refine lv_iload hx hb dX3_likenessToAll_21 (lv_at hl 0 rfl) ?_
        refine q_roV (As := [.int (nI i)]) (rest := []) ⟨hx, hb, hml, hown, hts⟩ (c_get (i := i) (b := ad (2 * i + 7)) hk_ hn (rowF_lt hk_)) (cwV 1 hts gX3_likenessToAll_Jx4a65c_get_915e3 rfl rfl rfl (by decide +kernel) ⟨Nat.le_of_ble_eq_true rfl, Nat.le_of_ble_eq_true rfl⟩) hE hA ⟨h_l6, h_e⟩ (va_recv hE.K (q_P1 h_l) (ci := 0) (q0 := 0) rfl rfl) rfl hl.1 rfl (Nat.le_of_ble_eq_true rfl) dX3_likenessToAll_23 ⟨Nat.zero_le _, Nat.zero_le _⟩ ?_
        refine va_castY (C := RX1) (nm := RX1) hx hb hown (hts _ (List.mem_of_getElem? (i := 2) rfl)) (hE.1.2.2.2.1 _ (List.mem_of_getElem? (i := 0) rfl)) (va_recv hE.K (q_P1 h_h) (ci := 2) (q0 := 0) rfl rfl) dX3_likenessToAll_26 ?_
        refine lv_astore (lv' := [(5, .ref (ad (2 * i + 7))), (4, .int (nI i)), (3, .int (sumI (fun h => nI (ssr z h) * likF (sL z) a (scd z h) ((b + sL z - sdl z h) % sL z)) i)), (0, .ref (ad 0)), (1, .int (nI a)), (2, .int (nI b))]) hx hb dX3_likenessToAll_29 hl (by decide) rfl (fun ls hl => ?_)
        refine lv_iload_n hx hb dX3_likenessToAll_31 rfl (lv_at hl 5 rfl) ?_
        refine lv_aload hx hb dX3_likenessToAll_32 (lv_at hl 0 rfl) ?_
        refine va_get (v := .int (nI (sdl z i))) (C := RX1) (T := TX1) (N := 5) hx hb hts (q_sub wsX10 55 rfl) hown hE.K (q_P1 h_h) 0 rfl rfl 2 (by decide) (hts _ (List.mem_of_getElem? (i := 3) rfl)) (fun _ h9 => h9) rfl dX3_likenessToAll_34 ?_
        refine q_isub (v := nI b - nI (sdl z i)) hx hb dX3_likenessToAll_37 rfl ?_
        refine lv_istore (lv' := [(6, .int (nI b - nI (sdl z i))), (5, .ref (ad (2 * i + 7))), (4, .int (nI i)), (3, .int (sumI (fun h => nI (ssr z h) * likF (sL z) a (scd z h) ((b + sL z - sdl z h) % sL z)) i)), (0, .ref (ad 0)), (1, .int (nI a)), (2, .int (nI b))]) hx hb dX3_likenessToAll_38 hl (by decide) rfl (fun ls hl => ?_)
        refine lv_iload hx hb dX3_likenessToAll_40 (lv_at hl 0 rfl) ?_
        refine lv_if_ge (tgt := 57) hx hb dX3_likenessToAll_42 (by decide) (fun c_6 => ?_) (fun c_6 => ?_)
        · have e6 : nI b - nI (sdl z i) = nI ((b + sL z - sdl z i) % sL z) := by_ge hb_ hd_.2 hL.2 c_6
          rw [e6] at hl
          refine lv_iload_n hx hb dX3_likenessToAll_57 rfl (lv_at hl 3 rfl) ?_
          refine lv_aload hx hb dX3_likenessToAll_58 (lv_at hl 1 rfl) ?_
          refine va_get (v := .int (nI (ssr z i))) (C := RX1) (T := TX1) (N := 5) hx hb hts (q_sub wsX10 55 rfl) hown hE.K (q_P1 h_h) 0 rfl rfl 1 (by decide) (hts _ (List.mem_of_getElem? (i := 6) rfl)) (fun _ h9 => h9) rfl dX3_likenessToAll_60 ?_
          refine lv_aload_n hx hb dX3_likenessToAll_63 rfl (lv_at hl 4 rfl) ?_
          refine va_get (v := .ref (ad 1)) (C := RX3) (T := TX3) (N := 3) hx hb hts (q_sub wsX30 52 rfl) hown hE.K (q_P1 h_x) 0 rfl rfl 0 (by decide) (hts _ (List.mem_of_getElem? (i := 4) rfl)) (fun _ h9 => h9) rfl dX3_likenessToAll_64 ?_
          refine lv_iload_n hx hb dX3_likenessToAll_67 rfl (lv_at hl 5 rfl) ?_
          refine lv_aload hx hb dX3_likenessToAll_68 (lv_at hl 1 rfl) ?_
          refine va_get (v := .int (nI (scd z i))) (C := RX1) (T := TX1) (N := 5) hx hb hts (q_sub wsX10 55 rfl) hown hE.K (q_P1 h_h) 0 rfl rfl 0 (by decide) (hts _ (List.mem_of_getElem? (i := 7) rfl)) (fun _ h9 => h9) rfl dX3_likenessToAll_70 ?_
          refine lv_iload hx hb dX3_likenessToAll_73 (lv_at hl 0 rfl) ?_
          refine q_roV (As := [.int (nI a), .int (nI (scd z i)), .int (nI ((b + sL z - sdl z i) % sL z))]) (rest := [.int (nI (ssr z i)), .int (sumI (fun h => nI (ssr z h) * likF (sL z) a (scd z h) ((b + sL z - sdl z h) % sL z)) i)]) ⟨hx, hb, hml, hown, hts⟩ (c_X0_likeness (L := sL z) hL.2 ha hd_.1 (Nat.mod_lt _ (by omega))) (cwV 3 hts gX3_likenessToAll_X0_likeness rfl rfl rfl (by decide +kernel) ⟨Nat.le_of_ble_eq_true rfl, Nat.le_of_ble_eq_true rfl⟩) hE hA h_c (va_recv hE.K (q_P1 h_c) (ci := 1) (q0 := 0) rfl rfl) rfl hl.1 rfl (Nat.le_of_ble_eq_true rfl) dX3_likenessToAll_75 ⟨Nat.zero_le _, Nat.zero_le _⟩ ?_
          refine q_imul (v := (nI (ssr z i)) * (likF (sL z) a (scd z i) ((b + sL z - sdl z i) % sL z))) hx hb dX3_likenessToAll_78 rfl ?_
          refine q_iadd (v := sumI (fun h => nI (ssr z h) * likF (sL z) a (scd z h) ((b + sL z - sdl z h) % sL z)) (i + 1)) hx hb dX3_likenessToAll_79 rfl ?_
          refine lv_istore_n (lv' := [(3, .int (sumI (fun h => nI (ssr z h) * likF (sL z) a (scd z h) ((b + sL z - sdl z h) % sL z)) (i + 1))), (6, .int (nI ((b + sL z - sdl z i) % sL z))), (5, .ref (ad (2 * i + 7))), (4, .int (nI i)), (0, .ref (ad 0)), (1, .int (nI a)), (2, .int (nI b))]) hx hb dX3_likenessToAll_80 rfl hl (by decide) rfl (fun ls hl => ?_)
          refine lv_iinc (v := nI (i + 1)) (lv' := [(4, .int (nI (i + 1))), (3, .int (sumI (fun h => nI (ssr z h) * likF (sL z) a (scd z h) ((b + sL z - sdl z h) % sL z)) (i + 1))), (6, .int (nI ((b + sL z - sdl z i) % sL z))), (5, .ref (ad (2 * i + 7))), (0, .ref (ad 0)), (1, .int (nI a)), (2, .int (nI b))]) hx hb dX3_likenessToAll_81 hl (k := 3) rfl (nI_1 _) (by decide) rfl (fun ls hl => ?_)
          refine lv_goto (tgt := 5) hx hb dX3_likenessToAll_84 (by decide) ?_
          exact ih_5 (i + 1)  (by omega) (by omega)  _ (lv_sub hl [0, 1, 4, 5, 6] rfl)
        · refine lv_iload hx hb dX3_likenessToAll_45 (lv_at hl 0 rfl) ?_
          refine lv_aload_n hx hb dX3_likenessToAll_47 rfl (lv_at hl 4 rfl) ?_
          refine va_get (v := .ref (ad 1)) (C := RX3) (T := TX3) (N := 3) hx hb hts (q_sub wsX30 52 rfl) hown hE.K (q_P1 h_x) 0 rfl rfl 0 (by decide) (hts _ (List.mem_of_getElem? (i := 4) rfl)) (fun _ h9 => h9) rfl dX3_likenessToAll_48 ?_
          refine va_get (v := .int (nI (sL z))) (C := RX0) (T := TX0) (N := 1) hx hb hts (q_sub wsX00 60 rfl) hown hE.K (q_P1 h_c) 0 rfl rfl 0 (by decide) (hts _ (List.mem_of_getElem? (i := 5) rfl)) (fun _ h9 => h9) rfl dX3_likenessToAll_51 ?_
          refine q_iadd (v := nI ((b + sL z - sdl z i) % sL z)) hx hb dX3_likenessToAll_54 (by_lt hb_ hd_.2 hL.2 c_6) ?_
          refine lv_istore (lv' := [(6, .int (nI ((b + sL z - sdl z i) % sL z))), (5, .ref (ad (2 * i + 7))), (4, .int (nI i)), (3, .int (sumI (fun h => nI (ssr z h) * likF (sL z) a (scd z h) ((b + sL z - sdl z h) % sL z)) i)), (0, .ref (ad 0)), (1, .int (nI a)), (2, .int (nI b))]) hx hb dX3_likenessToAll_55 hl (by decide) rfl (fun ls hl => ?_)
          refine lv_iload_n hx hb dX3_likenessToAll_57 rfl (lv_at hl 3 rfl) ?_
          refine lv_aload hx hb dX3_likenessToAll_58 (lv_at hl 1 rfl) ?_
          refine va_get (v := .int (nI (ssr z i))) (C := RX1) (T := TX1) (N := 5) hx hb hts (q_sub wsX10 55 rfl) hown hE.K (q_P1 h_h) 0 rfl rfl 1 (by decide) (hts _ (List.mem_of_getElem? (i := 6) rfl)) (fun _ h9 => h9) rfl dX3_likenessToAll_60 ?_
          refine lv_aload_n hx hb dX3_likenessToAll_63 rfl (lv_at hl 4 rfl) ?_
          refine va_get (v := .ref (ad 1)) (C := RX3) (T := TX3) (N := 3) hx hb hts (q_sub wsX30 52 rfl) hown hE.K (q_P1 h_x) 0 rfl rfl 0 (by decide) (hts _ (List.mem_of_getElem? (i := 4) rfl)) (fun _ h9 => h9) rfl dX3_likenessToAll_64 ?_
          refine lv_iload_n hx hb dX3_likenessToAll_67 rfl (lv_at hl 5 rfl) ?_
          refine lv_aload hx hb dX3_likenessToAll_68 (lv_at hl 1 rfl) ?_
          refine va_get (v := .int (nI (scd z i))) (C := RX1) (T := TX1) (N := 5) hx hb hts (q_sub wsX10 55 rfl) hown hE.K (q_P1 h_h) 0 rfl rfl 0 (by decide) (hts _ (List.mem_of_getElem? (i := 7) rfl)) (fun _ h9 => h9) rfl dX3_likenessToAll_70 ?_
          refine lv_iload hx hb dX3_likenessToAll_73 (lv_at hl 0 rfl) ?_
          refine q_roV (As := [.int (nI a), .int (nI (scd z i)), .int (nI ((b + sL z - sdl z i) % sL z))]) (rest := [.int (nI (ssr z i)), .int (sumI (fun h => nI (ssr z h) * likF (sL z) a (scd z h) ((b + sL z - sdl z h) % sL z)) i)]) ⟨hx, hb, hml, hown, hts⟩ (c_X0_likeness (L := sL z) hL.2 ha hd_.1 (Nat.mod_lt _ (by omega))) (cwV 3 hts gX3_likenessToAll_X0_likeness rfl rfl rfl (by decide +kernel) ⟨Nat.le_of_ble_eq_true rfl, Nat.le_of_ble_eq_true rfl⟩) hE hA h_c (va_recv hE.K (q_P1 h_c) (ci := 1) (q0 := 0) rfl rfl) rfl hl.1 rfl (Nat.le_of_ble_eq_true rfl) dX3_likenessToAll_75 ⟨Nat.zero_le _, Nat.zero_le _⟩ ?_
          refine q_imul (v := (nI (ssr z i)) * (likF (sL z) a (scd z i) ((b + sL z - sdl z i) % sL z))) hx hb dX3_likenessToAll_78 rfl ?_
          refine q_iadd (v := sumI (fun h => nI (ssr z h) * likF (sL z) a (scd z h) ((b + sL z - sdl z h) % sL z)) (i + 1)) hx hb dX3_likenessToAll_79 rfl ?_
          refine lv_istore_n (lv' := [(3, .int (sumI (fun h => nI (ssr z h) * likF (sL z) a (scd z h) ((b + sL z - sdl z h) % sL z)) (i + 1))), (6, .int (nI ((b + sL z - sdl z i) % sL z))), (5, .ref (ad (2 * i + 7))), (4, .int (nI i)), (0, .ref (ad 0)), (1, .int (nI a)), (2, .int (nI b))]) hx hb dX3_likenessToAll_80 rfl hl (by decide) rfl (fun ls hl => ?_)
          refine lv_iinc (v := nI (i + 1)) (lv' := [(4, .int (nI (i + 1))), (3, .int (sumI (fun h => nI (ssr z h) * likF (sL z) a (scd z h) ((b + sL z - sdl z h) % sL z)) (i + 1))), (6, .int (nI ((b + sL z - sdl z i) % sL z))), (5, .ref (ad (2 * i + 7))), (0, .ref (ad 0)), (1, .int (nI a)), (2, .int (nI b))]) hx hb dX3_likenessToAll_81 hl (k := 3) rfl (nI_1 _) (by decide) rfl (fun ls hl => ?_)
          refine lv_goto (tgt := 5) hx hb dX3_likenessToAll_84 (by decide) ?_
          exact ih_5 (i + 1)  (by omega) (by omega)  _ (lv_sub hl [0, 1, 4, 5, 6] rfl)
  exact lp_5 (sn z + 1) 0  (Nat.zero_le _) (by omega)  _ (lv_sub hl [0, 1, 2, 3, 4] rfl)
