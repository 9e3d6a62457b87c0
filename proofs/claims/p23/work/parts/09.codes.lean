/-! ===== Codes and Hill: what reads only ===== -/
set_option maxHeartbeats 4000000 in
set_option maxRecDepth 100000 in
theorem c_J6_bitCount_0f7a4 {l : Launch} {g : gT} {k : Nat} (hk : k < 16) : RO l yJ6_bitCount_0f7a4 wsJ6_bitCount_0f7a4 ({ frames := 0, cells := 0, slots := 0, locals := 0 } : Room) [.int (nI k)] g (fun H => True) (some (.int (nI (pcN k)))) := by
  refine RO.of (cc := cJ6_bitCount_0f7a4) (maxL := 1) (ret := (some .int)) (by decide) rfl (Nat.le_of_ble_eq_true rfl) ?_
  intro p e s m below meth c hx hb hml hr hlocks hown hts hE hF ls hl
  have hown : s.vm.findClass RJ6 = some m.cls := hown
  have hA : ∀ q, s.heap.size ≤ q → q_n s.heap q := fun _ h => h
  have hl : lv_has ls 1 [(0, .int (nI k))] := hl
  refine lv_iload_n hx hb dJ6_bitCount_0f7a4_0 rfl (lv_at hl 0 rfl) ?_
  refine lv_iload_n hx hb dJ6_bitCount_0f7a4_1 rfl (lv_at hl 0 rfl) ?_
  refine lv_iconst (v := nI 1) hx hb dJ6_bitCount_0f7a4_2 (by decide) ?_
  refine lv_iushr (v := ((nI k).toUInt32 >>> ((nI 1).toUInt32 &&& Int32.toUInt32 31)).toInt32) hx hb dJ6_bitCount_0f7a4_3 rfl ?_
  refine lv_ldcw (v := 1431655765) hx hb hown (hts _ (List.mem_of_getElem? (i := 1) rfl)) dJ6_bitCount_0f7a4_4 ?_
  refine q_iand (v := (((nI k).toUInt32 >>> ((nI 1).toUInt32 &&& Int32.toUInt32 31)).toInt32) &&& 1431655765) hx hb dJ6_bitCount_0f7a4_7 rfl ?_
  refine q_isub (v := bcA (nI k)) hx hb dJ6_bitCount_0f7a4_8 rfl ?_
  refine lv_istore_n (lv' := [(0, .int (bcA (nI k)))]) hx hb dJ6_bitCount_0f7a4_9 rfl hl (by decide) rfl (fun ls hl => ?_)
  refine lv_iload_n hx hb dJ6_bitCount_0f7a4_10 rfl (lv_at hl 0 rfl) ?_
  refine lv_ldcw (v := 858993459) hx hb hown (hts _ (List.mem_of_getElem? (i := 2) rfl)) dJ6_bitCount_0f7a4_11 ?_
  refine q_iand (v := (bcA (nI k)) &&& 858993459) hx hb dJ6_bitCount_0f7a4_14 rfl ?_
  refine lv_iload_n hx hb dJ6_bitCount_0f7a4_15 rfl (lv_at hl 0 rfl) ?_
  refine lv_iconst (v := nI 2) hx hb dJ6_bitCount_0f7a4_16 (by decide) ?_
  refine lv_iushr (v := ((bcA (nI k)).toUInt32 >>> ((nI 2).toUInt32 &&& Int32.toUInt32 31)).toInt32) hx hb dJ6_bitCount_0f7a4_17 rfl ?_
  refine lv_ldcw (v := 858993459) hx hb hown (hts _ (List.mem_of_getElem? (i := 2) rfl)) dJ6_bitCount_0f7a4_18 ?_
  refine q_iand (v := (((bcA (nI k)).toUInt32 >>> ((nI 2).toUInt32 &&& Int32.toUInt32 31)).toInt32) &&& 858993459) hx hb dJ6_bitCount_0f7a4_21 rfl ?_
  refine q_iadd (v := bcB (bcA (nI k))) hx hb dJ6_bitCount_0f7a4_22 rfl ?_
  refine lv_istore_n (lv' := [(0, .int (bcB (bcA (nI k))))]) hx hb dJ6_bitCount_0f7a4_23 rfl hl (by decide) rfl (fun ls hl => ?_)
  refine lv_iload_n hx hb dJ6_bitCount_0f7a4_24 rfl (lv_at hl 0 rfl) ?_
  refine lv_iload_n hx hb dJ6_bitCount_0f7a4_25 rfl (lv_at hl 0 rfl) ?_
  refine lv_iconst (v := nI 4) hx hb dJ6_bitCount_0f7a4_26 (by decide) ?_
  refine lv_iushr (v := ((bcB (bcA (nI k))).toUInt32 >>> ((nI 4).toUInt32 &&& Int32.toUInt32 31)).toInt32) hx hb dJ6_bitCount_0f7a4_27 rfl ?_
  refine q_iadd (v := (bcB (bcA (nI k))) + (((bcB (bcA (nI k))).toUInt32 >>> ((nI 4).toUInt32 &&& Int32.toUInt32 31)).toInt32)) hx hb dJ6_bitCount_0f7a4_28 rfl ?_
  refine lv_ldcw (v := 252645135) hx hb hown (hts _ (List.mem_of_getElem? (i := 3) rfl)) dJ6_bitCount_0f7a4_29 ?_
  refine q_iand (v := bcC (bcB (bcA (nI k)))) hx hb dJ6_bitCount_0f7a4_32 rfl ?_
  refine lv_istore_n (lv' := [(0, .int (bcC (bcB (bcA (nI k)))))]) hx hb dJ6_bitCount_0f7a4_33 rfl hl (by decide) rfl (fun ls hl => ?_)
  refine lv_iload_n hx hb dJ6_bitCount_0f7a4_34 rfl (lv_at hl 0 rfl) ?_
  refine lv_iload_n hx hb dJ6_bitCount_0f7a4_35 rfl (lv_at hl 0 rfl) ?_
  refine lv_bipush (v := nI 8) hx hb dJ6_bitCount_0f7a4_36 (by decide) ?_
  refine lv_iushr (v := ((bcC (bcB (bcA (nI k)))).toUInt32 >>> ((nI 8).toUInt32 &&& Int32.toUInt32 31)).toInt32) hx hb dJ6_bitCount_0f7a4_38 rfl ?_
  refine q_iadd (v := bcD (bcC (bcB (bcA (nI k))))) hx hb dJ6_bitCount_0f7a4_39 rfl ?_
  refine lv_istore_n (lv' := [(0, .int (bcD (bcC (bcB (bcA (nI k))))))]) hx hb dJ6_bitCount_0f7a4_40 rfl hl (by decide) rfl (fun ls hl => ?_)
  refine lv_iload_n hx hb dJ6_bitCount_0f7a4_41 rfl (lv_at hl 0 rfl) ?_
  refine lv_iload_n hx hb dJ6_bitCount_0f7a4_42 rfl (lv_at hl 0 rfl) ?_
  refine lv_bipush (v := nI 16) hx hb dJ6_bitCount_0f7a4_43 (by decide) ?_
  refine lv_iushr (v := ((bcD (bcC (bcB (bcA (nI k))))).toUInt32 >>> ((nI 16).toUInt32 &&& Int32.toUInt32 31)).toInt32) hx hb dJ6_bitCount_0f7a4_45 rfl ?_
  refine q_iadd (v := bcE (bcD (bcC (bcB (bcA (nI k)))))) hx hb dJ6_bitCount_0f7a4_46 rfl ?_
  refine lv_istore_n (lv' := [(0, .int (bcE (bcD (bcC (bcB (bcA (nI k)))))))]) hx hb dJ6_bitCount_0f7a4_47 rfl hl (by decide) rfl (fun ls hl => ?_)
  refine lv_iload_n hx hb dJ6_bitCount_0f7a4_48 rfl (lv_at hl 0 rfl) ?_
  refine lv_bipush (v := nI 63) hx hb dJ6_bitCount_0f7a4_49 (by decide) ?_
  refine q_iand (v := bcI (nI k)) hx hb dJ6_bitCount_0f7a4_51 rfl ?_
  exact q_iret hx hb hr hlocks dJ6_bitCount_0f7a4_52 (bcI_ok k hk)
set_option maxHeartbeats 4000000 in
set_option maxRecDepth 100000 in
theorem c_X0_has {l : Launch} {g : gT} {c0 L : Nat} {x : Int32} (hL : L < 2147483648) : RO l yX0_has wsX0_has ({ frames := 0, cells := 0, slots := 0, locals := 0 } : Room) [.ref c0, .int x] g (fun H => va_at g.1 vwCl (c0, .inr (1, [.int (nI L)])) H) (some (.int (bI (inR x L)))) := by
  refine RO.of (cc := cX0_has) (maxL := 2) (ret := (some .boolean)) (by decide) rfl (Nat.le_of_ble_eq_true rfl) ?_
  intro p e s m below meth c hx hb hml hr hlocks hown hts hE hF ls hl
  have hown : s.vm.findClass RX0 = some m.cls := hown
  have hA : ∀ q, s.heap.size ≤ q → q_n s.heap q := fun _ h => h
  have h_c := hF
  have hl : lv_has ls 2 [(0, .ref c0), (1, .int x)] := hl
  refine lv_iload_n hx hb dX0_has_0 rfl (lv_at hl 1 rfl) ?_
  refine lv_if_lt (tgt := 16) hx hb dX0_has_1 (by decide) (fun c_1 => ?_) (fun c_1 => ?_)
  · have c_1 := rlt_0.mp c_1
    refine lv_iconst (v := nI 0) hx hb dX0_has_16 (by decide) ?_
    exact q_zret hx hb hr hlocks dX0_has_17 rfl (bI_f (fun h => by have h1 := h.1; have h2 := h.2; omega))
  · have c_1 := mt rlt_0.mpr c_1
    refine lv_iload_n hx hb dX0_has_4 rfl (lv_at hl 1 rfl) ?_
    refine lv_aload_n hx hb dX0_has_5 rfl (lv_at hl 0 rfl) ?_
    refine va_get (v := .int (nI L)) (C := RX0) (T := TX0) (N := 1) hx hb hts (q_sub wsX00 2 rfl) hown hE.K (q_P1 h_c) 0 rfl rfl 0 (by decide) (hts _ (List.mem_of_getElem? (i := 1) rfl)) (fun _ h9 => h9) rfl dX0_has_6 ?_
    refine lv_icmp_ge (tgt := 16) hx hb dX0_has_9 (by decide) (fun c_2 => ?_) (fun c_2 => ?_)
    · have c_2 := (nI_rle (by omega)).mp c_2
      refine lv_iconst (v := nI 0) hx hb dX0_has_16 (by decide) ?_
      exact q_zret hx hb hr hlocks dX0_has_17 rfl (bI_f (fun h => by have h1 := h.1; have h2 := h.2; omega))
    · have c_2 := mt (nI_rle (by omega)).mpr c_2
      refine lv_iconst (v := nI 1) hx hb dX0_has_12 (by decide) ?_
      refine lv_goto (tgt := 17) hx hb dX0_has_13 (by decide) ?_
      exact q_zret hx hb hr hlocks dX0_has_17 rfl (bI_t ⟨by omega, by omega⟩)
set_option maxHeartbeats 4000000 in
set_option maxRecDepth 100000 in
theorem c_X0_chipAt {l : Launch} {g : gT} {c0 a b : Nat} (ha : a < 16) : RO l yX0_chipAt wsX0_chipAt ({ frames := 1, cells := 0, slots := 0, locals := 20 } : Room) [.ref c0, .int (nI a), .int (nI b)] g (fun H => True) (some (.int (chip a b))) := by
  refine RO.of (cc := cX0_chipAt) (maxL := 3) (ret := (some .int)) (by decide) rfl (Nat.le_of_ble_eq_true rfl) ?_
  intro p e s m below meth c hx hb hml hr hlocks hown hts hE hF ls hl
  have hown : s.vm.findClass RX0 = some m.cls := hown
  have hA : ∀ q, s.heap.size ≤ q → q_n s.heap q := fun _ h => h
  have hl : lv_has ls 3 [(0, .ref c0), (1, .int (nI a)), (2, .int (nI b))] := hl
  refine lv_iload_n hx hb dX0_chipAt_0 rfl (lv_at hl 1 rfl) ?_
  refine lv_iload_n hx hb dX0_chipAt_1 rfl (lv_at hl 2 rfl) ?_
  refine q_iand (v := nI (a &&& b)) hx hb dX0_chipAt_2 (q_and _ _) ?_
  refine q_roS (As := [.int (nI (a &&& b))]) (rest := []) ⟨hx, hb, hml, hown, hts⟩ (c_J6_bitCount_0f7a4 (and16 ha)) (va_cwS 1 hts gX0_chipAt_J6_bitCount_0f7a4 rfl rfl rfl (by decide +kernel) ⟨Nat.le_of_ble_eq_true rfl, Nat.le_of_ble_eq_true rfl⟩) hE hA trivial rfl hl.1 rfl (Nat.le_of_ble_eq_true rfl) dX0_chipAt_3 ⟨Nat.zero_le _, Nat.zero_le _⟩ ?_
  refine lv_iconst (v := nI 1) hx hb dX0_chipAt_6 (by decide) ?_
  refine q_iand (v := nI (pcN (a &&& b) % 2)) hx hb dX0_chipAt_7 (q_and1 _) ?_
  refine q_if_ne (tgt := 15) hx hb (by have := pcN_le (a &&& b); omega) dX0_chipAt_8 (by decide) (fun c_1 => ?_) (fun c_1 => ?_)
  · refine lv_iconst (v := (-1 : Int32)) hx hb dX0_chipAt_15 (by decide) ?_
    exact q_iret hx hb hr hlocks dX0_chipAt_16 (chip_1 c_1)
  · refine lv_iconst (v := nI 1) hx hb dX0_chipAt_11 (by decide) ?_
    refine lv_goto (tgt := 16) hx hb dX0_chipAt_12 (by decide) ?_
    exact q_iret hx hb hr hlocks dX0_chipAt_16 (chip_0 c_1)
set_option maxHeartbeats 4000000 in
set_option maxRecDepth 100000 in
theorem c_X0_likeness {l : Launch} {g : gT} {c0 L a b s_ : Nat} (hL : L ≤ 16) (ha : a < L) (hb_ : b < L) (hs_ : s_ < L) : RO l yX0_likeness wsX0_likeness ({ frames := 2, cells := 0, slots := 0, locals := 42 } : Room) [.ref c0, .int (nI a), .int (nI b), .int (nI s_)] g (fun H => va_at g.1 vwCl (c0, .inr (1, [.int (nI L)])) H) (some (.int (likF L a b s_))) := by
  refine RO.of (cc := cX0_likeness) (maxL := 7) (ret := (some .int)) (by decide) rfl (Nat.le_of_ble_eq_true rfl) ?_
  intro p e s m below meth c hx hb hml hr hlocks hown hts hE hF ls hl
  have hown : s.vm.findClass RX0 = some m.cls := hown
  have hA : ∀ q, s.heap.size ≤ q → q_n s.heap q := fun _ h => h
  have h_c := hF
  have hl : lv_has ls 7 [(0, .ref c0), (1, .int (nI a)), (2, .int (nI b)), (3, .int (nI s_))] := hl
  refine lv_iconst (v := nI 0) hx hb dX0_likeness_0 (by decide) ?_
  refine lv_istore (lv' := [(4, .int (nI 0)), (0, .ref c0), (1, .int (nI a)), (2, .int (nI b)), (3, .int (nI s_))]) hx hb dX0_likeness_1 hl (by decide) rfl (fun ls hl => ?_)
  refine lv_iconst (v := nI 0) hx hb dX0_likeness_3 (by decide) ?_
  refine lv_istore (lv' := [(5, .int (nI 0)), (4, .int (nI 0)), (0, .ref c0), (1, .int (nI a)), (2, .int (nI b)), (3, .int (nI s_))]) hx hb dX0_likeness_4 hl (by decide) rfl (fun ls hl => ?_)
  have lp_6 : ∀ (n_ i : Nat) , i ≤ L → L + 1 ≤ i + n_ → ∀ (ls : Array Slot), lv_has ls 7 [(5, .int (nI i)), (4, .int (likS L a b s_ i)), (0, .ref c0), (1, .int (nI a)), (2, .int (nI b)), (3, .int (nI s_))] → W p l e ({ frames := 2, cells := 0, slots := 0, locals := 42 } : Room) s m ([.ref c0, .int (nI a), .int (nI b), .int (nI s_)] : List Value).toArray below meth c s.heap [] 0 0 (MQ below (q_Q (some (.int (likF L a b s_)))) ([.ref c0, .int (nI a), .int (nI b), .int (nI s_)] : List Value).toArray s 0 0 (fun _ => False)) (F0 m 6 ls []) := by
    intro n_
    induction n_ with
    | zero => intro i  hi_ hn_; exact absurd hn_ (by omega)
    | succ n_ ih_6 =>
      intro i  hi_i hn_i  ls hl
      refine lv_iload hx hb dX0_likeness_6 (lv_at hl 0 rfl) ?_
      refine lv_aload_n hx hb dX0_likeness_8 rfl (lv_at hl 2 rfl) ?_
      refine va_get (v := .int (nI L)) (C := RX0) (T := TX0) (N := 1) hx hb hts (q_sub wsX00 18 rfl) hown hE.K (q_P1 h_c) 0 rfl rfl 0 (by decide) (hts _ (List.mem_of_getElem? (i := 1) rfl)) (fun _ h9 => h9) rfl dX0_likeness_9 ?_
      refine q_icmp_ge (tgt := 65) hx hb (by omega) (by omega) dX0_likeness_12 (by decide) (fun c_1 => ?_) (fun c_1 => ?_)
      · have ei : i = L := by omega
        refine lv_iload hx hb dX0_likeness_65 (lv_at hl 1 rfl) ?_
        refine q_mabs (v := likF L a b s_) hx hb (hml.trans hl.1.symm) hown (hts _ (List.mem_of_getElem? (i := 2) rfl)) (hts _ (List.mem_of_getElem? (i := 3) rfl)) (hts _ (List.mem_of_getElem? (i := 4) rfl)) (hts _ (List.mem_of_getElem? (i := 5) rfl)) (Nat.le_of_ble_eq_true rfl) (Nat.le_of_ble_eq_true rfl) (Nat.zero_le _) (Nat.zero_le _) dX0_likeness_67 (by rw [ei]; rfl) ?_
        exact q_iret hx hb hr hlocks dX0_likeness_70 rfl
      · have e9 : (i + s_) % L < 16 := Nat.lt_of_lt_of_le (Nat.mod_lt _ (by omega)) hL
        refine lv_iload hx hb dX0_likeness_15 (lv_at hl 0 rfl) ?_
        refine lv_iload_n hx hb dX0_likeness_17 rfl (lv_at hl 5 rfl) ?_
        refine q_iadd (v := nI (i + s_)) hx hb dX0_likeness_18 (nI_add _ _) ?_
        refine lv_istore (lv' := [(6, .int (nI (i + s_))), (5, .int (nI i)), (4, .int (likS L a b s_ i)), (0, .ref c0), (1, .int (nI a)), (2, .int (nI b)), (3, .int (nI s_))]) hx hb dX0_likeness_19 hl (by decide) rfl (fun ls hl => ?_)
        refine lv_iload hx hb dX0_likeness_21 (lv_at hl 0 rfl) ?_
        refine lv_aload_n hx hb dX0_likeness_23 rfl (lv_at hl 3 rfl) ?_
        refine va_get (v := .int (nI L)) (C := RX0) (T := TX0) (N := 1) hx hb hts (q_sub wsX00 18 rfl) hown hE.K (q_P1 h_c) 0 rfl rfl 0 (by decide) (hts _ (List.mem_of_getElem? (i := 1) rfl)) (fun _ h9 => h9) rfl dX0_likeness_24 ?_
        refine q_icmp_lt (tgt := 39) hx hb (by omega) (by omega) dX0_likeness_27 (by decide) (fun c_2 => ?_) (fun c_2 => ?_)
        · have e6 : i + s_ = (i + s_) % L := (Nat.mod_eq_of_lt c_2).symm
          rw [e6] at hl
          refine lv_iload hx hb dX0_likeness_39 (lv_at hl 2 rfl) ?_
          refine lv_aload_n hx hb dX0_likeness_41 rfl (lv_at hl 3 rfl) ?_
          refine lv_iload_n hx hb dX0_likeness_42 rfl (lv_at hl 4 rfl) ?_
          refine lv_iload hx hb dX0_likeness_43 (lv_at hl 1 rfl) ?_
          refine q_roV (As := [.int (nI a), .int (nI i)]) (rest := [.int (likS L a b s_ i)]) ⟨hx, hb, hml, hown, hts⟩ (c_X0_chipAt (c0 := c0) (a := a) (b := i) (by omega)) (cwV 2 hts gX0_likeness_X0_chipAt rfl rfl rfl (by decide +kernel) ⟨Nat.le_of_ble_eq_true rfl, Nat.le_of_ble_eq_true rfl⟩) hE hA trivial (va_recv hE.K (q_P1 h_c) (ci := 1) (q0 := 0) rfl rfl) rfl hl.1 rfl (Nat.le_of_ble_eq_true rfl) dX0_likeness_45 ⟨Nat.zero_le _, Nat.zero_le _⟩ ?_
          refine lv_aload_n hx hb dX0_likeness_48 rfl (lv_at hl 3 rfl) ?_
          refine lv_iload_n hx hb dX0_likeness_49 rfl (lv_at hl 5 rfl) ?_
          refine lv_iload hx hb dX0_likeness_50 (lv_at hl 0 rfl) ?_
          refine q_roV (As := [.int (nI b), .int (nI ((i + s_) % L))]) (rest := [.int (chip a i), .int (likS L a b s_ i)]) ⟨hx, hb, hml, hown, hts⟩ (c_X0_chipAt (c0 := c0) (a := b) (b := (i + s_) % L) (by omega)) (cwV 2 hts gX0_likeness_X0_chipAt rfl rfl rfl (by decide +kernel) ⟨Nat.le_of_ble_eq_true rfl, Nat.le_of_ble_eq_true rfl⟩) hE hA trivial (va_recv hE.K (q_P1 h_c) (ci := 1) (q0 := 0) rfl rfl) rfl hl.1 rfl (Nat.le_of_ble_eq_true rfl) dX0_likeness_52 ⟨Nat.zero_le _, Nat.zero_le _⟩ ?_
          refine q_imul (v := (chip a i) * (chip b ((i + s_) % L))) hx hb dX0_likeness_55 rfl ?_
          refine q_iadd (v := likS L a b s_ (i + 1)) hx hb dX0_likeness_56 rfl ?_
          refine lv_istore (lv' := [(4, .int (likS L a b s_ (i + 1))), (6, .int (nI ((i + s_) % L))), (5, .int (nI i)), (0, .ref c0), (1, .int (nI a)), (2, .int (nI b)), (3, .int (nI s_))]) hx hb dX0_likeness_57 hl (by decide) rfl (fun ls hl => ?_)
          refine lv_iinc (v := nI (i + 1)) (lv' := [(5, .int (nI (i + 1))), (4, .int (likS L a b s_ (i + 1))), (6, .int (nI ((i + s_) % L))), (0, .ref c0), (1, .int (nI a)), (2, .int (nI b)), (3, .int (nI s_))]) hx hb dX0_likeness_59 hl (k := 2) rfl (nI_1 _) (by decide) rfl (fun ls hl => ?_)
          refine lv_goto (tgt := 6) hx hb dX0_likeness_62 (by decide) ?_
          exact ih_6 (i + 1)  (by omega) (by omega)  _ (lv_sub hl [0, 1, 3, 4, 5, 6] rfl)
        · have e6 : i + s_ - L = (i + s_) % L := by rw [Nat.mod_eq_sub_mod c_2, Nat.mod_eq_of_lt (by omega)]
          refine lv_iload hx hb dX0_likeness_30 (lv_at hl 0 rfl) ?_
          refine lv_aload_n hx hb dX0_likeness_32 rfl (lv_at hl 3 rfl) ?_
          refine va_get (v := .int (nI L)) (C := RX0) (T := TX0) (N := 1) hx hb hts (q_sub wsX00 18 rfl) hown hE.K (q_P1 h_c) 0 rfl rfl 0 (by decide) (hts _ (List.mem_of_getElem? (i := 1) rfl)) (fun _ h9 => h9) rfl dX0_likeness_33 ?_
          refine q_isub (v := nI (i + s_ - L)) hx hb dX0_likeness_36 (pk_sub (by omega)) ?_
          refine lv_istore (lv' := [(6, .int (nI (i + s_ - L))), (5, .int (nI i)), (4, .int (likS L a b s_ i)), (0, .ref c0), (1, .int (nI a)), (2, .int (nI b)), (3, .int (nI s_))]) hx hb dX0_likeness_37 hl (by decide) rfl (fun ls hl => ?_)
          rw [e6] at hl
          refine lv_iload hx hb dX0_likeness_39 (lv_at hl 2 rfl) ?_
          refine lv_aload_n hx hb dX0_likeness_41 rfl (lv_at hl 3 rfl) ?_
          refine lv_iload_n hx hb dX0_likeness_42 rfl (lv_at hl 4 rfl) ?_
          refine lv_iload hx hb dX0_likeness_43 (lv_at hl 1 rfl) ?_
          refine q_roV (As := [.int (nI a), .int (nI i)]) (rest := [.int (likS L a b s_ i)]) ⟨hx, hb, hml, hown, hts⟩ (c_X0_chipAt (c0 := c0) (a := a) (b := i) (by omega)) (cwV 2 hts gX0_likeness_X0_chipAt rfl rfl rfl (by decide +kernel) ⟨Nat.le_of_ble_eq_true rfl, Nat.le_of_ble_eq_true rfl⟩) hE hA trivial (va_recv hE.K (q_P1 h_c) (ci := 1) (q0 := 0) rfl rfl) rfl hl.1 rfl (Nat.le_of_ble_eq_true rfl) dX0_likeness_45 ⟨Nat.zero_le _, Nat.zero_le _⟩ ?_
          refine lv_aload_n hx hb dX0_likeness_48 rfl (lv_at hl 3 rfl) ?_
          refine lv_iload_n hx hb dX0_likeness_49 rfl (lv_at hl 5 rfl) ?_
          refine lv_iload hx hb dX0_likeness_50 (lv_at hl 0 rfl) ?_
          refine q_roV (As := [.int (nI b), .int (nI ((i + s_) % L))]) (rest := [.int (chip a i), .int (likS L a b s_ i)]) ⟨hx, hb, hml, hown, hts⟩ (c_X0_chipAt (c0 := c0) (a := b) (b := (i + s_) % L) (by omega)) (cwV 2 hts gX0_likeness_X0_chipAt rfl rfl rfl (by decide +kernel) ⟨Nat.le_of_ble_eq_true rfl, Nat.le_of_ble_eq_true rfl⟩) hE hA trivial (va_recv hE.K (q_P1 h_c) (ci := 1) (q0 := 0) rfl rfl) rfl hl.1 rfl (Nat.le_of_ble_eq_true rfl) dX0_likeness_52 ⟨Nat.zero_le _, Nat.zero_le _⟩ ?_
          refine q_imul (v := (chip a i) * (chip b ((i + s_) % L))) hx hb dX0_likeness_55 rfl ?_
          refine q_iadd (v := likS L a b s_ (i + 1)) hx hb dX0_likeness_56 rfl ?_
          refine lv_istore (lv' := [(4, .int (likS L a b s_ (i + 1))), (6, .int (nI ((i + s_) % L))), (5, .int (nI i)), (0, .ref c0), (1, .int (nI a)), (2, .int (nI b)), (3, .int (nI s_))]) hx hb dX0_likeness_57 hl (by decide) rfl (fun ls hl => ?_)
          refine lv_iinc (v := nI (i + 1)) (lv' := [(5, .int (nI (i + 1))), (4, .int (likS L a b s_ (i + 1))), (6, .int (nI ((i + s_) % L))), (0, .ref c0), (1, .int (nI a)), (2, .int (nI b)), (3, .int (nI s_))]) hx hb dX0_likeness_59 hl (k := 2) rfl (nI_1 _) (by decide) rfl (fun ls hl => ?_)
          refine lv_goto (tgt := 6) hx hb dX0_likeness_62 (by decide) ?_
          exact ih_6 (i + 1)  (by omega) (by omega)  _ (lv_sub hl [0, 1, 3, 4, 5, 6] rfl)
  exact lp_6 (L + 1) 0  (Nat.zero_le _) (by omega)  _ (lv_sub hl [0, 1, 2, 3, 4, 5] rfl)
set_option maxHeartbeats 4000000 in
set_option maxRecDepth 100000 in
theorem c_X1_isFull {l : Launch} {g : gT} {h0 w0 cd sr dl sd : Nat} {f : Nat → Int32} (hsd : sd ≤ 12) : RO l yX1_isFull wsX1_isFull ({ frames := 0, cells := 0, slots := 0, locals := 0 } : Room) [.ref h0] g (fun H => va_at g.1 vwCl (h0, .inr (2, [.int (nI cd), .int (nI sr), .int (nI dl), .int (nI sd), .ref w0])) H ∧ va_at g.1 vwCl (w0, .inl (gI g, 12, .inl f)) H) (some (.int (bI (12 ≤ sd)))) := by
  refine RO.of (cc := cX1_isFull) (maxL := 1) (ret := (some .boolean)) (by decide) rfl (Nat.le_of_ble_eq_true rfl) ?_
  intro p e s m below meth c hx hb hml hr hlocks hown hts hE hF ls hl
  have hown : s.vm.findClass RX1 = some m.cls := hown
  have hA : ∀ q, s.heap.size ≤ q → q_n s.heap q := fun _ h => h
  obtain ⟨h_h, h_w⟩ := hF
  have hl : lv_has ls 1 [(0, .ref h0)] := hl
  refine lv_aload_n hx hb dX1_isFull_0 rfl (lv_at hl 0 rfl) ?_
  refine va_get (v := .int (nI sd)) (C := RX1) (T := TX1) (N := 5) hx hb hts (q_sub wsX10 3 rfl) hown hE.K (q_P1 h_h) 0 rfl rfl 3 (by decide) (hts _ (List.mem_of_getElem? (i := 1) rfl)) (fun _ h9 => h9) rfl dX1_isFull_1 ?_
  refine lv_aload_n hx hb dX1_isFull_4 rfl (lv_at hl 0 rfl) ?_
  refine va_get (v := .ref w0) (C := RX1) (T := TX1) (N := 5) hx hb hts (q_sub wsX10 3 rfl) hown hE.K (q_P1 h_h) 0 rfl rfl 4 (by decide) (hts _ (List.mem_of_getElem? (i := 2) rfl)) (fun _ h9 => h9) rfl dX1_isFull_5 ?_
  refine q_alen (v := nI 12) hx hb hE h_w dX1_isFull_8 rfl ?_
  refine q_icmp_lt (tgt := 16) hx hb (by omega) (by omega) dX1_isFull_9 (by decide) (fun c_1 => ?_) (fun c_1 => ?_)
  · refine lv_iconst (v := nI 0) hx hb dX1_isFull_16 (by decide) ?_
    exact q_zret hx hb hr hlocks dX1_isFull_17 rfl (bI_f (by omega))
  · refine lv_iconst (v := nI 1) hx hb dX1_isFull_12 (by decide) ?_
    refine lv_goto (tgt := 17) hx hb dX1_isFull_13 (by decide) ?_
    exact q_zret hx hb hr hlocks dX1_isFull_17 rfl (bI_t (by omega))
set_option maxHeartbeats 4000000 in
set_option maxRecDepth 100000 in
theorem c_X1_wordAt {l : Launch} {g : gT} {h0 w0 cd sr dl sd : Nat} {f : Nat → Int32} {i : Nat} (hi : i < 12) : RO l yX1_wordAt wsX1_wordAt ({ frames := 0, cells := 0, slots := 0, locals := 0 } : Room) [.ref h0, .int (nI i)] g (fun H => va_at g.1 vwCl (h0, .inr (2, [.int (nI cd), .int (nI sr), .int (nI dl), .int (nI sd), .ref w0])) H ∧ va_at g.1 vwCl (w0, .inl (gI g, 12, .inl f)) H) (some (.int (f i))) := by
  refine RO.of (cc := cX1_wordAt) (maxL := 2) (ret := (some .int)) (by decide) rfl (Nat.le_of_ble_eq_true rfl) ?_
  intro p e s m below meth c hx hb hml hr hlocks hown hts hE hF ls hl
  have hown : s.vm.findClass RX1 = some m.cls := hown
  have hA : ∀ q, s.heap.size ≤ q → q_n s.heap q := fun _ h => h
  obtain ⟨h_h, h_w⟩ := hF
  have hl : lv_has ls 2 [(0, .ref h0), (1, .int (nI i))] := hl
  refine lv_iload_n hx hb dX1_wordAt_0 rfl (lv_at hl 1 rfl) ?_
  refine q_if_lt (tgt := 22) hx hb (by omega) dX1_wordAt_1 (by decide) ?_
  refine lv_iload_n hx hb dX1_wordAt_4 rfl (lv_at hl 1 rfl) ?_
  refine lv_aload_n hx hb dX1_wordAt_5 rfl (lv_at hl 0 rfl) ?_
  refine va_get (v := .ref w0) (C := RX1) (T := TX1) (N := 5) hx hb hts (q_sub wsX10 2 rfl) hown hE.K (q_P1 h_h) 0 rfl rfl 4 (by decide) (hts _ (List.mem_of_getElem? (i := 1) rfl)) (fun _ h9 => h9) rfl dX1_wordAt_6 ?_
  refine q_alen (v := nI 12) hx hb hE h_w dX1_wordAt_9 rfl ?_
  refine q_icmp_ge (tgt := 22) hx hb (by omega) (by omega) dX1_wordAt_10 (by decide) (fun c_2 => ?_) (fun c_2 => ?_)
  · exact absurd c_2 (by omega)
  · refine lv_aload_n hx hb dX1_wordAt_13 rfl (lv_at hl 0 rfl) ?_
    refine va_get (v := .ref w0) (C := RX1) (T := TX1) (N := 5) hx hb hts (q_sub wsX10 2 rfl) hown hE.K (q_P1 h_h) 0 rfl rfl 4 (by decide) (hts _ (List.mem_of_getElem? (i := 1) rfl)) (fun _ h9 => h9) rfl dX1_wordAt_14 ?_
    refine lv_iload_n hx hb dX1_wordAt_17 rfl (lv_at hl 1 rfl) ?_
    refine q_iald (v := f i) hx hb hE h_w (by omega) (by omega) dX1_wordAt_18 rfl ?_
    refine lv_goto (tgt := 23) hx hb dX1_wordAt_19 (by decide) ?_
    exact q_iret hx hb hr hlocks dX1_wordAt_23 rfl
set_option maxHeartbeats 4000000 in
set_option maxRecDepth 100000 in
theorem c_X1_isWrong {l : Launch} {g : gT} {h0 w0 cd sr dl sd : Nat} {f : Nat → Int32} {i : Nat} {x : Int32} (hi : i < 12) : RO l yX1_isWrong wsX1_isWrong ({ frames := 1, cells := 0, slots := 0, locals := 21 } : Room) [.ref h0, .int (nI i), .int x] g (fun H => va_at g.1 vwCl (h0, .inr (2, [.int (nI cd), .int (nI sr), .int (nI dl), .int (nI sd), .ref w0])) H ∧ va_at g.1 vwCl (w0, .inl (gI g, 12, .inl f)) H) (some (.int (bI (x * f i ≤ 0)))) := by
  refine RO.of (cc := cX1_isWrong) (maxL := 3) (ret := (some .boolean)) (by decide) rfl (Nat.le_of_ble_eq_true rfl) ?_
  intro p e s m below meth c hx hb hml hr hlocks hown hts hE hF ls hl
  have hown : s.vm.findClass RX1 = some m.cls := hown
  have hA : ∀ q, s.heap.size ≤ q → q_n s.heap q := fun _ h => h
  obtain ⟨h_h, h_w⟩ := hF
  have hl : lv_has ls 3 [(0, .ref h0), (1, .int (nI i)), (2, .int x)] := hl
  refine lv_iload_n hx hb dX1_isWrong_0 rfl (lv_at hl 2 rfl) ?_
  refine lv_aload_n hx hb dX1_isWrong_1 rfl (lv_at hl 0 rfl) ?_
  refine lv_iload_n hx hb dX1_isWrong_2 rfl (lv_at hl 1 rfl) ?_
  refine q_roV (As := [.int (nI i)]) (rest := [.int x]) ⟨hx, hb, hml, hown, hts⟩ (c_X1_wordAt hi) (cwV 1 hts gX1_isWrong_X1_wordAt rfl rfl rfl (by decide +kernel) ⟨Nat.le_of_ble_eq_true rfl, Nat.le_of_ble_eq_true rfl⟩) hE hA ⟨h_h, h_w⟩ (va_recv hE.K (q_P1 h_h) (ci := 2) (q0 := 0) rfl rfl) rfl hl.1 rfl (Nat.le_of_ble_eq_true rfl) dX1_isWrong_3 ⟨Nat.zero_le _, Nat.zero_le _⟩ ?_
  refine q_imul (v := x * (f i)) hx hb dX1_isWrong_6 rfl ?_
  refine lv_if_gt (tgt := 14) hx hb dX1_isWrong_7 (by decide) (fun c_1 => ?_) (fun c_1 => ?_)
  · refine lv_iconst (v := nI 0) hx hb dX1_isWrong_14 (by decide) ?_
    exact q_zret hx hb hr hlocks dX1_isWrong_15 rfl (bI_f (Int32.not_le.mpr c_1))
  · refine lv_iconst (v := nI 1) hx hb dX1_isWrong_10 (by decide) ?_
    refine lv_goto (tgt := 15) hx hb dX1_isWrong_11 (by decide) ?_
    exact q_zret hx hb hr hlocks dX1_isWrong_15 rfl (bI_t (Int32.not_lt.mp c_1))
set_option maxHeartbeats 4000000 in
set_option maxRecDepth 100000 in
theorem c_X1_start {l : Launch} {g : gT} {h0 w0 cd sr dl sd : Nat} {i L : Nat} : RO l yX1_start wsX1_start ({ frames := 0, cells := 0, slots := 0, locals := 0 } : Room) [.ref h0, .int (nI i), .int (nI L)] g (fun H => va_at g.1 vwCl (h0, .inr (2, [.int (nI cd), .int (nI sr), .int (nI dl), .int (nI sd), .ref w0])) H) (some (.int (nI (i * L + dl)))) := by
  refine RO.of (cc := cX1_start) (maxL := 3) (ret := (some .int)) (by decide) rfl (Nat.le_of_ble_eq_true rfl) ?_
  intro p e s m below meth c hx hb hml hr hlocks hown hts hE hF ls hl
  have hown : s.vm.findClass RX1 = some m.cls := hown
  have hA : ∀ q, s.heap.size ≤ q → q_n s.heap q := fun _ h => h
  have h_h := hF
  have hl : lv_has ls 3 [(0, .ref h0), (1, .int (nI i)), (2, .int (nI L))] := hl
  refine lv_iload_n hx hb dX1_start_0 rfl (lv_at hl 1 rfl) ?_
  refine lv_iload_n hx hb dX1_start_1 rfl (lv_at hl 2 rfl) ?_
  refine q_imul (v := nI (i * L)) hx hb dX1_start_2 (pk_mul _ _) ?_
  refine lv_aload_n hx hb dX1_start_3 rfl (lv_at hl 0 rfl) ?_
  refine va_get (v := .int (nI dl)) (C := RX1) (T := TX1) (N := 5) hx hb hts (q_sub wsX10 2 rfl) hown hE.K (q_P1 h_h) 0 rfl rfl 2 (by decide) (hts _ (List.mem_of_getElem? (i := 1) rfl)) (fun _ h9 => h9) rfl dX1_start_4 ?_
  refine q_iadd (v := nI (i * L + dl)) hx hb dX1_start_7 (nI_add _ _) ?_
  exact q_iret hx hb hr hlocks dX1_start_8 rfl
set_option maxHeartbeats 4000000 in
set_option maxRecDepth 100000 in
theorem c_X1_end {l : Launch} {g : gT} {h0 w0 cd sr dl sd : Nat} {L : Nat} (hsd : sd < 2147483648) : RO l yX1_end wsX1_end ({ frames := 1, cells := 0, slots := 0, locals := 22 } : Room) [.ref h0, .int (nI L)] g (fun H => va_at g.1 vwCl (h0, .inr (2, [.int (nI cd), .int (nI sr), .int (nI dl), .int (nI sd), .ref w0])) H) (some (.int (nI (endF L sd dl)))) := by
  refine RO.of (cc := cX1_end) (maxL := 2) (ret := (some .int)) (by decide) rfl (Nat.le_of_ble_eq_true rfl) ?_
  intro p e s m below meth c hx hb hml hr hlocks hown hts hE hF ls hl
  have hown : s.vm.findClass RX1 = some m.cls := hown
  have hA : ∀ q, s.heap.size ≤ q → q_n s.heap q := fun _ h => h
  have h_h := hF
  have hl : lv_has ls 2 [(0, .ref h0), (1, .int (nI L))] := hl
  refine lv_aload_n hx hb dX1_end_0 rfl (lv_at hl 0 rfl) ?_
  refine va_get (v := .int (nI sd)) (C := RX1) (T := TX1) (N := 5) hx hb hts (q_sub wsX10 8 rfl) hown hE.K (q_P1 h_h) 0 rfl rfl 3 (by decide) (hts _ (List.mem_of_getElem? (i := 1) rfl)) (fun _ h9 => h9) rfl dX1_end_1 ?_
  refine q_if_ne (tgt := 11) hx hb hsd dX1_end_4 (by decide) (fun c_1 => ?_) (fun c_1 => ?_)
  · refine lv_aload_n hx hb dX1_end_11 rfl (lv_at hl 0 rfl) ?_
    refine lv_aload_n hx hb dX1_end_12 rfl (lv_at hl 0 rfl) ?_
    refine va_get (v := .int (nI sd)) (C := RX1) (T := TX1) (N := 5) hx hb hts (q_sub wsX10 8 rfl) hown hE.K (q_P1 h_h) 0 rfl rfl 3 (by decide) (hts _ (List.mem_of_getElem? (i := 1) rfl)) (fun _ h9 => h9) rfl dX1_end_13 ?_
    refine lv_iload_n hx hb dX1_end_16 rfl (lv_at hl 1 rfl) ?_
    refine q_roV (As := [.int (nI sd), .int (nI L)]) (rest := []) ⟨hx, hb, hml, hown, hts⟩ (c_X1_start (h0 := h0) (i := sd) (L := L)) (cwV 2 hts gX1_end_X1_start rfl rfl rfl (by decide +kernel) ⟨Nat.le_of_ble_eq_true rfl, Nat.le_of_ble_eq_true rfl⟩) hE hA h_h (va_recv hE.K (q_P1 h_h) (ci := 2) (q0 := 0) rfl rfl) rfl hl.1 rfl (Nat.le_of_ble_eq_true rfl) dX1_end_17 ⟨Nat.zero_le _, Nat.zero_le _⟩ ?_
    exact q_iret hx hb hr hlocks dX1_end_20 (by rw [endF, if_neg (by omega)])
  · refine lv_iconst (v := nI 0) hx hb dX1_end_7 (by decide) ?_
    refine lv_goto (tgt := 20) hx hb dX1_end_8 (by decide) ?_
    exact q_iret hx hb hr hlocks dX1_end_20 (by rw [endF, if_pos c_1])
