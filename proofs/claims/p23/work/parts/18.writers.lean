/-! ===== writers: Hill, Sky, Arrays ===== -/
set_option maxHeartbeats 4000000 in
set_option maxRecDepth 100000 in
theorem c_X2_addWord {l : Launch} {g : gT} {sz : Nat} {ad : Nat → Nat} {mc : Int32} {M : Nat} {sig : Nat → Int32} {z : sT} (hM : wM M (sn z)) (hV : VS z) {k w : Nat} {d : Int32} (hk_ : k < sn z) (hw : w < 12) : WR (S := Unit) l yX2_addWord wsX2_addWord ({ frames := 2, cells := 0, slots := 0, locals := 42 } : Room) [.ref (ad 2), .ref (ad (2 * k + 7)), .int (nI w), .int d] g (wC g ad mc M sig z) sz (fun _ : Unit => wC g ad mc M (adW sig d z k w (sL z)) z) (fun _ => none) 0 0 := by
  refine WR.of (cc := cX2_addWord) (maxL := 8) (ret := none) (by decide) rfl (Nat.le_of_ble_eq_true rfl) ?_
  intro p e s m below meth c hx hb hml hr hlocks hown hin0 hts hsz hE0 hP hD ls hl
  subst hsz
  have hown : s.vm.findClass RX2 = some m.cls := hown
  have hA : ∀ q, s.heap.size ≤ q → va_A (wC g ad mc M sig z) s.heap.size q := fun q h => Or.inr h
  have hE := hE0
  have hS : va_S (va_A (wC g ad mc M sig z) s.heap.size) s.heap s.heap [] := va_S.rf
  have hl : lv_has ls 8 [(0, .ref (ad 2)), (1, .ref (ad (2 * k + 7))), (2, .int (nI w)), (3, .int d)] := hl
  have hL := hV.L
  have hn := hV.n
  have hb_ := hV.h hk_
  have hd_ := hV.hL hk_
  have hw16 := mul16 (a := w) hL.2
  refine lv_iload_n hx hb dX2_addWord_0 rfl (lv_at hl 3 rfl) ?_
  refine lv_aload_n hx hb dX2_addWord_1 rfl (lv_at hl 1 rfl) ?_
  refine lv_iload_n hx hb dX2_addWord_2 rfl (lv_at hl 2 rfl) ?_
  refine q_roV (As := [.int (nI w)]) (rest := [.int d]) ⟨hx, hb, hml, hown, hts⟩ (c_X1_wordAt (i := w) (by omega)) (cwV 1 hts gX2_addWord_X1_wordAt rfl rfl rfl (by decide +kernel) ⟨Nat.le_of_ble_eq_true rfl, Nat.le_of_ble_eq_true rfl⟩) hE (fun q h => hA q (Nat.le_trans hS.1 h)) ⟨(hP (2 * k + 7) _ (wC_h hM hk_)), (hP (2 * k + 8) _ (wC_w hM hk_))⟩ (va_recv hE.K hP (ci := 2) (q0 := (2 * k + 7)) rfl (wC_h hM hk_)) rfl hl.1 rfl (Nat.le_of_ble_eq_true rfl) dX2_addWord_3 ⟨Nat.le_of_ble_eq_true rfl, Nat.le_of_ble_eq_true rfl⟩ ?_
  refine q_imul (v := d * (swd z k w)) hx hb dX2_addWord_6 rfl ?_
  refine lv_istore (lv' := [(4, .int (d * (swd z k w))), (0, .ref (ad 2)), (1, .ref (ad (2 * k + 7))), (2, .int (nI w)), (3, .int d)]) hx hb dX2_addWord_7 hl (by decide) rfl (fun ls hl => ?_)
  refine lv_aload_n hx hb dX2_addWord_9 rfl (lv_at hl 2 rfl) ?_
  refine lv_iload_n hx hb dX2_addWord_10 rfl (lv_at hl 3 rfl) ?_
  refine lv_aload_n hx hb dX2_addWord_11 rfl (lv_at hl 1 rfl) ?_
  refine va_get (v := .ref (ad 1)) (C := RX2) (T := TX2) (N := 3) hx hb hts (q_sub wsX20 28 rfl) hown hE.K hP 2 rfl rfl 2 (by decide) (hts _ (List.mem_of_getElem? (i := 1) rfl)) (fun _ h9 => h9) rfl dX2_addWord_12 ?_
  refine va_get (v := .int (nI (sL z))) (C := RX0) (T := TX0) (N := 1) hx hb hts (q_sub wsX00 31 rfl) hown hE.K hP 1 rfl rfl 0 (by decide) (hts _ (List.mem_of_getElem? (i := 2) rfl)) (fun _ h9 => h9) rfl dX2_addWord_15 ?_
  refine q_roV (As := [.int (nI w), .int (nI (sL z))]) (rest := []) ⟨hx, hb, hml, hown, hts⟩ (c_X1_start (i := w) (L := sL z)) (cwV 2 hts gX2_addWord_X1_start rfl rfl rfl (by decide +kernel) ⟨Nat.le_of_ble_eq_true rfl, Nat.le_of_ble_eq_true rfl⟩) hE (fun q h => hA q (Nat.le_trans hS.1 h)) (hP (2 * k + 7) _ (wC_h hM hk_)) (va_recv hE.K hP (ci := 2) (q0 := (2 * k + 7)) rfl (wC_h hM hk_)) rfl hl.1 rfl (Nat.le_of_ble_eq_true rfl) dX2_addWord_18 ⟨Nat.le_of_ble_eq_true rfl, Nat.le_of_ble_eq_true rfl⟩ ?_
  refine lv_istore (lv' := [(5, .int (nI (w * sL z + sdl z k))), (4, .int (d * (swd z k w))), (0, .ref (ad 2)), (1, .ref (ad (2 * k + 7))), (2, .int (nI w)), (3, .int d)]) hx hb dX2_addWord_21 hl (by decide) rfl (fun ls hl => ?_)
  refine lv_iconst (v := nI 0) hx hb dX2_addWord_23 (by decide) ?_
  refine lv_istore (lv' := [(6, .int (nI 0)), (5, .int (nI (w * sL z + sdl z k))), (4, .int (d * (swd z k w))), (0, .ref (ad 2)), (1, .ref (ad (2 * k + 7))), (2, .int (nI w)), (3, .int d)]) hx hb dX2_addWord_24 hl (by decide) rfl (fun ls hl => ?_)
  have lp_26 : ∀ (n_ i : Nat) , i ≤ sL z → sL z + 1 ≤ i + n_ → ∀ (H : Heap) (locs : List Loc), va_P g.1 vwCl (wC g ad mc M (adW sig d z k w i) z) H → va_D (va_A (wC g ad mc M sig z) s.heap.size) (wC g ad mc M (adW sig d z k w i) z) → va_S (va_A (wC g ad mc M sig z) s.heap.size) s.heap H locs → Ev g (va_A (wC g ad mc M sig z) s.heap.size) s H → ∀ (ls : Array Slot), lv_has ls 8 [(6, .int (nI i)), (5, .int (nI (w * sL z + sdl z k))), (4, .int (d * swd z k w)), (0, .ref (ad 2)), (1, .ref (ad (2 * k + 7))), (2, .int (nI w)), (3, .int d)] → W p l e ({ frames := 2, cells := 0, slots := 0, locals := 42 } : Room) s m ([.ref (ad 2), .ref (ad (2 * k + 7)), .int (nI w), .int d] : List Value).toArray below meth c H locs 0 0 (MQ below (q_Qw (fun _ : Unit => wC g ad mc M (adW sig d z k w (sL z)) z) (fun _ => none) g (wC g ad mc M sig z) s.heap.size) ([.ref (ad 2), .ref (ad (2 * k + 7)), .int (nI w), .int d] : List Value).toArray s 0 0 (va_A (wC g ad mc M sig z) s.heap.size)) (F0 m 26 ls []) := by
    intro n_
    induction n_ with
    | zero => intro i  hi_ hn_; exact absurd hn_ (by omega)
    | succ n_ ih_26 =>
      intro i  hi_i hn_i  H locs hP hD hS hE ls hl
      refine lv_iload hx hb dX2_addWord_26 (lv_at hl 0 rfl) ?_
      refine lv_aload_n hx hb dX2_addWord_28 rfl (lv_at hl 3 rfl) ?_
      refine va_get (v := .ref (ad 1)) (C := RX2) (T := TX2) (N := 3) hx hb hts (q_sub wsX20 28 rfl) hown hE.K hP 2 rfl rfl 2 (by decide) (hts _ (List.mem_of_getElem? (i := 1) rfl)) (fun _ h9 => h9) rfl dX2_addWord_29 ?_
      refine va_get (v := .int (nI (sL z))) (C := RX0) (T := TX0) (N := 1) hx hb hts (q_sub wsX00 31 rfl) hown hE.K hP 1 rfl rfl 0 (by decide) (hts _ (List.mem_of_getElem? (i := 2) rfl)) (fun _ h9 => h9) rfl dX2_addWord_32 ?_
      refine q_icmp_ge (tgt := 92) hx hb (by omega) (by omega) dX2_addWord_35 (by decide) (fun c_l => ?_) (fun c_l => ?_)
      · obtain ei : i = sL z := by omega
        rw [ei] at hP hD
        exact q_wvret (()) hx hb hr hlocks hP hD hS dX2_addWord_92 rfl
      · refine lv_iload hx hb dX2_addWord_38 (lv_at hl 1 rfl) ?_
        refine lv_iload hx hb dX2_addWord_40 (lv_at hl 0 rfl) ?_
        refine q_iadd (v := nI (w * sL z + sdl z k + i)) hx hb dX2_addWord_42 (nI_add _ _) ?_
        refine lv_istore (lv' := [(7, .int (nI (w * sL z + sdl z k + i))), (6, .int (nI i)), (5, .int (nI (w * sL z + sdl z k))), (4, .int (d * swd z k w)), (0, .ref (ad 2)), (1, .ref (ad (2 * k + 7))), (2, .int (nI w)), (3, .int d)]) hx hb dX2_addWord_43 hl (by decide) rfl (fun ls hl => ?_)
        refine lv_iload hx hb dX2_addWord_45 (lv_at hl 0 rfl) ?_
        refine q_if_lt (tgt := 86) hx hb (by omega) dX2_addWord_47 (by decide) ?_
        refine lv_iload hx hb dX2_addWord_50 (lv_at hl 0 rfl) ?_
        refine lv_aload_n hx hb dX2_addWord_52 rfl (lv_at hl 4 rfl) ?_
        refine va_get (v := .ref (ad 4)) (C := RX2) (T := TX2) (N := 3) hx hb hts (q_sub wsX20 28 rfl) hown hE.K hP 2 rfl rfl 1 (by decide) (hts _ (List.mem_of_getElem? (i := 3) rfl)) (fun _ h9 => h9) rfl dX2_addWord_53 ?_
        refine q_alen (v := nI 207) hx hb hE (hP 4 _ rfl) dX2_addWord_56 rfl ?_
        refine q_icmp_ge (tgt := 86) hx hb (by omega) (by omega) dX2_addWord_57 (by decide) (fun c_2 => ?_) (fun c_2 => ?_)
        · exfalso; omega
        · refine lv_aload_n hx hb dX2_addWord_60 rfl (lv_at hl 4 rfl) ?_
          refine va_get (v := .ref (ad 4)) (C := RX2) (T := TX2) (N := 3) hx hb hts (q_sub wsX20 28 rfl) hown hE.K hP 2 rfl rfl 1 (by decide) (hts _ (List.mem_of_getElem? (i := 3) rfl)) (fun _ h9 => h9) rfl dX2_addWord_61 ?_
          refine lv_iload hx hb dX2_addWord_64 (lv_at hl 0 rfl) ?_
          refine lv_dup2_11 hx hb dX2_addWord_66 rfl rfl ?_
          refine q_iald (v := (adW sig d z k w i) (w * sL z + sdl z k + i)) hx hb hE (hP 4 _ rfl) (by omega) (by omega) dX2_addWord_67 rfl ?_
          refine lv_iload hx hb dX2_addWord_68 (lv_at hl 3 rfl) ?_
          refine lv_aload_n hx hb dX2_addWord_70 rfl (lv_at hl 4 rfl) ?_
          refine va_get (v := .ref (ad 1)) (C := RX2) (T := TX2) (N := 3) hx hb hts (q_sub wsX20 28 rfl) hown hE.K hP 2 rfl rfl 2 (by decide) (hts _ (List.mem_of_getElem? (i := 1) rfl)) (fun _ h9 => h9) rfl dX2_addWord_71 ?_
          refine lv_aload_n hx hb dX2_addWord_74 rfl (lv_at hl 5 rfl) ?_
          refine va_get (v := .int (nI (scd z k))) (C := RX1) (T := TX1) (N := 5) hx hb hts (q_sub wsX10 32 rfl) hown hE.K hP (2 * k + 7) (wC_h hM hk_) rfl 0 (by decide) (hts _ (List.mem_of_getElem? (i := 4) rfl)) (fun _ h9 => h9) rfl dX2_addWord_75 ?_
          refine lv_iload hx hb dX2_addWord_78 (lv_at hl 1 rfl) ?_
          refine q_roV (As := [.int (nI (scd z k)), .int (nI i)]) (rest := [.int (d * swd z k w), .int ((adW sig d z k w i) (w * sL z + sdl z k + i)), .int (nI (w * sL z + sdl z k + i)), .ref (ad 4)]) ⟨hx, hb, hml, hown, hts⟩ (c_X0_chipAt (c0 := ad 1) (a := scd z k) (b := i) (by omega)) (cwV 2 hts gX2_addWord_X0_chipAt rfl rfl rfl (by decide +kernel) ⟨Nat.le_of_ble_eq_true rfl, Nat.le_of_ble_eq_true rfl⟩) hE (fun q h => hA q (Nat.le_trans hS.1 h)) trivial (va_recv hE.K hP (ci := 1) (q0 := 1) rfl rfl) rfl hl.1 rfl (Nat.le_of_ble_eq_true rfl) dX2_addWord_80 ⟨Nat.le_of_ble_eq_true rfl, Nat.le_of_ble_eq_true rfl⟩ ?_
          refine q_imul (v := (d * swd z k w) * (chip (scd z k) i)) hx hb dX2_addWord_83 rfl ?_
          refine q_iadd (v := ((adW sig d z k w i) (w * sL z + sdl z k + i)) + ((d * swd z k w) * (chip (scd z k) i))) hx hb dX2_addWord_84 rfl ?_
          refine q_iast hx hb hE hP hD hS (q0 := 4) rfl (by omega) (by omega) dX2_addWord_85 (fun H locs hP hD hS => ?_)
          have hP : va_P g.1 vwCl (wC g ad mc M (adW sig d z k w (i + 1)) z) H := q_eqP (congrArg (fun x => wC g ad mc M x z) adW_s) hP
          have hD : va_D (va_A (wC g ad mc M sig z) s.heap.size) (wC g ad mc M (adW sig d z k w (i + 1)) z) := q_eqD (congrArg (fun x => wC g ad mc M x z) adW_s) hD
          have hE := hE0.kept hS.2.1
          refine lv_iinc (v := nI (i + 1)) (lv' := [(6, .int (nI (i + 1))), (7, .int (nI (w * sL z + sdl z k + i))), (5, .int (nI (w * sL z + sdl z k))), (4, .int (d * swd z k w)), (0, .ref (ad 2)), (1, .ref (ad (2 * k + 7))), (2, .int (nI w)), (3, .int d)]) hx hb dX2_addWord_86 hl (k := 1) rfl (nI_1 _) (by decide) rfl (fun ls hl => ?_)
          refine lv_goto (tgt := 26) hx hb dX2_addWord_89 (by decide) ?_
          exact ih_26 (i + 1)  (by omega) (by omega)  _ _ hP hD hS hE _ (lv_sub hl [0, 2, 3, 4, 5, 6, 7] rfl)
  have hP : va_P g.1 vwCl (wC g ad mc M (adW sig d z k w 0) z) s.heap := q_eqP (congrArg (fun x => wC g ad mc M x z) adW_0) hP
  have hD : va_D _ (wC g ad mc M (adW sig d z k w 0) z) := q_eqD (congrArg (fun x => wC g ad mc M x z) adW_0) hD
  exact lp_26 (sL z + 1) 0  (Nat.zero_le _) (by omega)  _ _ hP hD hS hE _ (lv_sub hl [0, 1, 2, 3, 4, 5, 6] rfl)
set_option maxHeartbeats 4000000 in
set_option maxRecDepth 100000 in
theorem c_X2_addWords {l : Launch} {g : gT} {sz : Nat} {ad : Nat → Nat} {mc : Int32} {M : Nat} {sig : Nat → Int32} {z : sT} (hM : wM M (sn z)) (hV : VS z) {k : Nat} {d : Int32} (hk_ : k < sn z) : WR (S := Unit) l yX2_addWords wsX2_addWords ({ frames := 3, cells := 0, slots := 0, locals := 69 } : Room) [.ref (ad 2), .ref (ad (2 * k + 7)), .int d] g (wC g ad mc M sig z) sz (fun _ : Unit => wC g ad mc M (adWs sig d z k (ssd z k)) z) (fun _ => none) 0 0 := by
  refine WR.of (cc := cX2_addWords) (maxL := 4) (ret := none) (by decide) rfl (Nat.le_of_ble_eq_true rfl) ?_
  intro p e s m below meth c hx hb hml hr hlocks hown hin0 hts hsz hE0 hP hD ls hl
  subst hsz
  have hown : s.vm.findClass RX2 = some m.cls := hown
  have hA : ∀ q, s.heap.size ≤ q → va_A (wC g ad mc M sig z) s.heap.size q := fun q h => Or.inr h
  have hE := hE0
  have hS : va_S (va_A (wC g ad mc M sig z) s.heap.size) s.heap s.heap [] := va_S.rf
  have hl : lv_has ls 4 [(0, .ref (ad 2)), (1, .ref (ad (2 * k + 7))), (2, .int d)] := hl
  have hL := hV.L
  have hn := hV.n
  have hb_ := hV.h hk_
  have hd_ := hV.hL hk_
  refine lv_iconst (v := nI 0) hx hb dX2_addWords_0 (by decide) ?_
  refine lv_istore_n (lv' := [(3, .int (nI 0)), (0, .ref (ad 2)), (1, .ref (ad (2 * k + 7))), (2, .int d)]) hx hb dX2_addWords_1 rfl hl (by decide) rfl (fun ls hl => ?_)
  have lp_2 : ∀ (n_ i : Nat) , i ≤ ssd z k → ssd z k + 1 ≤ i + n_ → ∀ (H : Heap) (locs : List Loc), va_P g.1 vwCl (wC g ad mc M (adWs sig d z k i) z) H → va_D (va_A (wC g ad mc M sig z) s.heap.size) (wC g ad mc M (adWs sig d z k i) z) → va_S (va_A (wC g ad mc M sig z) s.heap.size) s.heap H locs → Ev g (va_A (wC g ad mc M sig z) s.heap.size) s H → ∀ (ls : Array Slot), lv_has ls 4 [(3, .int (nI i)), (0, .ref (ad 2)), (1, .ref (ad (2 * k + 7))), (2, .int d)] → W p l e ({ frames := 3, cells := 0, slots := 0, locals := 69 } : Room) s m ([.ref (ad 2), .ref (ad (2 * k + 7)), .int d] : List Value).toArray below meth c H locs 0 0 (MQ below (q_Qw (fun _ : Unit => wC g ad mc M (adWs sig d z k (ssd z k)) z) (fun _ => none) g (wC g ad mc M sig z) s.heap.size) ([.ref (ad 2), .ref (ad (2 * k + 7)), .int d] : List Value).toArray s 0 0 (va_A (wC g ad mc M sig z) s.heap.size)) (F0 m 2 ls []) := by
    intro n_
    induction n_ with
    | zero => intro i  hi_ hn_; exact absurd hn_ (by omega)
    | succ n_ ih_2 =>
      intro i  hi_i hn_i  H locs hP hD hS hE ls hl
      refine lv_iload_n hx hb dX2_addWords_2 rfl (lv_at hl 0 rfl) ?_
      refine lv_aload_n hx hb dX2_addWords_3 rfl (lv_at hl 2 rfl) ?_
      refine va_get (v := .int (nI (ssd z k))) (C := RX1) (T := TX1) (N := 5) hx hb hts (q_sub wsX10 34 rfl) hown hE.K hP (2 * k + 7) (wC_h hM hk_) rfl 3 (by decide) (hts _ (List.mem_of_getElem? (i := 1) rfl)) (fun _ h9 => h9) rfl dX2_addWords_4 ?_
      refine q_icmp_ge (tgt := 23) hx hb (by omega) (by omega) dX2_addWords_7 (by decide) (fun c_1 => ?_) (fun c_1 => ?_)
      · obtain ei : i = ssd z k := by omega
        rw [ei] at hP hD
        exact q_wvret (()) hx hb hr hlocks hP hD hS dX2_addWords_23 rfl
      · refine lv_aload_n hx hb dX2_addWords_10 rfl (lv_at hl 1 rfl) ?_
        refine lv_aload_n hx hb dX2_addWords_11 rfl (lv_at hl 2 rfl) ?_
        refine lv_iload_n hx hb dX2_addWords_12 rfl (lv_at hl 0 rfl) ?_
        refine lv_iload_n hx hb dX2_addWords_13 rfl (lv_at hl 3 rfl) ?_
        refine q_wrV (wr := []) (As := [.ref (ad (2 * k + 7)), .int (nI i), .int d]) (rest := []) ⟨hx, hb, hml, hown, hts⟩ (c_X2_addWord (w := i) (d := d) hM hV hk_ (by omega)) (cwV 3 hts gX2_addWords_X2_addWord rfl rfl rfl (by decide +kernel) ⟨Nat.le_of_ble_eq_true rfl, Nat.le_of_ble_eq_true rfl⟩) hE hP hD hS hA (va_recv hE.K hP (ci := 3) (q0 := 2) rfl rfl) rfl hl.1 rfl (Nat.le_of_ble_eq_true rfl) dX2_addWords_14 ⟨Nat.le_of_ble_eq_true rfl, Nat.le_of_ble_eq_true rfl⟩ (fun _u H locs hP hD hS hE => ?_)
        have hP : va_P g.1 vwCl (wC g ad mc M (adWs sig d z k (i + 1)) z) H := hP
        have hD : va_D (va_A (wC g ad mc M sig z) s.heap.size) (wC g ad mc M (adWs sig d z k (i + 1)) z) := hD
        refine lv_iinc (v := nI (i + 1)) (lv' := [(3, .int (nI (i + 1))), (0, .ref (ad 2)), (1, .ref (ad (2 * k + 7))), (2, .int d)]) hx hb dX2_addWords_17 hl (k := 0) rfl (nI_1 _) (by decide) rfl (fun ls hl => ?_)
        refine lv_goto (tgt := 2) hx hb dX2_addWords_20 (by decide) ?_
        exact ih_2 (i + 1)  (by omega) (by omega)  _ _ hP hD hS hE _ (lv_sub hl [0, 1, 2, 3] rfl)
  have hP : va_P g.1 vwCl (wC g ad mc M (adWs sig d z k 0) z) s.heap := hP
  have hD : va_D (va_A (wC g ad mc M sig z) s.heap.size) (wC g ad mc M (adWs sig d z k 0) z) := hD
  exact lp_2 (ssd z k + 1) 0  (Nat.zero_le _) (by omega)  _ _ hP hD hS hE _ (lv_sub hl [0, 1, 2, 3] rfl)
set_option maxHeartbeats 4000000 in
set_option maxRecDepth 100000 in
theorem c_X1_add {l : Launch} {g : gT} {sz : Nat} {ad : Nat → Nat} {mc : Int32} {M : Nat} {sig : Nat → Int32} {z : sT} (hM : wM M (sn z)) (hV : VS z) {k : Nat} {x : Int32} (hk_ : k < sn z) (hsd : ssd z k < 12) : WR (S := Unit) l yX1_add wsX1_add ({ frames := 1, cells := 0, slots := 0, locals := 20 } : Room) [.ref (ad (2 * k + 7)), .int x] g (wC g ad mc M sig z) sz (fun _ : Unit => wC g ad mc M sig (zsd (zwd z k (upd (swd z k) (ssd z k) x)) k (ssd z k + 1))) (fun _ => none) 0 0 := by
  refine WR.of (cc := cX1_add) (maxL := 2) (ret := none) (by decide) rfl (Nat.le_of_ble_eq_true rfl) ?_
  intro p e s m below meth c hx hb hml hr hlocks hown hin0 hts hsz hE0 hP hD ls hl
  subst hsz
  have hown : s.vm.findClass RX1 = some m.cls := hown
  have hA : ∀ q, s.heap.size ≤ q → va_A (wC g ad mc M sig z) s.heap.size q := fun q h => Or.inr h
  have hE := hE0
  have hS : va_S (va_A (wC g ad mc M sig z) s.heap.size) s.heap s.heap [] := va_S.rf
  have hl : lv_has ls 2 [(0, .ref (ad (2 * k + 7))), (1, .int x)] := hl
  refine lv_aload_n hx hb dX1_add_0 rfl (lv_at hl 0 rfl) ?_
  refine q_roV (As := []) (rest := []) ⟨hx, hb, hml, hown, hts⟩ (c_X1_isFull (sd := ssd z k) (by omega)) (cwV 0 hts gX1_add_X1_isFull rfl rfl rfl (by decide +kernel) ⟨Nat.le_of_ble_eq_true rfl, Nat.le_of_ble_eq_true rfl⟩) hE (fun q h => hA q (Nat.le_trans hS.1 h)) ⟨(hP (2 * k + 7) _ (wC_h hM hk_)), (hP (2 * k + 8) _ (wC_w hM hk_))⟩ (va_recv hE.K hP (ci := 2) (q0 := (2 * k + 7)) rfl (wC_h hM hk_)) rfl hl.1 rfl (Nat.le_of_ble_eq_true rfl) dX1_add_1 ⟨Nat.le_of_ble_eq_true rfl, Nat.le_of_ble_eq_true rfl⟩ ?_
  refine q_ifb_ne (tgt := 27) hx hb dX1_add_4 (by decide) (fun c_1 => ?_) (fun c_1 => ?_)
  · exfalso; omega
  · refine lv_aload_n hx hb dX1_add_7 rfl (lv_at hl 0 rfl) ?_
    refine va_get (v := .ref (ad (2 * k + 8))) (C := RX1) (T := TX1) (N := 5) hx hb hts (q_sub wsX10 8 rfl) hown hE.K hP (2 * k + 7) (wC_h hM hk_) rfl 4 (by decide) (hts _ (List.mem_of_getElem? (i := 1) rfl)) (fun _ h9 => h9) rfl dX1_add_8 ?_
    refine lv_aload_n hx hb dX1_add_11 rfl (lv_at hl 0 rfl) ?_
    refine va_get (v := .int (nI (ssd z k))) (C := RX1) (T := TX1) (N := 5) hx hb hts (q_sub wsX10 8 rfl) hown hE.K hP (2 * k + 7) (wC_h hM hk_) rfl 3 (by decide) (hts _ (List.mem_of_getElem? (i := 2) rfl)) (fun _ h9 => h9) rfl dX1_add_12 ?_
    refine lv_iload_n hx hb dX1_add_15 rfl (lv_at hl 1 rfl) ?_
    refine q_iast hx hb hE hP hD hS (q0 := 2 * k + 8) (wC_w hM hk_) (by omega) (by omega) dX1_add_16 (fun H locs hP hD hS => ?_)
    have hP : va_P g.1 vwCl (wC g ad mc M sig (zwd z k (upd (swd z k) (ssd z k) x))) H := q_eqP wC_wd hP
    have hD : va_D (va_A (wC g ad mc M sig z) s.heap.size) (wC g ad mc M sig (zwd z k (upd (swd z k) (ssd z k) x))) := q_eqD wC_wd hD
    have hE := hE0.kept hS.2.1
    refine lv_aload_n hx hb dX1_add_17 rfl (lv_at hl 0 rfl) ?_
    refine lv_dup hx hb dX1_add_18 rfl ?_
    refine va_get (v := .int (nI (ssd (zwd z k (upd (swd z k) (ssd z k) x)) k))) (C := RX1) (T := TX1) (N := 5) hx hb hts (q_sub wsX10 8 rfl) hown hE.K hP (2 * k + 7) (wC_h hM hk_) rfl 3 (by decide) (hts _ (List.mem_of_getElem? (i := 2) rfl)) (fun _ h9 => h9) rfl dX1_add_19 ?_
    refine lv_iconst (v := nI 1) hx hb dX1_add_22 (by decide) ?_
    refine q_iadd (v := nI (ssd z k + 1)) hx hb dX1_add_23 (nI_add _ _) ?_
    refine va_put (D := g.1) (ci := 2) (v := .int (nI (ssd z k + 1))) (ty := .int) (C := RX1) (T := TX1) (N := 5) hx hb hts (q_sub wsX10 8 rfl) tyX1 tyX1_ok nmX1 hown hE.K hP hD hS (2 * k + 7) (wC_h (z := zwd z k (upd (swd z k) (ssd z k) x)) hM hk_) rfl 3 (by decide) (hts _ (List.mem_of_getElem? (i := 2) rfl)) (fun _ h9 => h9) rfl (by decide +kernel) rfl rfl (Nat.le_of_ble_eq_true rfl) dX1_add_24 (fun H locs hP hD hS => ?_)
    have hP : va_P g.1 vwCl (wC g ad mc M sig (zsd (zwd z k (upd (swd z k) (ssd z k) x)) k (ssd z k + 1))) H := q_eqP wC_sd hP
    have hD : va_D (va_A (wC g ad mc M sig z) s.heap.size) (wC g ad mc M sig (zsd (zwd z k (upd (swd z k) (ssd z k) x)) k (ssd z k + 1))) := q_eqD wC_sd hD
    have hE := hE0.kept hS.2.1
    exact q_wvret (()) hx hb hr hlocks hP hD hS dX1_add_27 rfl
set_option maxHeartbeats 4000000 in
set_option maxRecDepth 100000 in
theorem c_fill {l : Launch} {g : gT} {sz : Nat} {a n q_ : Nat} {f : Nat → Int32} {v : Int32} {wc : va_W} (hn : n < 1000000) (hq : wc[q_]? = some (a, .inl (gI g, n, .inl f))) : WR (S := Unit) l yJ7_fill_53178 wsJ7_fill_53178 ({ frames := 0, cells := 0, slots := 0, locals := 0 } : Room) [.ref a, .int v] g (wc) sz (fun _ : Unit => wc.set q_ (a, .inl (gI g, n, .inl (fillF f v n)))) (fun _ => none) 0 0 := by
  refine WR.of (cc := cJ7_fill_53178) (maxL := 4) (ret := none) (by decide) rfl (Nat.le_of_ble_eq_true rfl) ?_
  intro p e s m below meth c hx hb hml hr hlocks hown hin0 hts hsz hE0 hP hD ls hl
  subst hsz
  have hown : s.vm.findClass RJ7 = some m.cls := hown
  have hA : ∀ q, s.heap.size ≤ q → va_A (wc) s.heap.size q := fun q h => Or.inr h
  have hE := hE0
  have hS : va_S (va_A (wc) s.heap.size) s.heap s.heap [] := va_S.rf
  have hl : lv_has ls 4 [(0, .ref a), (1, .int v)] := hl
  refine lv_iconst (v := nI 0) hx hb dJ7_fill_53178_0 (by decide) ?_
  refine lv_istore_n (lv' := [(2, .int (nI 0)), (0, .ref a), (1, .int v)]) hx hb dJ7_fill_53178_1 rfl hl (by decide) rfl (fun ls hl => ?_)
  refine lv_aload_n hx hb dJ7_fill_53178_2 rfl (lv_at hl 1 rfl) ?_
  refine q_alen (v := nI n) hx hb hE (hP q_ _ hq) dJ7_fill_53178_3 rfl ?_
  refine lv_istore_n (lv' := [(3, .int (nI n)), (2, .int (nI 0)), (0, .ref a), (1, .int v)]) hx hb dJ7_fill_53178_4 rfl hl (by decide) rfl (fun ls hl => ?_)
  have lp_5 : ∀ (n_ i : Nat) , i ≤ n → n + 1 ≤ i + n_ → ∀ (H : Heap) (locs : List Loc), va_P g.1 vwCl (wc.set q_ (a, .inl (gI g, n, .inl (fillF f v i)))) H → va_D (va_A (wc) s.heap.size) (wc.set q_ (a, .inl (gI g, n, .inl (fillF f v i)))) → va_S (va_A (wc) s.heap.size) s.heap H locs → Ev g (va_A (wc) s.heap.size) s H → ∀ (ls : Array Slot), lv_has ls 4 [(2, .int (nI i)), (3, .int (nI n)), (0, .ref a), (1, .int v)] → W p l e ({ frames := 0, cells := 0, slots := 0, locals := 0 } : Room) s m ([.ref a, .int v] : List Value).toArray below meth c H locs 0 0 (MQ below (q_Qw (fun _ : Unit => wc.set q_ (a, .inl (gI g, n, .inl (fillF f v n)))) (fun _ => none) g (wc) s.heap.size) ([.ref a, .int v] : List Value).toArray s 0 0 (va_A (wc) s.heap.size)) (F0 m 5 ls []) := by
    intro n_
    induction n_ with
    | zero => intro i  hi_ hn_; exact absurd hn_ (by omega)
    | succ n_ ih_5 =>
      intro i  hi_i hn_i  H locs hP hD hS hE ls hl
      refine lv_iload_n hx hb dJ7_fill_53178_5 rfl (lv_at hl 0 rfl) ?_
      refine lv_iload_n hx hb dJ7_fill_53178_6 rfl (lv_at hl 1 rfl) ?_
      refine q_icmp_ge (tgt := 20) hx hb (by omega) (by omega) dJ7_fill_53178_7 (by decide) (fun c_1 => ?_) (fun c_1 => ?_)
      · obtain ei : i = n := by omega
        rw [ei] at hP hD
        exact q_wvret (()) hx hb hr hlocks hP hD hS dJ7_fill_53178_20 rfl
      · refine lv_aload_n hx hb dJ7_fill_53178_10 rfl (lv_at hl 2 rfl) ?_
        refine lv_iload_n hx hb dJ7_fill_53178_11 rfl (lv_at hl 0 rfl) ?_
        refine lv_iload_n hx hb dJ7_fill_53178_12 rfl (lv_at hl 3 rfl) ?_
        refine q_iast hx hb hE hP hD hS (q0 := q_) (q_ss hq) (by omega) (by omega) dJ7_fill_53178_13 (fun H locs hP hD hS => ?_)
        have hP : va_P g.1 vwCl (wc.set q_ (a, .inl (gI g, n, .inl (fillF f v (i + 1))))) H := by rw [List.set_set, fillF_s] at hP; exact hP
        have hD : va_D (va_A (wc) s.heap.size) (wc.set q_ (a, .inl (gI g, n, .inl (fillF f v (i + 1))))) := by rw [List.set_set, fillF_s] at hD; exact hD
        have hE := hE0.kept hS.2.1
        refine lv_iinc (v := nI (i + 1)) (lv' := [(2, .int (nI (i + 1))), (3, .int (nI n)), (0, .ref a), (1, .int v)]) hx hb dJ7_fill_53178_14 hl (k := 0) rfl (nI_1 _) (by decide) rfl (fun ls hl => ?_)
        refine lv_goto (tgt := 5) hx hb dJ7_fill_53178_17 (by decide) ?_
        exact ih_5 (i + 1)  (by omega) (by omega)  _ _ hP hD hS hE _ (lv_sub hl [0, 1, 2, 3] rfl)
  have hP : va_P g.1 vwCl (wc.set q_ (a, .inl (gI g, n, .inl (fillF f v 0)))) s.heap := by rw [← fillF_0, q_sid hq]; exact hP
  have hD : va_D (va_A wc s.heap.size) (wc.set q_ (a, .inl (gI g, n, .inl (fillF f v 0)))) := by rw [← fillF_0, q_sid hq]; exact hD
  exact lp_5 (n + 1) 0  (Nat.zero_le _) (by omega)  _ _ hP hD hS hE _ (lv_sub hl [1, 0, 2, 3] rfl)
set_option maxHeartbeats 4000000 in
set_option maxRecDepth 100000 in
theorem c_X2_silence {l : Launch} {g : gT} {sz : Nat} {ad : Nat → Nat} {mc : Int32} {M : Nat} {sig : Nat → Int32} {z : sT} (hM : wM M (sn z)) (hV : VS z) : WR (S := Unit) l yX2_silence wsX2_silence ({ frames := 1, cells := 0, slots := 0, locals := 23 } : Room) [.ref (ad 2)] g (wC g ad mc M sig z) sz (fun _ : Unit => wC g ad mc M (fillF sig (nI 0) 207) z) (fun _ => none) 0 0 := by
  refine WR.of (cc := cX2_silence) (maxL := 1) (ret := none) (by decide) rfl (Nat.le_of_ble_eq_true rfl) ?_
  intro p e s m below meth c hx hb hml hr hlocks hown hin0 hts hsz hE0 hP hD ls hl
  subst hsz
  have hown : s.vm.findClass RX2 = some m.cls := hown
  have hA : ∀ q, s.heap.size ≤ q → va_A (wC g ad mc M sig z) s.heap.size q := fun q h => Or.inr h
  have hE := hE0
  have hS : va_S (va_A (wC g ad mc M sig z) s.heap.size) s.heap s.heap [] := va_S.rf
  have hl : lv_has ls 1 [(0, .ref (ad 2))] := hl
  refine lv_aload_n hx hb dX2_silence_0 rfl (lv_at hl 0 rfl) ?_
  refine va_get (v := .ref (ad 4)) (C := RX2) (T := TX2) (N := 3) hx hb hts (q_sub wsX20 6 rfl) hown hE.K hP 2 rfl rfl 1 (by decide) (hts _ (List.mem_of_getElem? (i := 1) rfl)) (fun _ h9 => h9) rfl dX2_silence_1 ?_
  refine lv_iconst (v := nI 0) hx hb dX2_silence_4 (by decide) ?_
  refine q_wrS (wr := []) (As := [.ref (ad 4), .int (nI 0)]) (rest := []) ⟨hx, hb, hml, hown, hts⟩ (c_fill (q_ := 4) (n := 207) (f := sig) (v := nI 0) (by omega) rfl) (va_cwS 2 hts gX2_silence_J7_fill_53178 rfl rfl rfl (by decide +kernel) ⟨Nat.le_of_ble_eq_true rfl, Nat.le_of_ble_eq_true rfl⟩) hE hP hD hS hA rfl hl.1 rfl (Nat.le_of_ble_eq_true rfl) dX2_silence_5 ⟨Nat.le_of_ble_eq_true rfl, Nat.le_of_ble_eq_true rfl⟩ (fun _u H locs hP hD hS hE => ?_)
  have hP : va_P g.1 vwCl (wC g ad mc M (fillF sig (nI 0) 207) z) H := hP
  have hD : va_D (va_A (wC g ad mc M sig z) s.heap.size) (wC g ad mc M (fillF sig (nI 0) 207) z) := hD
  exact q_wvret (()) hx hb hr hlocks hP hD hS dX2_silence_8 rfl
