/-! ===== the run up to the checks ===== -/
set_option maxHeartbeats 40000000 in
set_option maxRecDepth 100000 in
theorem c_L_build {l : Launch} (hl0 : l.stackTraces = false) {g : gT} {sz : Nat} {ad : Nat → Nat} (hg_ : gL g ≤ 260) : WR (S := {u : aT // aO (u.1 0) (ad 0) u}) l yL_build wsL_build ({ frames := 8, cells := 1400, slots := 14000, locals := 160 } : Room) [.ref (ad 0), .ref (gB g)] g (wC g ad (nI 0) 0 (fun _ => 0) z0) sz (fun u : {u : aT // aO (u.1 0) (ad 0) u} => wA g u.1) (fun u => some (.ref (u.1.1 0))) 1400 14000 := by
  refine WR.of (cc := cL_build) (maxL := 5) (ret := (some (.object "FlagChipsLaw$Sim"))) (by decide) rfl (Nat.le_of_ble_eq_true rfl) ?_
  intro p e s m below meth c hx hb hml hr hlocks hown hin0 hts hsz hE0 hP hD ls hl
  subst hsz
  have hown : s.vm.findClass RL = some m.cls := hown
  have hA : ∀ q, s.heap.size ≤ q → (va_A (wC g ad (nI 0) 0 (fun _ => 0) z0) s.heap.size) q := fun q h => Or.inr h
  have hE := hE0
  have hS : va_S (va_A (wC g ad (nI 0) 0 (fun _ => 0) z0) s.heap.size) s.heap s.heap [] := va_S.rf
  have hl : lv_has ls 5 [(0, .ref (ad 0)), (1, .ref (gB g))] := hl
  refine va_new (ci := 5) (fs := [.null, .null, .null, .null]) (C := RX4) (T := TX4) (N := 4) hx hb hts (q_sub wsX40 254 rfl) tyX4 tyX4_ok hown (hts _ (List.mem_of_getElem? (i := 1) rfl)) (hts _ (List.mem_of_getElem? (i := 2) rfl)) (hts _ (List.mem_of_getElem? (i := 3) rfl)) hE.K hP hD hS hA rfl (fun j hj => by rcases (show j = 0 ∨ j = 1 ∨ j = 2 ∨ j = 3 by omega) with rfl | rfl | rfl | rfl <;> rfl) (Nat.le_of_ble_eq_true rfl) (Nat.le_of_ble_eq_true rfl) dL_build_0 (fun m0 H hP hD hS => ?_)
  have hP : va_P g.1 vwCl (wC g ad (nI 0) 0 (fun _ => 0) z0 ++ [(m0, .inr (5, [.null, .null, .null, .null]))]) H := hP
  have hD : va_D (va_A (wC g ad (nI 0) 0 (fun _ => 0) z0) s.heap.size) (wC g ad (nI 0) 0 (fun _ => 0) z0 ++ [(m0, .inr (5, [.null, .null, .null, .null]))]) := hD
  have hE := hE0.kept hS.2.1
  refine lv_dup hx hb dL_build_3 rfl ?_
  refine q_wrIN (wr := wC g ad (nI 0) 0 (fun _ => 0) z0) (As := []) (rest := [.ref m0]) ⟨hx, hb, hml, hown, hts⟩ (c_X4_init (m0 := m0)) ⟨va_cnB 0 hts gL_build_X4_init_n71 rfl rfl rfl hE.1.2.2.2.2.2.2.1 (hts _ (List.mem_of_getElem? (i := 3) rfl)) (by decide +kernel) ⟨Nat.le_of_ble_eq_true rfl, Nat.le_of_ble_eq_true rfl⟩, rfl, (hts _ (List.mem_of_getElem? (i := 5) rfl))⟩ hE hP hD hS hA rfl hl.1 rfl (Nat.le_of_ble_eq_true rfl) dL_build_4 ⟨Nat.le_of_ble_eq_true rfl, Nat.le_of_ble_eq_true rfl⟩ (fun v_ H locs hP hD hS hE => ?_)
  have hP : va_P g.1 vwCl (wC g ad (nI 0) 0 (fun _ => 0) z0 ++ wS g (bB m0 v_.2.2.2 v_.1.1 v_.2.1 v_.2.2.1 v_.1.2) z0) H := hP
  have hD : va_D (va_A (wC g ad (nI 0) 0 (fun _ => 0) z0) s.heap.size) (wC g ad (nI 0) 0 (fun _ => 0) z0 ++ wS g (bB m0 v_.2.2.2 v_.1.1 v_.2.1 v_.2.2.1 v_.1.2) z0) := hD
  refine lv_astore_n (lv' := [(2, .ref m0), (0, .ref (ad 0)), (1, .ref (gB g))]) hx hb dL_build_7 rfl hl (by decide) rfl (fun ls hl => ?_)
  have hP : va_P g.1 vwCl (wA g (((bB m0 v_.2.2.2 v_.1.1 v_.2.1 v_.2.2.1 v_.1.2), ad, nI 0, 0, (fun _ => 0), z0) : aT)) H := q_spP (q_pe List.perm_append_comm) hP
  have hD : va_D (va_A (wC g ad (nI 0) 0 (fun _ => 0) z0) s.heap.size) (wA g (((bB m0 v_.2.2.2 v_.1.1 v_.2.1 v_.2.2.1 v_.1.2), ad, nI 0, 0, (fun _ => 0), z0) : aT)) := q_spD (q_pe List.perm_append_comm) hD
  refine lv_iconst (v := nI 0) hx hb dL_build_8 (by decide) ?_
  refine lv_istore_n (lv' := [(3, .int (nI 0)), (2, .ref m0), (0, .ref (ad 0)), (1, .ref (gB g))]) hx hb dL_build_9 rfl hl (by decide) rfl (fun ls hl => ?_)
  have lp_10 : ∀ (n_ i : Nat) (u : {u : aT // aO m0 (ad 0) u}), i ≤ 34 → 34 + 1 ≤ i + n_ → ∀ (H : Heap) (locs : List Loc), va_P g.1 vwCl (wA g u.1) H → va_D (va_A (wC g ad (nI 0) 0 (fun _ => 0) z0) s.heap.size) (wA g u.1) → va_S (va_A (wC g ad (nI 0) 0 (fun _ => 0) z0) s.heap.size) s.heap H locs → Ev g (va_A (wC g ad (nI 0) 0 (fun _ => 0) z0) s.heap.size) s H → ∀ (ls : Array Slot), lv_has ls 5 [(3, .int (nI i)), (0, .ref (ad 0)), (1, .ref (gB g)), (2, .ref m0)] → W p l e ({ frames := 8, cells := 1400, slots := 14000, locals := 160 } : Room) s m ([.ref (ad 0), .ref (gB g)] : List Value).toArray below meth c H locs (23 + 40 * i) (124 + 400 * i) (MQ below (q_Qw (fun u : {u : aT // aO (u.1 0) (ad 0) u} => wA g u.1) (fun u => some (.ref (u.1.1 0))) g (wC g ad (nI 0) 0 (fun _ => 0) z0) s.heap.size) ([.ref (ad 0), .ref (gB g)] : List Value).toArray s 1400 14000 (va_A (wC g ad (nI 0) 0 (fun _ => 0) z0) s.heap.size)) (F0 m 10 ls []) := by
    intro n_
    induction n_ with
    | zero => intro i u hi_ hn_; exact absurd hn_ (by omega)
    | succ n_ ih_10 =>
      intro i u hi_i hn_i  H locs hP hD hS hE ls hl
      refine lv_iload_n hx hb dL_build_10 rfl (lv_at hl 0 rfl) ?_
      refine lv_bipush (v := nI 34) hx hb dL_build_11 (by decide) ?_
      refine q_icmp_ge (tgt := 95) hx hb (by omega) (by omega) dL_build_13 (by decide) (fun c_1 => ?_) (fun c_1 => ?_)
      · have ei : i = 34 := by omega
        refine W.widen (k := 1400) (n := 14000) (by omega) (by omega) ?_
        refine lv_aload_n hx hb dL_build_95 rfl (lv_at hl 3 rfl) ?_
        exact q_waret (⟨u.1, by rw [u.2.1]; exact u.2⟩) hx hb hr (Or.inl ⟨_, rfl⟩) hlocks hP hD hS dL_build_96 (by show some (Value.ref (u.1.1 0)) = _; rw [u.2.1])
      · refine lv_aload_n hx hb dL_build_16 rfl (lv_at hl 2 rfl) ?_
        refine lv_iload_n hx hb dL_build_17 rfl (lv_at hl 0 rfl) ?_
        refine lv_bipush (v := nI 16) hx hb dL_build_18 (by decide) ?_
        refine q_irem (v := nI (i % 16)) hx hb dL_build_20 (q_ne0 (by omega) (by omega)) (q_rem (by omega) (by omega) (by omega)) ?_
        refine q_roS (As := [.ref (gB g), .int (nI (i % 16))]) (rest := []) ⟨hx, hb, hml, hown, hts⟩ (c_L_cell (k := i % 16) hg_ (by omega)) (va_cwS 2 hts gL_build_L_cell rfl rfl rfl (by decide +kernel) ⟨Nat.le_of_ble_eq_true rfl, Nat.le_of_ble_eq_true rfl⟩) hE (fun q h => hA q (Nat.le_trans hS.1 h)) trivial rfl hl.1 rfl (Nat.le_of_ble_eq_true rfl) dL_build_21 ⟨by show _ ≤ 1400; omega, by show _ ≤ 14000; omega⟩ ?_
        refine lv_iload_n hx hb dL_build_24 rfl (lv_at hl 0 rfl) ?_
        refine lv_bipush (v := nI 16) hx hb dL_build_25 (by decide) ?_
        refine q_idiv (v := nI (i / 16)) hx hb dL_build_27 (q_ne0 (by omega) (by omega)) (pk_div (by omega) (by omega) (by omega)) ?_
        refine lv_iconst (v := nI 4) hx hb dL_build_28 (by decide) ?_
        refine q_imul (v := nI ((i / 16) * 4)) hx hb dL_build_29 (pk_mul _ _) ?_
        refine q_ishr (v := celF (gL g) (gX g) (i % 16) >>> (nI (i / 16 * 4) &&& 31)) hx hb dL_build_30 rfl ?_
        refine lv_bipush (v := nI 59) hx hb dL_build_31 (by decide) ?_
        refine lv_iload_n hx hb dL_build_33 rfl (lv_at hl 0 rfl) ?_
        refine q_imul (v := nI (59 * i)) hx hb dL_build_34 (pk_mul _ _) ?_
        refine q_iadd (v := (celF (gL g) (gX g) (i % 16) >>> (nI (i / 16 * 4) &&& 31)) + (nI (59 * i))) hx hb dL_build_35 rfl ?_
        refine lv_istore (lv' := [(4, .int ((celF (gL g) (gX g) (i % 16) >>> (nI (i / 16 * 4) &&& 31)) + (nI (59 * i)))), (3, .int (nI i)), (0, .ref (ad 0)), (1, .ref (gB g)), (2, .ref m0)]) hx hb dL_build_36 hl (by decide) rfl (fun ls hl => ?_)
        refine lv_iload_n hx hb dL_build_38 rfl (lv_at hl 1 rfl) ?_
        refine lv_bipush (v := nI 18) hx hb dL_build_39 (by decide) ?_
        refine q_icmp_ge (tgt := 77) hx hb (by omega) (by omega) dL_build_41 (by decide) (fun c_2 => ?_) (fun c_2 => ?_)
        · refine lv_aload_n hx hb dL_build_77 rfl (lv_at hl 2 rfl) ?_
          refine lv_aload_n hx hb dL_build_78 rfl (lv_at hl 4 rfl) ?_
          refine lv_iload hx hb dL_build_79 (lv_at hl 0 rfl) ?_
          refine q_wrSW (wr := []) (As := [.ref (ad 0), .ref m0, .int ((celF (gL g) (gX g) (i % 16) >>> (nI (i / 16 * 4) &&& 31)) + (nI (59 * i)))]) (rest := []) ⟨hx, hb, hml, hown, hts⟩ (k_act hl0 (x := (celF (gL g) (gX g) (i % 16) >>> (nI (i / 16 * 4) &&& 31)) + (nI (59 * i))) u.1 u.2) (vx_cwSW 3 hts gL_build_L_act rfl rfl rfl (by decide +kernel) ⟨Nat.le_of_ble_eq_true rfl, Nat.le_of_ble_eq_true rfl⟩) hE hP hD hS hA rfl hl.1 rfl (Nat.le_of_ble_eq_true rfl) dL_build_81 ⟨by show _ ≤ 1400; omega, by show _ ≤ 14000; omega⟩ (fun v_ H locs hP hD hS hE => ?_)
          have hP : va_P g.1 vwCl (wA g v_.1) H := hP
          have hD : va_D (va_A (wC g ad (nI 0) 0 (fun _ => 0) z0) s.heap.size) (wA g v_.1) := hD
          refine q_if_ne (tgt := 89) hx hb (by omega) dL_build_84 (by decide) (fun c_3 => ?_) (fun c_3 => ?_)
          · refine lv_iinc (v := nI (i + 1)) (lv' := [(3, .int (nI (i + 1))), (4, .int ((celF (gL g) (gX g) (i % 16) >>> (nI (i / 16 * 4) &&& 31)) + (nI (59 * i)))), (0, .ref (ad 0)), (1, .ref (gB g)), (2, .ref m0)]) hx hb dL_build_89 hl (k := 1) rfl (nI_1 _) (by decide) rfl (fun ls hl => ?_)
            refine lv_goto (tgt := 10) hx hb dL_build_92 (by decide) ?_
            refine W.widen (k := 23 + 40 * (i + 1)) (n := 124 + 400 * (i + 1)) (by omega) (by omega) ?_
            exact ih_10 (i + 1) v_ (by omega) (by omega)  _ _ hP hD hS hE _ (lv_sub hl [0, 2, 3, 4] rfl)
          · exact absurd c_3 (by decide)
        · refine lv_bipush (v := nI 14) hx hb dL_build_44 (by decide) ?_
          refine lv_iconst (v := nI 4) hx hb dL_build_46 (by decide) ?_
          refine lv_iload hx hb dL_build_47 (lv_at hl 0 rfl) ?_
          refine lv_ldc (v := nI 100000) hx hb hown (hts _ (List.mem_of_getElem? (i := 4) rfl)) dL_build_49 ?_
          refine q_roS (As := [.int ((celF (gL g) (gX g) (i % 16) >>> (nI (i / 16 * 4) &&& 31)) + (nI (59 * i))), .int (nI 100000)]) (rest := [.int (nI 4), .int (nI 14)]) ⟨hx, hb, hml, hown, hts⟩ (c_L_below (x := (celF (gL g) (gX g) (i % 16) >>> (nI (i / 16 * 4) &&& 31)) + (nI (59 * i))) (n := 100000) (by omega) (by omega)) (va_cwS 2 hts gL_build_L_below rfl rfl rfl (by decide +kernel) ⟨Nat.le_of_ble_eq_true rfl, Nat.le_of_ble_eq_true rfl⟩) hE (fun q h => hA q (Nat.le_trans hS.1 h)) trivial rfl hl.1 rfl (Nat.le_of_ble_eq_true rfl) dL_build_51 ⟨by show _ ≤ 1400; omega, by show _ ≤ 14000; omega⟩ ?_
          refine q_imul (v := nI (4 * (bel ((celF (gL g) (gX g) (i % 16) >>> (nI (i / 16 * 4) &&& 31)) + (nI (59 * i))) 100000))) hx hb dL_build_54 (pk_mul _ _) ?_
          refine q_imul (v := nI (14 * (4 * (bel ((celF (gL g) (gX g) (i % 16) >>> (nI (i / 16 * 4) &&& 31)) + (nI (59 * i))) 100000)))) hx hb dL_build_55 (pk_mul _ _) ?_
          refine lv_iload_n hx hb dL_build_56 rfl (lv_at hl 1 rfl) ?_
          refine q_if_ne (tgt := 64) hx hb (by omega) dL_build_57 (by decide) (fun c_4 => ?_) (fun c_4 => ?_)
          · refine lv_iload_n hx hb dL_build_64 rfl (lv_at hl 1 rfl) ?_
            refine lv_iconst (v := nI 5) hx hb dL_build_65 (by decide) ?_
            refine q_icmp_ge (tgt := 73) hx hb (by omega) (by omega) dL_build_66 (by decide) (fun c_5 => ?_) (fun c_5 => ?_)
            · refine lv_iconst (v := nI 3) hx hb dL_build_73 (by decide) ?_
              refine q_iadd (v := nI (14 * (4 * (bel ((celF (gL g) (gX g) (i % 16) >>> (nI (i / 16 * 4) &&& 31)) + (nI (59 * i))) 100000)) + 3)) hx hb dL_build_74 (nI_add _ _) ?_
              refine lv_istore (lv' := [(4, .int (nI (14 * (4 * (bel ((celF (gL g) (gX g) (i % 16) >>> (nI (i / 16 * 4) &&& 31)) + (nI (59 * i))) 100000)) + 3))), (3, .int (nI i)), (0, .ref (ad 0)), (1, .ref (gB g)), (2, .ref m0)]) hx hb dL_build_75 hl (by decide) rfl (fun ls hl => ?_)
              refine lv_aload_n hx hb dL_build_77 rfl (lv_at hl 2 rfl) ?_
              refine lv_aload_n hx hb dL_build_78 rfl (lv_at hl 4 rfl) ?_
              refine lv_iload hx hb dL_build_79 (lv_at hl 0 rfl) ?_
              refine q_wrSW (wr := []) (As := [.ref (ad 0), .ref m0, .int (nI (14 * (4 * (bel ((celF (gL g) (gX g) (i % 16) >>> (nI (i / 16 * 4) &&& 31)) + (nI (59 * i))) 100000)) + 3))]) (rest := []) ⟨hx, hb, hml, hown, hts⟩ (k_act hl0 (x := nI (14 * (4 * (bel ((celF (gL g) (gX g) (i % 16) >>> (nI (i / 16 * 4) &&& 31)) + (nI (59 * i))) 100000)) + 3)) u.1 u.2) (vx_cwSW 3 hts gL_build_L_act rfl rfl rfl (by decide +kernel) ⟨Nat.le_of_ble_eq_true rfl, Nat.le_of_ble_eq_true rfl⟩) hE hP hD hS hA rfl hl.1 rfl (Nat.le_of_ble_eq_true rfl) dL_build_81 ⟨by show _ ≤ 1400; omega, by show _ ≤ 14000; omega⟩ (fun v_ H locs hP hD hS hE => ?_)
              have hP : va_P g.1 vwCl (wA g v_.1) H := hP
              have hD : va_D (va_A (wC g ad (nI 0) 0 (fun _ => 0) z0) s.heap.size) (wA g v_.1) := hD
              refine q_if_ne (tgt := 89) hx hb (by omega) dL_build_84 (by decide) (fun c_6 => ?_) (fun c_6 => ?_)
              · refine lv_iinc (v := nI (i + 1)) (lv' := [(3, .int (nI (i + 1))), (4, .int (nI (14 * (4 * (bel ((celF (gL g) (gX g) (i % 16) >>> (nI (i / 16 * 4) &&& 31)) + (nI (59 * i))) 100000)) + 3))), (0, .ref (ad 0)), (1, .ref (gB g)), (2, .ref m0)]) hx hb dL_build_89 hl (k := 1) rfl (nI_1 _) (by decide) rfl (fun ls hl => ?_)
                refine lv_goto (tgt := 10) hx hb dL_build_92 (by decide) ?_
                refine W.widen (k := 23 + 40 * (i + 1)) (n := 124 + 400 * (i + 1)) (by omega) (by omega) ?_
                exact ih_10 (i + 1) v_ (by omega) (by omega)  _ _ hP hD hS hE _ (lv_sub hl [0, 2, 3, 4] rfl)
              · exact absurd c_6 (by decide)
            · refine lv_iconst (v := nI 1) hx hb dL_build_69 (by decide) ?_
              refine lv_goto (tgt := 74) hx hb dL_build_70 (by decide) ?_
              refine q_iadd (v := nI (14 * (4 * (bel ((celF (gL g) (gX g) (i % 16) >>> (nI (i / 16 * 4) &&& 31)) + (nI (59 * i))) 100000)) + 1)) hx hb dL_build_74 (nI_add _ _) ?_
              refine lv_istore (lv' := [(4, .int (nI (14 * (4 * (bel ((celF (gL g) (gX g) (i % 16) >>> (nI (i / 16 * 4) &&& 31)) + (nI (59 * i))) 100000)) + 1))), (3, .int (nI i)), (0, .ref (ad 0)), (1, .ref (gB g)), (2, .ref m0)]) hx hb dL_build_75 hl (by decide) rfl (fun ls hl => ?_)
              refine lv_aload_n hx hb dL_build_77 rfl (lv_at hl 2 rfl) ?_
              refine lv_aload_n hx hb dL_build_78 rfl (lv_at hl 4 rfl) ?_
              refine lv_iload hx hb dL_build_79 (lv_at hl 0 rfl) ?_
              refine q_wrSW (wr := []) (As := [.ref (ad 0), .ref m0, .int (nI (14 * (4 * (bel ((celF (gL g) (gX g) (i % 16) >>> (nI (i / 16 * 4) &&& 31)) + (nI (59 * i))) 100000)) + 1))]) (rest := []) ⟨hx, hb, hml, hown, hts⟩ (k_act hl0 (x := nI (14 * (4 * (bel ((celF (gL g) (gX g) (i % 16) >>> (nI (i / 16 * 4) &&& 31)) + (nI (59 * i))) 100000)) + 1)) u.1 u.2) (vx_cwSW 3 hts gL_build_L_act rfl rfl rfl (by decide +kernel) ⟨Nat.le_of_ble_eq_true rfl, Nat.le_of_ble_eq_true rfl⟩) hE hP hD hS hA rfl hl.1 rfl (Nat.le_of_ble_eq_true rfl) dL_build_81 ⟨by show _ ≤ 1400; omega, by show _ ≤ 14000; omega⟩ (fun v_ H locs hP hD hS hE => ?_)
              have hP : va_P g.1 vwCl (wA g v_.1) H := hP
              have hD : va_D (va_A (wC g ad (nI 0) 0 (fun _ => 0) z0) s.heap.size) (wA g v_.1) := hD
              refine q_if_ne (tgt := 89) hx hb (by omega) dL_build_84 (by decide) (fun c_7 => ?_) (fun c_7 => ?_)
              · refine lv_iinc (v := nI (i + 1)) (lv' := [(3, .int (nI (i + 1))), (4, .int (nI (14 * (4 * (bel ((celF (gL g) (gX g) (i % 16) >>> (nI (i / 16 * 4) &&& 31)) + (nI (59 * i))) 100000)) + 1))), (0, .ref (ad 0)), (1, .ref (gB g)), (2, .ref m0)]) hx hb dL_build_89 hl (k := 1) rfl (nI_1 _) (by decide) rfl (fun ls hl => ?_)
                refine lv_goto (tgt := 10) hx hb dL_build_92 (by decide) ?_
                refine W.widen (k := 23 + 40 * (i + 1)) (n := 124 + 400 * (i + 1)) (by omega) (by omega) ?_
                exact ih_10 (i + 1) v_ (by omega) (by omega)  _ _ hP hD hS hE _ (lv_sub hl [0, 2, 3, 4] rfl)
              · exact absurd c_7 (by decide)
          · refine lv_iconst (v := nI 0) hx hb dL_build_60 (by decide) ?_
            refine lv_goto (tgt := 74) hx hb dL_build_61 (by decide) ?_
            refine q_iadd (v := nI (14 * (4 * (bel ((celF (gL g) (gX g) (i % 16) >>> (nI (i / 16 * 4) &&& 31)) + (nI (59 * i))) 100000)) + 0)) hx hb dL_build_74 (nI_add _ _) ?_
            refine lv_istore (lv' := [(4, .int (nI (14 * (4 * (bel ((celF (gL g) (gX g) (i % 16) >>> (nI (i / 16 * 4) &&& 31)) + (nI (59 * i))) 100000)) + 0))), (3, .int (nI i)), (0, .ref (ad 0)), (1, .ref (gB g)), (2, .ref m0)]) hx hb dL_build_75 hl (by decide) rfl (fun ls hl => ?_)
            refine lv_aload_n hx hb dL_build_77 rfl (lv_at hl 2 rfl) ?_
            refine lv_aload_n hx hb dL_build_78 rfl (lv_at hl 4 rfl) ?_
            refine lv_iload hx hb dL_build_79 (lv_at hl 0 rfl) ?_
            refine q_wrSW (wr := []) (As := [.ref (ad 0), .ref m0, .int (nI (14 * (4 * (bel ((celF (gL g) (gX g) (i % 16) >>> (nI (i / 16 * 4) &&& 31)) + (nI (59 * i))) 100000)) + 0))]) (rest := []) ⟨hx, hb, hml, hown, hts⟩ (k_act hl0 (x := nI (14 * (4 * (bel ((celF (gL g) (gX g) (i % 16) >>> (nI (i / 16 * 4) &&& 31)) + (nI (59 * i))) 100000)) + 0)) u.1 u.2) (vx_cwSW 3 hts gL_build_L_act rfl rfl rfl (by decide +kernel) ⟨Nat.le_of_ble_eq_true rfl, Nat.le_of_ble_eq_true rfl⟩) hE hP hD hS hA rfl hl.1 rfl (Nat.le_of_ble_eq_true rfl) dL_build_81 ⟨by show _ ≤ 1400; omega, by show _ ≤ 14000; omega⟩ (fun v_ H locs hP hD hS hE => ?_)
            have hP : va_P g.1 vwCl (wA g v_.1) H := hP
            have hD : va_D (va_A (wC g ad (nI 0) 0 (fun _ => 0) z0) s.heap.size) (wA g v_.1) := hD
            refine q_if_ne (tgt := 89) hx hb (by omega) dL_build_84 (by decide) (fun c_8 => ?_) (fun c_8 => ?_)
            · refine lv_iinc (v := nI (i + 1)) (lv' := [(3, .int (nI (i + 1))), (4, .int (nI (14 * (4 * (bel ((celF (gL g) (gX g) (i % 16) >>> (nI (i / 16 * 4) &&& 31)) + (nI (59 * i))) 100000)) + 0))), (0, .ref (ad 0)), (1, .ref (gB g)), (2, .ref m0)]) hx hb dL_build_89 hl (k := 1) rfl (nI_1 _) (by decide) rfl (fun ls hl => ?_)
              refine lv_goto (tgt := 10) hx hb dL_build_92 (by decide) ?_
              refine W.widen (k := 23 + 40 * (i + 1)) (n := 124 + 400 * (i + 1)) (by omega) (by omega) ?_
              exact ih_10 (i + 1) v_ (by omega) (by omega)  _ _ hP hD hS hE _ (lv_sub hl [0, 2, 3, 4] rfl)
            · exact absurd c_8 (by decide)
  
  exact lp_10 (34 + 1) 0 ⟨(((bB m0 v_.2.2.2 v_.1.1 v_.2.1 v_.2.2.1 v_.1.2), ad, nI 0, 0, (fun _ => 0), z0) : aT), rfl, rfl, ⟨_, IV.init⟩⟩ (Nat.zero_le _) (by omega)  _ _ hP hD hS hE _ (lv_sub hl [0, 2, 3, 1] rfl)
