/-! ===== the turns, and the claim ===== -/
set_option maxHeartbeats 40000000 in
set_option maxRecDepth 100000 in
theorem whole_start {p : Program} {e : Env} {s : State} {m : MethodId} {below : List Frame} {meth : Method} {c : Code} (l : Launch) (hflags : l.flags = flags0) {b L : Nat} {xs : Nat → Int32} (hL : L ≤ 260) (C0 : lw_At p s m meth c b L xs) : W p l e room_1 s m #[Value.ref b] below meth c s.heap [] 0 0 (lw_Z below #[Value.ref b] s) (entryFrame m ([Value.ref b] : List Value).toArray 24) := by
  obtain ⟨g, hE0, hgB, hgL⟩ := q_entry C0
  subst hgB
  obtain ⟨hx, hb, hr, hml, hown, hts, hX, hbl, hlocks, hgv⟩ := C0
  have hg_ : gL g ≤ 260 := by rw [hgL]; exact hL
  have hl0 := q_flags hflags
  have hown : s.vm.findClass RL = some m.cls := hown
  have hb : c.code = cL_law := hb
  have hts : ∀ w ∈ wsL_law, w.before #[Value.ref (gB g)] s = true := fun w h => hts w (wsL_law_in w h)
  have hA : ∀ q, s.heap.size ≤ q → q_n s.heap q := fun _ h => h
  have hE := hE0
  have hS : va_S (q_n s.heap) s.heap s.heap [] := va_S.rf
  have hP : va_P g.1 vwCl [] s.heap := q_Pnil
  have hD : va_D (q_n s.heap) [] := q_Dnil
  have hl := lv_entry ([.ref (gB g)]) (n := 24) (Nat.le_of_ble_eq_true rfl)
  rw [lg_entry_eq]
  generalize (lg_sl ([.ref (gB g)]) ++ List.replicate (24 - (lg_sl ([.ref (gB g)])).length) Slot.unset).toArray = ls at hl ⊢
  have hl : lv_has ls 24 [(0, .ref (gB g))] := hl
  refine va_new (ci := 4) (fs := [.null, .null, .null]) (C := RX3) (T := TX3) (N := 3) hx hb hts (q_sub wsX30 480 rfl) tyX3 tyX3_ok hown (hts _ (List.mem_of_getElem? (i := 0) rfl)) (hts _ (List.mem_of_getElem? (i := 1) rfl)) (hts _ (List.mem_of_getElem? (i := 2) rfl)) hE.K hP hD hS hA rfl (fun j hj => by rcases (show j = 0 ∨ j = 1 ∨ j = 2 by omega) with rfl | rfl | rfl <;> rfl) (Nat.le_of_ble_eq_true rfl) (Nat.le_of_ble_eq_true rfl) dL_law_0 (fun x_ H hP hD hS => ?_)
  have hP : va_P g.1 vwCl (([(x_, .inr (4, [.null, .null, .null]))] : va_W)) H := hP
  have hD : va_D (q_n s.heap) (([(x_, .inr (4, [.null, .null, .null]))] : va_W)) := hD
  have hE := hE0.kept hS.2.1
  refine lv_dup hx hb dL_law_3 rfl ?_
  refine q_wrI (wr := []) (As := []) (rest := [.ref x_]) ⟨hx, hb, hml, hown, hts⟩ (c_X3_init (x0 := x_)) (cwI 0 hts gL_law_X3_init rfl rfl rfl (hts _ (List.mem_of_getElem? (i := 2) rfl)) (hts _ (List.mem_of_getElem? (i := 11) rfl)) (hts _ (List.mem_of_getElem? (i := 12) rfl)) rfl (by decide +kernel) ⟨Nat.le_of_ble_eq_true rfl, Nat.le_of_ble_eq_true rfl⟩) hE hP hD hS hA rfl hl.1 rfl (Nat.le_of_ble_eq_true rfl) dL_law_4 ⟨Nat.le_of_ble_eq_true rfl, Nat.le_of_ble_eq_true rfl⟩ (fun u_ H locs hP hD hS hE => ?_)
  have hP : va_P g.1 vwCl (wC g (adI x_ u_.1 u_.2.1 u_.2.2.1 u_.2.2.2.1 u_.2.2.2.2) (nI 0) 0 (fun _ => 0) z0) H := hP
  have hD : va_D (q_n s.heap) (wC g (adI x_ u_.1 u_.2.1 u_.2.2.1 u_.2.2.2.1 u_.2.2.2.2) (nI 0) 0 (fun _ => 0) z0) := hD
  refine lv_astore_n (lv' := [(1, .ref x_), (0, .ref (gB g))]) hx hb dL_law_7 rfl hl (by decide) rfl (fun ls hl => ?_)
  refine lv_aload_n hx hb dL_law_8 rfl (lv_at hl 0 rfl) ?_
  refine lv_aload_n hx hb dL_law_9 rfl (lv_at hl 1 rfl) ?_
  refine q_wrS (wr := []) (As := [.ref x_, .ref (gB g)]) (rest := []) ⟨hx, hb, hml, hown, hts⟩ (c_L_build hl0 (ad := (adI x_ u_.1 u_.2.1 u_.2.2.1 u_.2.2.2.1 u_.2.2.2.2)) hg_) (va_cwS 2 hts gL_law_L_build rfl rfl rfl (by decide +kernel) ⟨Nat.le_of_ble_eq_true rfl, Nat.le_of_ble_eq_true rfl⟩) hE hP hD hS hA rfl hl.1 rfl (Nat.le_of_ble_eq_true rfl) dL_law_10 ⟨Nat.le_of_ble_eq_true rfl, Nat.le_of_ble_eq_true rfl⟩ (fun v_ H locs hP hD hS hE => ?_)
  have hP : va_P g.1 vwCl (wA g v_.1) H := hP
  have hD : va_D (q_n s.heap) (wA g v_.1) := hD
  refine lv_astore_n (lv' := [(2, .ref (v_.1.1 0)), (1, .ref x_), (0, .ref (gB g))]) hx hb dL_law_13 rfl hl (by decide) rfl (fun ls hl => ?_)
  refine lv_aload_n hx hb dL_law_14 rfl (lv_at hl 0 rfl) ?_
  refine lv_ifnonnull (tgt := 20) hx hb dL_law_15 (by decide) ?_
  refine W.widen (k := 2000) (n := 20000) (Nat.le_of_ble_eq_true rfl) (Nat.le_of_ble_eq_true rfl) ?_
  refine lv_iconst (v := nI 0) hx hb dL_law_20 (by decide) ?_
  refine lv_istore_n (lv' := [(3, .int (nI 0)), (2, .ref (v_.1.1 0)), (1, .ref x_), (0, .ref (gB g))]) hx hb dL_law_21 rfl hl (by decide) rfl (fun ls hl => ?_)
  have lp_22 : ∀ (n_ tt : Nat) (u : {u : aT // aO (v_.1.1 0) x_ u}), tt ≤ 10 → 10 + 1 ≤ tt + n_ → ∀ (H : Heap) (locs : List Loc), va_P g.1 vwCl (wA g u.1) H → va_D (q_n s.heap) (wA g u.1) → va_S (q_n s.heap) s.heap H locs → Ev g (q_n s.heap) s H → ∀ (ls : Array Slot), lv_has ls 24 [(3, .int (nI tt)), (2, .ref (v_.1.1 0)), (1, .ref x_), (0, .ref (gB g))] → W p l e room_1 s m #[Value.ref (gB g)] below meth c H locs (2000 + 40 * tt) (20000 + 400 * tt) ((lw_Z below #[Value.ref (gB g)] s)) (F0 m 22 ls []) := by
    intro n_
    induction n_ with
    | zero => intro tt u hi_ hn_; exact absurd hn_ (by omega)
    | succ n_ ih_22 =>
      intro tt u hi_tt hn_tt  H locs hP hD hS hE ls hl
      refine lv_iload_n hx hb dL_law_22 rfl (lv_at hl 0 rfl) ?_
      refine lv_bipush (v := nI 10) hx hb dL_law_23 (by decide) ?_
      refine q_icmp_ge (tgt := 981) hx hb (by omega) (by omega) dL_law_25 (by decide) (fun c_tt => ?_) (fun c_tt => ?_)
      · obtain ⟨⟨b1, ad1, mc1, M1, sig1, z1⟩, e1, e2, hI⟩ := u
        have e1 : b1 0 = v_.1.1 0 := e1
        have e2 : ad1 0 = x_ := e2
        have hI : IW z1 M1 sig1 := hI
        rw [← e1] at hl
        have hl : lv_has ls 24 [(3, .int (nI tt)), (2, .ref (b1 0)), (1, .ref (ad1 0)), (0, .ref (gB g))] := e2 ▸ hl
        refine lv_aload_n hx hb dL_law_981 rfl (lv_at hl 1 rfl) ?_
        refine lv_aload_n hx hb dL_law_982 rfl (lv_at hl 2 rfl) ?_
        refine q_nwV (wr := wA g (b1, ad1, mc1, M1, sig1, z1)) (As := [.ref (ad1 0)]) (rest := []) ⟨hx, hb, hml, hown, hts⟩ (c_X4_isSame hI) (cwV 1 hts gL_law_X4_isSame rfl rfl rfl (by decide +kernel) ⟨Nat.le_of_ble_eq_true rfl, Nat.le_of_ble_eq_true rfl⟩) hE hP hD hS hA ⟨q_fst hP, q_snd hP⟩ (va_recv hE.K hP (ci := 5) (q0 := 0) rfl rfl) rfl hl.1 rfl (Nat.le_of_ble_eq_true rfl) dL_law_983 ⟨by show _ ≤ 1200130; omega, by show _ ≤ 5501080; omega⟩ (fun _w H locs hP hD hS hE => ?_)
        have hP : va_P g.1 vwCl (wA g (b1, ad1, mc1, M1, sig1, z1) ++ []) H := hP
        have hD : va_D (q_n s.heap) (wA g (b1, ad1, mc1, M1, sig1, z1) ++ []) := hD
        refine va_forget (fun q h => hS.2.2 q h) ?_
        refine W.widen (k := 1200130) (n := 5501080) (by omega) (by omega) ?_
        exact lw_ret (Drawn.sameBut.refl s.drawn lw_cs) hx hb hr hlocks dL_law_986
      · refine lv_aload_n hx hb dL_law_28 rfl (lv_at hl 3 rfl) ?_
        refine lv_iload_n hx hb dL_law_29 rfl (lv_at hl 0 rfl) ?_
        refine q_roS (As := [.ref (gB g), .int (nI tt)]) (rest := []) ⟨hx, hb, hml, hown, hts⟩ (c_L_cell (k := tt) hg_ (by omega)) (va_cwS 2 hts gL_law_L_cell rfl rfl rfl (by decide +kernel) ⟨Nat.le_of_ble_eq_true rfl, Nat.le_of_ble_eq_true rfl⟩) hE (fun q h => hA q (Nat.le_trans hS.1 h)) trivial rfl hl.1 rfl (Nat.le_of_ble_eq_true rfl) dL_law_30 ⟨by show _ ≤ 1200130; omega, by show _ ≤ 5501080; omega⟩ ?_
        refine lv_bipush (v := nI 53) hx hb dL_law_33 (by decide) ?_
        refine lv_iload_n hx hb dL_law_35 rfl (lv_at hl 0 rfl) ?_
        refine q_imul (v := nI (53 * tt)) hx hb dL_law_36 (pk_mul _ _) ?_
        refine q_iadd (v := (celF (gL g) (gX g) tt) + (nI (53 * tt))) hx hb dL_law_37 rfl ?_
        refine lv_istore (lv' := [(4, .int ((celF (gL g) (gX g) tt) + (nI (53 * tt)))), (3, .int (nI tt)), (2, .ref (v_.1.1 0)), (1, .ref x_), (0, .ref (gB g))]) hx hb dL_law_38 hl (by decide) rfl (fun ls hl => ?_)
        refine lv_aload_n hx hb dL_law_40 rfl (lv_at hl 3 rfl) ?_
        refine lv_aload_n hx hb dL_law_41 rfl (lv_at hl 2 rfl) ?_
        refine lv_iload hx hb dL_law_42 (lv_at hl 0 rfl) ?_
        refine q_wrSW (wr := []) (As := [.ref x_, .ref (v_.1.1 0), .int ((celF (gL g) (gX g) tt) + (nI (53 * tt)))]) (rest := []) ⟨hx, hb, hml, hown, hts⟩ (k_act hl0 (x := (celF (gL g) (gX g) tt) + (nI (53 * tt))) u.1 u.2) (vx_cwSW 3 hts gL_law_L_act rfl rfl rfl (by decide +kernel) ⟨Nat.le_of_ble_eq_true rfl, Nat.le_of_ble_eq_true rfl⟩) hE hP hD hS hA rfl hl.1 rfl (Nat.le_of_ble_eq_true rfl) dL_law_44 ⟨by show _ ≤ 1200130; omega, by show _ ≤ 5501080; omega⟩ (fun w_ H locs hP hD hS hE => ?_)
        have hP : va_P g.1 vwCl (wA g w_.1) H := hP
        have hD : va_D (q_n s.heap) (wA g w_.1) := hD
        refine q_if_ne (tgt := 52) hx hb (by omega) dL_law_47 (by decide) (fun c_1 => ?_) (fun c_1 => ?_)
        · obtain ⟨⟨b1, ad1, mc1, M1, sig1, z1⟩, e1, e2, hI⟩ := w_
          have e1 : b1 0 = v_.1.1 0 := e1
          have e2 : ad1 0 = x_ := e2
          have hI : IW z1 M1 sig1 := hI
          have hl : lv_has ls 24 [(4, .int ((celF (gL g) (gX g) tt) + (nI (53 * tt)))), (3, .int (nI tt)), (2, .ref (v_.1.1 0)), (1, .ref x_), (0, .ref (gB g))] := lv_sub hl [0, 1, 2, 3, 4] rfl
          rw [← e1] at hl
          have hl : lv_has ls 24 [(4, .int ((celF (gL g) (gX g) tt) + (nI (53 * tt)))), (3, .int (nI tt)), (2, .ref (b1 0)), (1, .ref (ad1 0)), (0, .ref (gB g))] := e2 ▸ hl
          have hP : va_P g.1 vwCl (wS g b1 z1 ++ wC g ad1 mc1 M1 sig1 z1) H := hP
          have hD : va_D (q_n s.heap) (wS g b1 z1 ++ wC g ad1 mc1 M1 sig1 z1) := hD
          refine lw_checks (b := b1) (ad := ad1) hx hb hml hown hts hE0 hI (by omega) (by omega) hP hD hS hE hl (fun H locs ls hP hD hS hE hl => ?_)
          have hl : lv_has ls 24 [(3, .int (nI tt)), (2, .ref (b1 0)), (1, .ref (ad1 0)), (0, .ref (gB g))] := hl
          rw [e1, e2] at hl
          refine lv_iinc (v := nI (tt + 1)) (lv' := [(3, .int (nI (tt + 1))), (2, .ref (v_.1.1 0)), (1, .ref x_), (0, .ref (gB g))]) hx hb dL_law_975 hl (k := 0) rfl (nI_1 _) (by decide) rfl (fun ls hl => ?_)
          refine lv_goto (tgt := 22) hx hb dL_law_978 (by decide) ?_
          refine W.widen (k := 2000 + 40 * (tt + 1)) (n := 20000 + 400 * (tt + 1)) (by omega) (by omega) ?_
          exact ih_22 (tt + 1) ⟨(b1, ad1, mc1, M1, sig1, z1), e1, e2, hI⟩ (by omega) (by omega)  _ _ hP hD hS hE _ (lv_sub hl [0, 1, 2, 3] rfl)
        · exact absurd c_1 (by decide)
  
  exact lp_22 (10 + 1) 0 ⟨v_.1, v_.2⟩ (Nat.zero_le _) (by omega)  _ _ hP hD hS hE _ (lv_sub hl [0, 1, 2, 3] rfl)
