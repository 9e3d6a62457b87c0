/-! ===== the checks of one turn ===== -/
set_option maxHeartbeats 40000000 in
set_option maxRecDepth 100000 in
theorem lw_checks {p : Program} {l : Launch} {e : Env} {s : State} {m : MethodId} {below : List Frame} {meth : Method} {c : Code} {Q : State → Prop} {g : gT} (hx : p.tables.exec = Jvm.exec) (hb : c.code = cL_law) (hml : c.maxLocals = 24) (hown : s.vm.findClass RL = some m.cls) (hts : ∀ w ∈ wsL_law, w.before #[Value.ref (gB g)] s = true) (hE0 : Ev g (q_n s.heap) s s.heap) {b ad : Nat → Nat} {mc : Int32} {M : Nat} {sig : Nat → Int32} {z : sT} (hI : IW z M sig) {H : Heap} {locs : List Loc} {cells slots : Nat} {x : Int32} {tt : Nat} (hc : cells ≤ 1000000) (hs : slots ≤ 5000000) (hP : va_P g.1 vwCl (wS g b z ++ wC g ad mc M sig z) H) (hD : va_D (q_n s.heap) (wS g b z ++ wC g ad mc M sig z)) (hS : va_S (q_n s.heap) s.heap H locs) (hE : Ev g (q_n s.heap) s H) {ls : Array Slot} (hl : lv_has ls 24 [(4, .int x), (3, .int (nI tt)), (2, .ref (b 0)), (1, .ref (ad 0)), (0, .ref (gB g))]) (kk : ∀ (H : Heap) (locs : List Loc) (ls : Array Slot), va_P g.1 vwCl (wS g b z ++ wC g ad mc M sig z) H → va_D (q_n s.heap) (wS g b z ++ wC g ad mc M sig z) → va_S (q_n s.heap) s.heap H locs → Ev g (q_n s.heap) s H → lv_has ls 24 [(3, .int (nI tt)), (2, .ref (b 0)), (1, .ref (ad 0)), (0, .ref (gB g))] → W p l e room_1 s m #[Value.ref (gB g)] below meth c H locs cells slots Q (F0 m 975 ls [])) : W p l e room_1 s m #[Value.ref (gB g)] below meth c H locs cells slots (Q) (F0 m 52 ls []) := by
  have hA : ∀ q, s.heap.size ≤ q → q_n s.heap q := fun _ h => h
  have hV := hI.V
  have hL := hV.L
  have hn := hV.n
  have hen := endA_le hV (Nat.le_refl (sn z))
  have hww := allW_lt (K := kM z) hV
  have hst := str_le hV (Nat.le_refl (sn z))
  have hsd := ssd_le hV (Nat.le_refl (sn z))
  refine lv_aload_n hx hb dL_law_52 rfl (lv_at hl 3 rfl) ?_
  refine lv_iconst (v := nI 0) hx hb dL_law_53 (by decide) ?_
  refine q_roV (As := [.int (nI 0)]) (rest := []) ⟨hx, hb, hml, hown, hts⟩ (k_count0 hI) (cwV 1 hts gL_law_X3_count rfl rfl rfl (by decide +kernel) ⟨Nat.le_of_ble_eq_true rfl, Nat.le_of_ble_eq_true rfl⟩) hE (fun q h => hA q (Nat.le_trans hS.1 h)) (q_snd hP) (va_recv hE.K (q_snd hP) (ci := 4) (q0 := 0) rfl rfl) rfl hl.1 rfl (Nat.le_of_ble_eq_true rfl) dL_law_54 ⟨by show _ ≤ 1200130; omega, by show _ ≤ 5501080; omega⟩ ?_
  refine lv_istore (lv' := [(5, .int (nI (sL z))), (4, .int x), (3, .int (nI tt)), (2, .ref (b 0)), (1, .ref (ad 0)), (0, .ref (gB g))]) hx hb dL_law_57 hl (by decide) rfl (fun ls hl => ?_)
  refine lv_aload_n hx hb dL_law_59 rfl (lv_at hl 4 rfl) ?_
  refine lv_iconst (v := nI 1) hx hb dL_law_60 (by decide) ?_
  refine q_roV (As := [.int (nI 1)]) (rest := []) ⟨hx, hb, hml, hown, hts⟩ (k_count1 hI) (cwV 1 hts gL_law_X3_count rfl rfl rfl (by decide +kernel) ⟨Nat.le_of_ble_eq_true rfl, Nat.le_of_ble_eq_true rfl⟩) hE (fun q h => hA q (Nat.le_trans hS.1 h)) (q_snd hP) (va_recv hE.K (q_snd hP) (ci := 4) (q0 := 0) rfl rfl) rfl hl.1 rfl (Nat.le_of_ble_eq_true rfl) dL_law_61 ⟨by show _ ≤ 1200130; omega, by show _ ≤ 5501080; omega⟩ ?_
  refine lv_istore (lv' := [(6, .int (nI (sn z))), (5, .int (nI (sL z))), (4, .int x), (3, .int (nI tt)), (2, .ref (b 0)), (1, .ref (ad 0)), (0, .ref (gB g))]) hx hb dL_law_64 hl (by decide) rfl (fun ls hl => ?_)
  refine lv_iconst (v := nI 0) hx hb dL_law_66 (by decide) ?_
  refine lv_istore (lv' := [(7, .int (nI 0)), (6, .int (nI (sn z))), (5, .int (nI (sL z))), (4, .int x), (3, .int (nI tt)), (2, .ref (b 0)), (1, .ref (ad 0)), (0, .ref (gB g))]) hx hb dL_law_67 hl (by decide) rfl (fun ls hl => ?_)
  refine lv_iconst (v := nI 0) hx hb dL_law_69 (by decide) ?_
  refine lv_istore (lv' := [(8, .int (nI 0)), (7, .int (nI 0)), (6, .int (nI (sn z))), (5, .int (nI (sL z))), (4, .int x), (3, .int (nI tt)), (2, .ref (b 0)), (1, .ref (ad 0)), (0, .ref (gB g))]) hx hb dL_law_70 hl (by decide) rfl (fun ls hl => ?_)
  refine lv_iconst (v := nI 0) hx hb dL_law_72 (by decide) ?_
  refine lv_istore (lv' := [(9, .int (nI 0)), (8, .int (nI 0)), (7, .int (nI 0)), (6, .int (nI (sn z))), (5, .int (nI (sL z))), (4, .int x), (3, .int (nI tt)), (2, .ref (b 0)), (1, .ref (ad 0)), (0, .ref (gB g))]) hx hb dL_law_73 hl (by decide) rfl (fun ls hl => ?_)
  refine lv_iconst (v := nI 0) hx hb dL_law_75 (by decide) ?_
  refine lv_istore (lv' := [(10, .int (nI 0)), (9, .int (nI 0)), (8, .int (nI 0)), (7, .int (nI 0)), (6, .int (nI (sn z))), (5, .int (nI (sL z))), (4, .int x), (3, .int (nI tt)), (2, .ref (b 0)), (1, .ref (ad 0)), (0, .ref (gB g))]) hx hb dL_law_76 hl (by decide) rfl (fun ls hl => ?_)
  refine lv_iconst (v := nI 0) hx hb dL_law_78 (by decide) ?_
  refine lv_istore (lv' := [(11, .int (nI 0)), (10, .int (nI 0)), (9, .int (nI 0)), (8, .int (nI 0)), (7, .int (nI 0)), (6, .int (nI (sn z))), (5, .int (nI (sL z))), (4, .int x), (3, .int (nI tt)), (2, .ref (b 0)), (1, .ref (ad 0)), (0, .ref (gB g))]) hx hb dL_law_79 hl (by decide) rfl (fun ls hl => ?_)
  have lp_81 : ∀ (n_ k : Nat) , k ≤ sn z → sn z + 1 ≤ k + n_ → ∀ (H : Heap) (locs : List Loc), va_P g.1 vwCl (wS g b z ++ wC g ad mc M sig z) H → va_D (q_n s.heap) (wS g b z ++ wC g ad mc M sig z) → va_S (q_n s.heap) s.heap H locs → Ev g (q_n s.heap) s H → ∀ (ls : Array Slot), lv_has ls 24 [(11, .int (nI k)), (10, .int (nI (endA z k))), (9, .int (nI (allW z (kM z) k))), (8, .int (nI (sumN (ssd z) k))), (7, .int (nI (sumN (ssr z) k))), (6, .int (nI (sn z))), (5, .int (nI (sL z))), (4, .int x), (3, .int (nI tt)), (2, .ref (b 0)), (1, .ref (ad 0)), (0, .ref (gB g))] → W p l e room_1 s m #[Value.ref (gB g)] below meth c H locs cells slots (Q) (F0 m 81 ls []) := by
    intro n_
    induction n_ with
    | zero => intro k  hi_ hn_; exact absurd hn_ (by omega)
    | succ n_ ih_81 =>
      intro k  hi_k hn_k  H locs hP hD hS hE ls hl
      refine lv_iload hx hb dL_law_81 (lv_at hl 0 rfl) ?_
      refine lv_iload hx hb dL_law_83 (lv_at hl 5 rfl) ?_
      refine q_icmp_ge (tgt := 403) hx hb (by omega) (by omega) dL_law_85 (by decide) (fun c_k => ?_) (fun c_k => ?_)
      · have ek : k = sn z := by omega
        rw [ek] at hl
        refine lv_iload hx hb dL_law_403 (lv_at hl 3 rfl) ?_
        refine lv_aload_n hx hb dL_law_405 rfl (lv_at hl 10 rfl) ?_
        refine lv_iconst (v := nI 2) hx hb dL_law_406 (by decide) ?_
        refine q_roV (As := [.int (nI 2)]) (rest := [.int (nI (sumN (ssd z) (sn z)))]) ⟨hx, hb, hml, hown, hts⟩ (k_count2 hI) (cwV 1 hts gL_law_X3_count rfl rfl rfl (by decide +kernel) ⟨Nat.le_of_ble_eq_true rfl, Nat.le_of_ble_eq_true rfl⟩) hE (fun q h => hA q (Nat.le_trans hS.1 h)) (q_snd hP) (va_recv hE.K (q_snd hP) (ci := 4) (q0 := 0) rfl rfl) rfl hl.1 rfl (Nat.le_of_ble_eq_true rfl) dL_law_407 ⟨by show _ ≤ 1200130; omega, by show _ ≤ 5501080; omega⟩ ?_
        refine q_icmp_ne (tgt := 458) hx hb (by omega) (by omega) dL_law_410 (by decide) (fun c_1 => ?_) (fun c_1 => ?_)
        · exact absurd rfl c_1
        · refine lv_iload hx hb dL_law_413 (lv_at hl 2 rfl) ?_
          refine lv_aload_n hx hb dL_law_415 rfl (lv_at hl 10 rfl) ?_
          refine lv_iconst (v := nI 3) hx hb dL_law_416 (by decide) ?_
          refine q_roV (As := [.int (nI 3)]) (rest := [.int (nI (allW z (kM z) (sn z)))]) ⟨hx, hb, hml, hown, hts⟩ (k_count3 hI) (cwV 1 hts gL_law_X3_count rfl rfl rfl (by decide +kernel) ⟨Nat.le_of_ble_eq_true rfl, Nat.le_of_ble_eq_true rfl⟩) hE (fun q h => hA q (Nat.le_trans hS.1 h)) (q_snd hP) (va_recv hE.K (q_snd hP) (ci := 4) (q0 := 0) rfl rfl) rfl hl.1 rfl (Nat.le_of_ble_eq_true rfl) dL_law_417 ⟨by show _ ≤ 1200130; omega, by show _ ≤ 5501080; omega⟩ ?_
          refine q_icmp_ne (tgt := 458) hx hb (by omega) (by omega) dL_law_420 (by decide) (fun c_2 => ?_) (fun c_2 => ?_)
          · exact absurd rfl c_2
          · refine lv_iload hx hb dL_law_423 (lv_at hl 1 rfl) ?_
            refine lv_aload_n hx hb dL_law_425 rfl (lv_at hl 10 rfl) ?_
            refine lv_iconst (v := nI 4) hx hb dL_law_426 (by decide) ?_
            refine q_roV (As := [.int (nI 4)]) (rest := [.int (nI (endA z (sn z)))]) ⟨hx, hb, hml, hown, hts⟩ (k_count4 hI) (cwV 1 hts gL_law_X3_count rfl rfl rfl (by decide +kernel) ⟨Nat.le_of_ble_eq_true rfl, Nat.le_of_ble_eq_true rfl⟩) hE (fun q h => hA q (Nat.le_trans hS.1 h)) (q_snd hP) (va_recv hE.K (q_snd hP) (ci := 4) (q0 := 0) rfl rfl) rfl hl.1 rfl (Nat.le_of_ble_eq_true rfl) dL_law_427 ⟨by show _ ≤ 1200130; omega, by show _ ≤ 5501080; omega⟩ ?_
            refine q_icmp_ne (tgt := 458) hx hb (by omega) (by omega) dL_law_430 (by decide) (fun c_3 => ?_) (fun c_3 => ?_)
            · exact absurd rfl c_3
            · refine lv_aload_n hx hb dL_law_433 rfl (lv_at hl 10 rfl) ?_
              refine lv_bipush (v := nI 6) hx hb dL_law_434 (by decide) ?_
              refine q_roV (As := [.int (nI 6)]) (rest := []) ⟨hx, hb, hml, hown, hts⟩ (k_count6 hI) (cwV 1 hts gL_law_X3_count rfl rfl rfl (by decide +kernel) ⟨Nat.le_of_ble_eq_true rfl, Nat.le_of_ble_eq_true rfl⟩) hE (fun q h => hA q (Nat.le_trans hS.1 h)) (q_snd hP) (va_recv hE.K (q_snd hP) (ci := 4) (q0 := 0) rfl rfl) rfl hl.1 rfl (Nat.le_of_ble_eq_true rfl) dL_law_436 ⟨by show _ ≤ 1200130; omega, by show _ ≤ 5501080; omega⟩ ?_
              refine lv_iload hx hb dL_law_439 (lv_at hl 6 rfl) ?_
              refine q_icmp_gt (tgt := 458) hx hb (by have := free_le (z := z); omega) (by omega) dL_law_441 (by decide) (fun c_4 => ?_) (fun c_4 => ?_)
              · exact absurd (free_le (z := z)) (by omega)
              · refine lv_aload_n hx hb dL_law_444 rfl (lv_at hl 10 rfl) ?_
                refine lv_bipush (v := nI 6) hx hb dL_law_445 (by decide) ?_
                refine q_roV (As := [.int (nI 6)]) (rest := []) ⟨hx, hb, hml, hown, hts⟩ (k_count6 hI) (cwV 1 hts gL_law_X3_count rfl rfl rfl (by decide +kernel) ⟨Nat.le_of_ble_eq_true rfl, Nat.le_of_ble_eq_true rfl⟩) hE (fun q h => hA q (Nat.le_trans hS.1 h)) (q_snd hP) (va_recv hE.K (q_snd hP) (ci := 4) (q0 := 0) rfl rfl) rfl hl.1 rfl (Nat.le_of_ble_eq_true rfl) dL_law_447 ⟨by show _ ≤ 1200130; omega, by show _ ≤ 5501080; omega⟩ ?_
                refine lv_iload hx hb dL_law_450 (lv_at hl 6 rfl) ?_
                refine lv_iload hx hb dL_law_452 (lv_at hl 5 rfl) ?_
                refine q_isub (v := nI (sL z) - nI (sn z)) hx hb dL_law_454 rfl ?_
                refine lv_icmp_ge (tgt := 460) hx hb dL_law_455 (by decide) (fun c_5 => ?_) (fun c_5 => ?_)
                · refine lv_iconst (v := nI 0) hx hb dL_law_460 (by decide) ?_
                  refine lv_istore (lv' := [(11, .int (nI 0)), (10, .int (nI (endA z (sn z)))), (9, .int (nI (allW z (kM z) (sn z)))), (8, .int (nI (sumN (ssd z) (sn z)))), (7, .int (nI (sumN (ssr z) (sn z)))), (6, .int (nI (sn z))), (5, .int (nI (sL z))), (4, .int x), (3, .int (nI tt)), (2, .ref (b 0)), (1, .ref (ad 0)), (0, .ref (gB g))]) hx hb dL_law_461 hl (by decide) rfl (fun ls hl => ?_)
                  refine lv_iconst (v := nI 0) hx hb dL_law_463 (by decide) ?_
                  refine lv_istore (lv' := [(12, .int (nI 0)), (11, .int (nI 0)), (10, .int (nI (endA z (sn z)))), (9, .int (nI (allW z (kM z) (sn z)))), (8, .int (nI (sumN (ssd z) (sn z)))), (7, .int (nI (sumN (ssr z) (sn z)))), (6, .int (nI (sn z))), (5, .int (nI (sL z))), (4, .int x), (3, .int (nI tt)), (2, .ref (b 0)), (1, .ref (ad 0)), (0, .ref (gB g))]) hx hb dL_law_464 hl (by decide) rfl (fun ls hl => ?_)
                  have lp_466 : ∀ (n_ t : Nat) , t ≤ (endA z (sn z) + 20) → (endA z (sn z) + 20) + 1 ≤ t + n_ → ∀ (H : Heap) (locs : List Loc), va_P g.1 vwCl (wS g b z ++ wC g ad mc M sig z) H → va_D (q_n s.heap) (wS g b z ++ wC g ad mc M sig z) → va_S (q_n s.heap) s.heap H locs → Ev g (q_n s.heap) s H → ∀ (ls : Array Slot), lv_has ls 24 [(12, .int (nI t)), (11, .int (hiF (kM z) (min t (endA z (sn z))))), (10, .int (nI (endA z (sn z)))), (9, .int (nI (allW z (kM z) (sn z)))), (7, .int (nI (sumN (ssr z) (sn z)))), (6, .int (nI (sn z))), (5, .int (nI (sL z))), (4, .int x), (3, .int (nI tt)), (2, .ref (b 0)), (1, .ref (ad 0)), (0, .ref (gB g))] → W p l e room_1 s m #[Value.ref (gB g)] below meth c H locs cells slots (Q) (F0 m 466 ls []) := by
                    intro n_
                    induction n_ with
                    | zero => intro t  hi_ hn_; exact absurd hn_ (by omega)
                    | succ n_ ih_466 =>
                      intro t  hi_t hn_t  H locs hP hD hS hE ls hl
                      refine lv_iload hx hb dL_law_466 (lv_at hl 0 rfl) ?_
                      refine lv_iload hx hb dL_law_468 (lv_at hl 2 rfl) ?_
                      refine lv_bipush (v := nI 20) hx hb dL_law_470 (by decide) ?_
                      refine q_iadd (v := nI (endA z (sn z) + 20)) hx hb dL_law_472 (nI_add _ _) ?_
                      refine q_icmp_ge (tgt := 554) hx hb (by omega) (by omega) dL_law_473 (by decide) (fun c_t => ?_) (fun c_t => ?_)
                      · have et : t = endA z (sn z) + 20 := by omega
                        rw [et, Nat.min_eq_right (by omega)] at hl
                        refine lv_iload hx hb dL_law_554 (lv_at hl 1 rfl) ?_
                        refine lv_aload_n hx hb dL_law_556 rfl (lv_at hl 10 rfl) ?_
                        refine lv_iconst (v := nI 5) hx hb dL_law_557 (by decide) ?_
                        refine q_roV (As := [.int (nI 5)]) (rest := [.int (hiF (kM z) (endA z (sn z)))]) ⟨hx, hb, hml, hown, hts⟩ (k_count5 hI) (cwV 1 hts gL_law_X3_count rfl rfl rfl (by decide +kernel) ⟨Nat.le_of_ble_eq_true rfl, Nat.le_of_ble_eq_true rfl⟩) hE (fun q h => hA q (Nat.le_trans hS.1 h)) (q_snd hP) (va_recv hE.K (q_snd hP) (ci := 4) (q0 := 0) rfl rfl) rfl hl.1 rfl (Nat.le_of_ble_eq_true rfl) dL_law_558 ⟨by show _ ≤ 1200130; omega, by show _ ≤ 5501080; omega⟩ ?_
                        refine lv_icmp_eq (tgt := 566) hx hb dL_law_561 (by decide) (fun c_6 => ?_) (fun c_6 => ?_)
                        · refine lv_iload hx hb dL_law_566 (lv_at hl 7 rfl) ?_
                          refine lv_iconst (v := nI 3) hx hb dL_law_568 (by decide) ?_
                          refine q_ishr (v := sh x 3) hx hb dL_law_569 rfl ?_
                          refine lv_sipush (v := nI 900) hx hb dL_law_570 (by decide) ?_
                          refine q_roS (As := [.int (sh x 3), .int (nI 900)]) (rest := []) ⟨hx, hb, hml, hown, hts⟩ (c_L_below (x := sh x 3) (n := 900) (by omega) (by omega)) (va_cwS 2 hts gL_law_L_below rfl rfl rfl (by decide +kernel) ⟨Nat.le_of_ble_eq_true rfl, Nat.le_of_ble_eq_true rfl⟩) hE (fun q h => hA q (Nat.le_trans hS.1 h)) trivial rfl hl.1 rfl (Nat.le_of_ble_eq_true rfl) dL_law_573 ⟨by show _ ≤ 1200130; omega, by show _ ≤ 5501080; omega⟩ ?_
                          obtain ⟨fm, hfm, efm⟩ : ∃ q, q < 900 ∧ bel (sh x 3) 900 = q := ⟨_, bel_lt (by omega), rfl⟩
                          rw [efm]
                          refine lv_istore (lv' := [(12, .int (nI fm)), (11, .int (hiF (kM z) (endA z (sn z)))), (10, .int (nI (endA z (sn z)))), (9, .int (nI (allW z (kM z) (sn z)))), (7, .int (nI (sumN (ssr z) (sn z)))), (6, .int (nI (sn z))), (5, .int (nI (sL z))), (4, .int x), (3, .int (nI tt)), (2, .ref (b 0)), (1, .ref (ad 0)), (0, .ref (gB g))]) hx hb dL_law_576 hl (by decide) rfl (fun ls hl => ?_)
                          refine lv_iload hx hb dL_law_578 (lv_at hl 7 rfl) ?_
                          refine lv_iconst (v := nI 5) hx hb dL_law_580 (by decide) ?_
                          refine q_ishr (v := sh x 5) hx hb dL_law_581 rfl ?_
                          refine lv_iconst (v := nI 3) hx hb dL_law_582 (by decide) ?_
                          refine q_roS (As := [.int (sh x 5), .int (nI 3)]) (rest := []) ⟨hx, hb, hml, hown, hts⟩ (c_L_below (x := sh x 5) (n := 3) (by omega) (by omega)) (va_cwS 2 hts gL_law_L_below rfl rfl rfl (by decide +kernel) ⟨Nat.le_of_ble_eq_true rfl, Nat.le_of_ble_eq_true rfl⟩) hE (fun q h => hA q (Nat.le_trans hS.1 h)) trivial rfl hl.1 rfl (Nat.le_of_ble_eq_true rfl) dL_law_583 ⟨by show _ ≤ 1200130; omega, by show _ ≤ 5501080; omega⟩ ?_
                          refine q_if_le (tgt := 602) hx hb (by have := bel_lt (x := sh x 5) (n := 3) (by omega); omega) dL_law_586 (by decide) (fun c_7 => ?_) (fun c_7 => ?_)
                          · refine lv_lconst (v := 0) hx hb dL_law_602 (by decide) ?_
                            refine lv_lstore (lv' := [(13, .long 0), (12, .int (nI fm)), (11, .int (hiF (kM z) (endA z (sn z)))), (10, .int (nI (endA z (sn z)))), (9, .int (nI (allW z (kM z) (sn z)))), (7, .int (nI (sumN (ssr z) (sn z)))), (6, .int (nI (sn z))), (5, .int (nI (sL z))), (4, .int x), (3, .int (nI tt)), (2, .ref (b 0)), (1, .ref (ad 0)), (0, .ref (gB g))]) hx hb dL_law_603 hl (by decide) rfl (fun ls hl => ?_)
                            refine lv_iconst (v := nI 0) hx hb dL_law_605 (by decide) ?_
                            refine lv_istore (lv' := [(15, .int (nI 0)), (13, .long 0), (12, .int (nI fm)), (11, .int (hiF (kM z) (endA z (sn z)))), (10, .int (nI (endA z (sn z)))), (9, .int (nI (allW z (kM z) (sn z)))), (7, .int (nI (sumN (ssr z) (sn z)))), (6, .int (nI (sn z))), (5, .int (nI (sL z))), (4, .int x), (3, .int (nI tt)), (2, .ref (b 0)), (1, .ref (ad 0)), (0, .ref (gB g))]) hx hb dL_law_606 hl (by decide) rfl (fun ls hl => ?_)
                            have lp_608 : ∀ (n_ q : Nat) , q ≤ sL z → sL z + 1 ≤ q + n_ → ∀ (H : Heap) (locs : List Loc), va_P g.1 vwCl (wS g b z ++ wC g ad mc M sig z) H → va_D (q_n s.heap) (wS g b z ++ wC g ad mc M sig z) → va_S (q_n s.heap) s.heap H locs → Ev g (q_n s.heap) s H → ∀ (ls : Array Slot), lv_has ls 24 [(15, .int (nI q)), (13, .long (sumJ (fun k => (nI (sL z)).toInt64 * (kM z (fm + k)).toInt64 * (kM z (fm + k)).toInt64) q)), (12, .int (nI fm)), (10, .int (nI (endA z (sn z)))), (9, .int (nI (allW z (kM z) (sn z)))), (6, .int (nI (sn z))), (5, .int (nI (sL z))), (4, .int x), (3, .int (nI tt)), (2, .ref (b 0)), (1, .ref (ad 0)), (0, .ref (gB g))] → W p l e room_1 s m #[Value.ref (gB g)] below meth c H locs cells slots (Q) (F0 m 608 ls []) := by
                              intro n_
                              induction n_ with
                              | zero => intro q  hi_ hn_; exact absurd hn_ (by omega)
                              | succ n_ ih_608 =>
                                intro q  hi_q hn_q  H locs hP hD hS hE ls hl
                                refine lv_iload hx hb dL_law_608 (lv_at hl 0 rfl) ?_
                                refine lv_iload hx hb dL_law_610 (lv_at hl 6 rfl) ?_
                                refine q_icmp_ge (tgt := 651) hx hb (by omega) (by omega) dL_law_612 (by decide) (fun c_q => ?_) (fun c_q => ?_)
                                · have eq_ : q = sL z := by omega
                                  have e0 : sumJ (fun k => (nI (sL z)).toInt64 * (kM z (fm + k)).toInt64 * (kM z (fm + k)).toInt64) (sL z) = sumJ (fun k => (nI (sL z)).toInt64 * (kM z (fm + k)).toInt64 * (kM z (fm + k)).toInt64) (sL z) - sumJ (fun c => (hearF (sL z) (kM z) c fm).toInt64 * (hearF (sL z) (kM z) c fm).toInt64) 0 := by show _ = _ - (0 : Int64); grind
                                  rw [eq_, e0] at hl
                                  refine lv_iconst (v := nI 0) hx hb dL_law_651 (by decide) ?_
                                  refine lv_istore (lv' := [(15, .int (nI 0)), (13, .long (sumJ (fun k => (nI (sL z)).toInt64 * (kM z (fm + k)).toInt64 * (kM z (fm + k)).toInt64) (sL z) - sumJ (fun c => (hearF (sL z) (kM z) c fm).toInt64 * (hearF (sL z) (kM z) c fm).toInt64) 0)), (12, .int (nI fm)), (10, .int (nI (endA z (sn z)))), (9, .int (nI (allW z (kM z) (sn z)))), (6, .int (nI (sn z))), (5, .int (nI (sL z))), (4, .int x), (3, .int (nI tt)), (2, .ref (b 0)), (1, .ref (ad 0)), (0, .ref (gB g))]) hx hb dL_law_652 hl (by decide) rfl (fun ls hl => ?_)
                                  have lp_654 : ∀ (n_ q : Nat) , q ≤ sL z → sL z + 1 ≤ q + n_ → ∀ (H : Heap) (locs : List Loc), va_P g.1 vwCl (wS g b z ++ wC g ad mc M sig z) H → va_D (q_n s.heap) (wS g b z ++ wC g ad mc M sig z) → va_S (q_n s.heap) s.heap H locs → Ev g (q_n s.heap) s H → ∀ (ls : Array Slot), lv_has ls 24 [(15, .int (nI q)), (13, .long (sumJ (fun k => (nI (sL z)).toInt64 * (kM z (fm + k)).toInt64 * (kM z (fm + k)).toInt64) (sL z) - sumJ (fun c => (hearF (sL z) (kM z) c fm).toInt64 * (hearF (sL z) (kM z) c fm).toInt64) q)), (12, .int (nI fm)), (10, .int (nI (endA z (sn z)))), (9, .int (nI (allW z (kM z) (sn z)))), (6, .int (nI (sn z))), (5, .int (nI (sL z))), (4, .int x), (3, .int (nI tt)), (2, .ref (b 0)), (1, .ref (ad 0)), (0, .ref (gB g))] → W p l e room_1 s m #[Value.ref (gB g)] below meth c H locs cells slots (Q) (F0 m 654 ls []) := by
                                    intro n_
                                    induction n_ with
                                    | zero => intro q  hi_ hn_; exact absurd hn_ (by omega)
                                    | succ n_ ih_654 =>
                                      intro q  hi_q hn_q  H locs hP hD hS hE ls hl
                                      refine lv_iload hx hb dL_law_654 (lv_at hl 0 rfl) ?_
                                      refine lv_iload hx hb dL_law_656 (lv_at hl 6 rfl) ?_
                                      refine q_icmp_ge (tgt := 691) hx hb (by omega) (by omega) dL_law_658 (by decide) (fun c_r => ?_) (fun c_r => ?_)
                                      · have er : q = sL z := by omega
                                        rw [er] at hl
                                        refine lv_lload hx hb dL_law_691 (lv_at hl 1 rfl) ?_
                                        refine lv_lconst (v := 0) hx hb dL_law_693 (by decide) ?_
                                        refine W.lcmp hx hb dL_law_694 ?_
                                        refine lv_if_eq (tgt := 700) hx hb dL_law_695 (by decide) (fun c_8 => ?_) (fun c_8 => ?_)
                                        · refine lv_aload_n hx hb dL_law_700 rfl (lv_at hl 10 rfl) ?_
                                          refine q_roV (As := []) (rest := []) ⟨hx, hb, hml, hown, hts⟩ (k_digest hI) (cwV 0 hts gL_law_X3_digest rfl rfl rfl (by decide +kernel) ⟨Nat.le_of_ble_eq_true rfl, Nat.le_of_ble_eq_true rfl⟩) hE (fun q h => hA q (Nat.le_trans hS.1 h)) (q_snd hP) (va_recv hE.K (q_snd hP) (ci := 4) (q0 := 0) rfl rfl) rfl hl.1 rfl (Nat.le_of_ble_eq_true rfl) dL_law_701 ⟨by show _ ≤ 1200130; omega, by show _ ≤ 5501080; omega⟩ ?_
                                          refine lv_lstore (lv' := [(15, .long (dgA z (kM z))), (13, .long (sumJ (fun k => (nI (sL z)).toInt64 * (kM z (fm + k)).toInt64 * (kM z (fm + k)).toInt64) (sL z) - sumJ (fun c => (hearF (sL z) (kM z) c fm).toInt64 * (hearF (sL z) (kM z) c fm).toInt64) (sL z))), (12, .int (nI fm)), (10, .int (nI (endA z (sn z)))), (9, .int (nI (allW z (kM z) (sn z)))), (6, .int (nI (sn z))), (5, .int (nI (sL z))), (4, .int x), (3, .int (nI tt)), (2, .ref (b 0)), (1, .ref (ad 0)), (0, .ref (gB g))]) hx hb dL_law_704 hl (by decide) rfl (fun ls hl => ?_)
                                          refine lv_iload hx hb dL_law_706 (lv_at hl 7 rfl) ?_
                                          refine lv_iload hx hb dL_law_708 (lv_at hl 6 rfl) ?_
                                          refine q_roS (As := [.int x, .int (nI (sL z))]) (rest := []) ⟨hx, hb, hml, hown, hts⟩ (c_L_below (x := x) (n := sL z) (by omega) (by omega)) (va_cwS 2 hts gL_law_L_below rfl rfl rfl (by decide +kernel) ⟨Nat.le_of_ble_eq_true rfl, Nat.le_of_ble_eq_true rfl⟩) hE (fun q h => hA q (Nat.le_trans hS.1 h)) trivial rfl hl.1 rfl (Nat.le_of_ble_eq_true rfl) dL_law_710 ⟨by show _ ≤ 1200130; omega, by show _ ≤ 5501080; omega⟩ ?_
                                          obtain ⟨a1, ha1, ea1⟩ : ∃ q, q < sL z ∧ bel x (sL z) = q := ⟨_, bel_lt (by omega), rfl⟩
                                          rw [ea1]
                                          refine lv_istore (lv' := [(17, .int (nI a1)), (15, .long (dgA z (kM z))), (13, .long (sumJ (fun k => (nI (sL z)).toInt64 * (kM z (fm + k)).toInt64 * (kM z (fm + k)).toInt64) (sL z) - sumJ (fun c => (hearF (sL z) (kM z) c fm).toInt64 * (hearF (sL z) (kM z) c fm).toInt64) (sL z))), (12, .int (nI fm)), (10, .int (nI (endA z (sn z)))), (9, .int (nI (allW z (kM z) (sn z)))), (6, .int (nI (sn z))), (5, .int (nI (sL z))), (4, .int x), (3, .int (nI tt)), (2, .ref (b 0)), (1, .ref (ad 0)), (0, .ref (gB g))]) hx hb dL_law_713 hl (by decide) rfl (fun ls hl => ?_)
                                          refine lv_iload hx hb dL_law_715 (lv_at hl 8 rfl) ?_
                                          refine lv_iconst (v := nI 4) hx hb dL_law_717 (by decide) ?_
                                          refine q_ishr (v := sh x 4) hx hb dL_law_718 rfl ?_
                                          refine lv_iload hx hb dL_law_719 (lv_at hl 7 rfl) ?_
                                          refine q_roS (As := [.int (sh x 4), .int (nI (sL z))]) (rest := []) ⟨hx, hb, hml, hown, hts⟩ (c_L_below (x := sh x 4) (n := sL z) (by omega) (by omega)) (va_cwS 2 hts gL_law_L_below rfl rfl rfl (by decide +kernel) ⟨Nat.le_of_ble_eq_true rfl, Nat.le_of_ble_eq_true rfl⟩) hE (fun q h => hA q (Nat.le_trans hS.1 h)) trivial rfl hl.1 rfl (Nat.le_of_ble_eq_true rfl) dL_law_721 ⟨by show _ ≤ 1200130; omega, by show _ ≤ 5501080; omega⟩ ?_
                                          obtain ⟨b1, hb1, eb1⟩ : ∃ q, q < sL z ∧ bel (sh x 4) (sL z) = q := ⟨_, bel_lt (by omega), rfl⟩
                                          rw [eb1]
                                          refine lv_istore (lv' := [(18, .int (nI b1)), (17, .int (nI a1)), (15, .long (dgA z (kM z))), (13, .long (sumJ (fun k => (nI (sL z)).toInt64 * (kM z (fm + k)).toInt64 * (kM z (fm + k)).toInt64) (sL z) - sumJ (fun c => (hearF (sL z) (kM z) c fm).toInt64 * (hearF (sL z) (kM z) c fm).toInt64) (sL z))), (12, .int (nI fm)), (10, .int (nI (endA z (sn z)))), (9, .int (nI (allW z (kM z) (sn z)))), (6, .int (nI (sn z))), (5, .int (nI (sL z))), (4, .int x), (3, .int (nI tt)), (2, .ref (b 0)), (1, .ref (ad 0)), (0, .ref (gB g))]) hx hb dL_law_724 hl (by decide) rfl (fun ls hl => ?_)
                                          refine lv_iload hx hb dL_law_726 (lv_at hl 9 rfl) ?_
                                          refine lv_iconst (v := nI 2) hx hb dL_law_728 (by decide) ?_
                                          refine q_ishr (v := sh x 2) hx hb dL_law_729 rfl ?_
                                          refine lv_iload hx hb dL_law_730 (lv_at hl 8 rfl) ?_
                                          refine q_roS (As := [.int (sh x 2), .int (nI (sL z))]) (rest := []) ⟨hx, hb, hml, hown, hts⟩ (c_L_below (x := sh x 2) (n := sL z) (by omega) (by omega)) (va_cwS 2 hts gL_law_L_below rfl rfl rfl (by decide +kernel) ⟨Nat.le_of_ble_eq_true rfl, Nat.le_of_ble_eq_true rfl⟩) hE (fun q h => hA q (Nat.le_trans hS.1 h)) trivial rfl hl.1 rfl (Nat.le_of_ble_eq_true rfl) dL_law_732 ⟨by show _ ≤ 1200130; omega, by show _ ≤ 5501080; omega⟩ ?_
                                          obtain ⟨s1, hs1, es1⟩ : ∃ q, q < sL z ∧ bel (sh x 2) (sL z) = q := ⟨_, bel_lt (by omega), rfl⟩
                                          rw [es1]
                                          refine lv_istore (lv' := [(19, .int (nI s1)), (18, .int (nI b1)), (17, .int (nI a1)), (15, .long (dgA z (kM z))), (13, .long (sumJ (fun k => (nI (sL z)).toInt64 * (kM z (fm + k)).toInt64 * (kM z (fm + k)).toInt64) (sL z) - sumJ (fun c => (hearF (sL z) (kM z) c fm).toInt64 * (hearF (sL z) (kM z) c fm).toInt64) (sL z))), (12, .int (nI fm)), (10, .int (nI (endA z (sn z)))), (9, .int (nI (allW z (kM z) (sn z)))), (6, .int (nI (sn z))), (5, .int (nI (sL z))), (4, .int x), (3, .int (nI tt)), (2, .ref (b 0)), (1, .ref (ad 0)), (0, .ref (gB g))]) hx hb dL_law_735 hl (by decide) rfl (fun ls hl => ?_)
                                          refine lv_aload_n hx hb dL_law_737 rfl (lv_at hl 13 rfl) ?_
                                          refine lv_iload hx hb dL_law_738 (lv_at hl 2 rfl) ?_
                                          refine lv_iload hx hb dL_law_740 (lv_at hl 1 rfl) ?_
                                          refine lv_iload hx hb dL_law_742 (lv_at hl 0 rfl) ?_
                                          refine q_roV (As := [.int (nI a1), .int (nI b1), .int (nI s1)]) (rest := []) ⟨hx, hb, hml, hown, hts⟩ (k_alike hI (a := a1) (b := b1) (s_ := s1) ha1 hb1 hs1) (cwV 3 hts gL_law_X3_alike rfl rfl rfl (by decide +kernel) ⟨Nat.le_of_ble_eq_true rfl, Nat.le_of_ble_eq_true rfl⟩) hE (fun q h => hA q (Nat.le_trans hS.1 h)) (q_snd hP) (va_recv hE.K (q_snd hP) (ci := 4) (q0 := 0) rfl rfl) rfl hl.1 rfl (Nat.le_of_ble_eq_true rfl) dL_law_744 ⟨by show _ ≤ 1200130; omega, by show _ ≤ 5501080; omega⟩ ?_
                                          refine lv_aload_n hx hb dL_law_747 rfl (lv_at hl 13 rfl) ?_
                                          refine lv_iload hx hb dL_law_748 (lv_at hl 1 rfl) ?_
                                          refine lv_iload hx hb dL_law_750 (lv_at hl 2 rfl) ?_
                                          refine lv_iload hx hb dL_law_752 (lv_at hl 9 rfl) ?_
                                          refine lv_iload hx hb dL_law_754 (lv_at hl 0 rfl) ?_
                                          refine q_isub (v := nI (sL z - s1)) hx hb dL_law_756 (pk_sub (by omega)) ?_
                                          refine lv_iload hx hb dL_law_757 (lv_at hl 9 rfl) ?_
                                          refine q_irem (v := nI ((sL z - s1) % sL z)) hx hb dL_law_759 (q_ne0 (by omega) (by omega)) (q_rem (by omega) (by omega) (by omega)) ?_
                                          refine q_roV (As := [.int (nI b1), .int (nI a1), .int (nI ((sL z - s1) % sL z))]) (rest := [.int (likF (sL z) a1 b1 s1)]) ⟨hx, hb, hml, hown, hts⟩ (k_alike hI (a := b1) (b := a1) (s_ := (sL z - s1) % sL z) hb1 ha1 (Nat.mod_lt _ (by omega))) (cwV 3 hts gL_law_X3_alike rfl rfl rfl (by decide +kernel) ⟨Nat.le_of_ble_eq_true rfl, Nat.le_of_ble_eq_true rfl⟩) hE (fun q h => hA q (Nat.le_trans hS.1 h)) (q_snd hP) (va_recv hE.K (q_snd hP) (ci := 4) (q0 := 0) rfl rfl) rfl hl.1 rfl (Nat.le_of_ble_eq_true rfl) dL_law_760 ⟨by show _ ≤ 1200130; omega, by show _ ≤ 5501080; omega⟩ ?_
                                          refine lv_icmp_ne (tgt := 835) hx hb dL_law_763 (by decide) (fun c_9 => ?_) (fun c_9 => ?_)
                                          · exact absurd (lik_sym hs1) c_9
                                          · refine lv_aload_n hx hb dL_law_766 rfl (lv_at hl 13 rfl) ?_
                                            refine lv_iload hx hb dL_law_767 (lv_at hl 2 rfl) ?_
                                            refine lv_iload hx hb dL_law_769 (lv_at hl 1 rfl) ?_
                                            refine lv_iconst (v := nI 0) hx hb dL_law_771 (by decide) ?_
                                            refine q_roV (As := [.int (nI a1), .int (nI b1), .int (nI 0)]) (rest := []) ⟨hx, hb, hml, hown, hts⟩ (k_alike hI (a := a1) (b := b1) (s_ := 0) ha1 hb1 (by omega)) (cwV 3 hts gL_law_X3_alike rfl rfl rfl (by decide +kernel) ⟨Nat.le_of_ble_eq_true rfl, Nat.le_of_ble_eq_true rfl⟩) hE (fun q h => hA q (Nat.le_trans hS.1 h)) (q_snd hP) (va_recv hE.K (q_snd hP) (ci := 4) (q0 := 0) rfl rfl) rfl hl.1 rfl (Nat.le_of_ble_eq_true rfl) dL_law_772 ⟨by show _ ≤ 1200130; omega, by show _ ≤ 5501080; omega⟩ ?_
                                            refine lv_iload hx hb dL_law_775 (lv_at hl 2 rfl) ?_
                                            refine lv_iload hx hb dL_law_777 (lv_at hl 1 rfl) ?_
                                            refine q_icmp_ne (tgt := 787) hx hb (by omega) (by omega) dL_law_779 (by decide) (fun c_ab => ?_) (fun c_ab => ?_)
                                            · refine lv_iconst (v := nI 0) hx hb dL_law_787 (by decide) ?_
                                              refine lv_icmp_ne (tgt := 835) hx hb dL_law_788 (by decide) (fun c_10 => ?_) (fun c_10 => ?_)
                                              · exact absurd ((lik_0 _ hV.Lm a1 ha1 b1 hb1).trans (if_neg c_ab)) c_10
                                              · refine lv_aload_n hx hb dL_law_791 rfl (lv_at hl 13 rfl) ?_
                                                refine lv_iload hx hb dL_law_792 (lv_at hl 2 rfl) ?_
                                                refine lv_iload hx hb dL_law_794 (lv_at hl 1 rfl) ?_
                                                refine lv_iload hx hb dL_law_796 (lv_at hl 0 rfl) ?_
                                                refine q_roV (As := [.int (nI a1), .int (nI b1), .int (nI s1)]) (rest := []) ⟨hx, hb, hml, hown, hts⟩ (k_alike hI (a := a1) (b := b1) (s_ := s1) ha1 hb1 hs1) (cwV 3 hts gL_law_X3_alike rfl rfl rfl (by decide +kernel) ⟨Nat.le_of_ble_eq_true rfl, Nat.le_of_ble_eq_true rfl⟩) hE (fun q h => hA q (Nat.le_trans hS.1 h)) (q_snd hP) (va_recv hE.K (q_snd hP) (ci := 4) (q0 := 0) rfl rfl) rfl hl.1 rfl (Nat.le_of_ble_eq_true rfl) dL_law_798 ⟨by show _ ≤ 1200130; omega, by show _ ≤ 5501080; omega⟩ ?_
                                                refine lv_aload_n hx hb dL_law_801 rfl (lv_at hl 13 rfl) ?_
                                                refine lv_iload hx hb dL_law_802 (lv_at hl 2 rfl) ?_
                                                refine lv_iload hx hb dL_law_804 (lv_at hl 1 rfl) ?_
                                                refine lv_aload_n hx hb dL_law_806 rfl (lv_at hl 13 rfl) ?_
                                                refine lv_iload hx hb dL_law_807 (lv_at hl 2 rfl) ?_
                                                refine lv_iload hx hb dL_law_809 (lv_at hl 1 rfl) ?_
                                                refine q_roV (As := [.int (nI a1), .int (nI b1)]) (rest := [.int (nI b1), .int (nI a1), .ref (ad 0), .int (likF (sL z) a1 b1 s1)]) ⟨hx, hb, hml, hown, hts⟩ (k_shift hI (a := a1) (b := b1) ha1 hb1) (cwV 2 hts gL_law_X3_shift rfl rfl rfl (by decide +kernel) ⟨Nat.le_of_ble_eq_true rfl, Nat.le_of_ble_eq_true rfl⟩) hE (fun q h => hA q (Nat.le_trans hS.1 h)) (q_snd hP) (va_recv hE.K (q_snd hP) (ci := 4) (q0 := 0) rfl rfl) rfl hl.1 rfl (Nat.le_of_ble_eq_true rfl) dL_law_811 ⟨by show _ ≤ 1200130; omega, by show _ ≤ 5501080; omega⟩ ?_
                                                refine q_roV (As := [.int (nI a1), .int (nI b1), .int (nI (shB (sL z) a1 b1 (sL z - 1)))]) (rest := [.int (likF (sL z) a1 b1 s1)]) ⟨hx, hb, hml, hown, hts⟩ (k_alike hI (a := a1) (b := b1) (s_ := shB (sL z) a1 b1 (sL z - 1)) ha1 hb1 (by have := sh_in (L := sL z) (a := a1) (b := b1) (sL z - 1); omega)) (cwV 3 hts gL_law_X3_alike rfl rfl rfl (by decide +kernel) ⟨Nat.le_of_ble_eq_true rfl, Nat.le_of_ble_eq_true rfl⟩) hE (fun q h => hA q (Nat.le_trans hS.1 h)) (q_snd hP) (va_recv hE.K (q_snd hP) (ci := 4) (q0 := 0) rfl rfl) rfl hl.1 rfl (Nat.le_of_ble_eq_true rfl) dL_law_814 ⟨by show _ ≤ 1200130; omega, by show _ ≤ 5501080; omega⟩ ?_
                                                refine lv_icmp_gt (tgt := 835) hx hb dL_law_817 (by decide) (fun c_11 => ?_) (fun c_11 => ?_)
                                                · exact absurd (sh_le (L := sL z) (a := a1) (b := b1) (s := s1) (n := sL z - 1) (by omega)) (Int32.not_le.mpr c_11)
                                                · refine lv_aload_n hx hb dL_law_820 rfl (lv_at hl 13 rfl) ?_
                                                  refine lv_iload hx hb dL_law_821 (lv_at hl 2 rfl) ?_
                                                  refine lv_iload hx hb dL_law_823 (lv_at hl 1 rfl) ?_
                                                  refine lv_iload hx hb dL_law_825 (lv_at hl 0 rfl) ?_
                                                  refine q_roV (As := [.int (nI a1), .int (nI b1), .int (nI s1)]) (rest := []) ⟨hx, hb, hml, hown, hts⟩ (k_alike hI (a := a1) (b := b1) (s_ := s1) ha1 hb1 hs1) (cwV 3 hts gL_law_X3_alike rfl rfl rfl (by decide +kernel) ⟨Nat.le_of_ble_eq_true rfl, Nat.le_of_ble_eq_true rfl⟩) hE (fun q h => hA q (Nat.le_trans hS.1 h)) (q_snd hP) (va_recv hE.K (q_snd hP) (ci := 4) (q0 := 0) rfl rfl) rfl hl.1 rfl (Nat.le_of_ble_eq_true rfl) dL_law_827 ⟨by show _ ≤ 1200130; omega, by show _ ≤ 5501080; omega⟩ ?_
                                                  refine lv_iload hx hb dL_law_830 (lv_at hl 9 rfl) ?_
                                                  refine lv_icmp_le (tgt := 837) hx hb dL_law_832 (by decide) (fun c_12 => ?_) (fun c_12 => ?_)
                                                  · refine lv_aload_n hx hb dL_law_837 rfl (lv_at hl 13 rfl) ?_
                                                    refine lv_iload hx hb dL_law_838 (lv_at hl 0 rfl) ?_
                                                    refine q_roV (As := [.int (nI s1)]) (rest := []) ⟨hx, hb, hml, hown, hts⟩ (k_advise hI (b := s1) hs1) (cwV 1 hts gL_law_X3_advise rfl rfl rfl (by decide +kernel) ⟨Nat.le_of_ble_eq_true rfl, Nat.le_of_ble_eq_true rfl⟩) hE (fun q h => hA q (Nat.le_trans hS.1 h)) (q_snd hP) (va_recv hE.K (q_snd hP) (ci := 4) (q0 := 0) rfl rfl) rfl hl.1 rfl (Nat.le_of_ble_eq_true rfl) dL_law_840 ⟨by show _ ≤ 1200130; omega, by show _ ≤ 5501080; omega⟩ ?_
                                                    have hadv := adv_all (z := z) (b := s1) (sL z) (by omega)
                                                    refine lv_istore (lv' := [(20, .int ((advS z s1 (sL z)).1)), (19, .int (nI s1)), (18, .int (nI b1)), (17, .int (nI a1)), (15, .long (dgA z (kM z))), (13, .long (sumJ (fun k => (nI (sL z)).toInt64 * (kM z (fm + k)).toInt64 * (kM z (fm + k)).toInt64) (sL z) - sumJ (fun c => (hearF (sL z) (kM z) c fm).toInt64 * (hearF (sL z) (kM z) c fm).toInt64) (sL z))), (12, .int (nI fm)), (10, .int (nI (endA z (sn z)))), (9, .int (nI (allW z (kM z) (sn z)))), (6, .int (nI (sn z))), (5, .int (nI (sL z))), (4, .int x), (3, .int (nI tt)), (2, .ref (b 0)), (1, .ref (ad 0)), (0, .ref (gB g))]) hx hb dL_law_843 hl (by decide) rfl (fun ls hl => ?_)
                                                    refine lv_iload hx hb dL_law_845 (lv_at hl 0 rfl) ?_
                                                    refine lv_if_ge (tgt := 854) hx hb dL_law_847 (by decide) (fun c_v => ?_) (fun c_v => ?_)
                                                    · have c_n : ¬ (advS z s1 (sL z)).1 < 0 := Int32.not_lt.mpr c_v
                                                      refine lv_iconst (v := nI 0) hx hb dL_law_854 (by decide) ?_
                                                      refine lv_aload_n hx hb dL_law_855 rfl (lv_at hl 14 rfl) ?_
                                                      refine lv_bipush (v := nI 6) hx hb dL_law_856 (by decide) ?_
                                                      refine q_roV (As := [.int (nI 6)]) (rest := [.int (nI 0)]) ⟨hx, hb, hml, hown, hts⟩ (k_count6 hI) (cwV 1 hts gL_law_X3_count rfl rfl rfl (by decide +kernel) ⟨Nat.le_of_ble_eq_true rfl, Nat.le_of_ble_eq_true rfl⟩) hE (fun q h => hA q (Nat.le_trans hS.1 h)) (q_snd hP) (va_recv hE.K (q_snd hP) (ci := 4) (q0 := 0) rfl rfl) rfl hl.1 rfl (Nat.le_of_ble_eq_true rfl) dL_law_858 ⟨by show _ ≤ 1200130; omega, by show _ ≤ 5501080; omega⟩ ?_
                                                      refine q_if_ne (tgt := 868) hx hb (by have := free_le (z := z); omega) dL_law_861 (by decide) (fun c_f => ?_) (fun c_f => ?_)
                                                      · refine lv_iconst (v := nI 0) hx hb dL_law_868 (by decide) ?_
                                                        refine q_icmp_ne (tgt := 886) hx hb (by omega) (by omega) dL_law_869 (by decide) (fun c_13 => ?_) (fun c_13 => ?_)
                                                        · exact absurd rfl c_13
                                                        · refine lv_iload hx hb dL_law_872 (lv_at hl 0 rfl) ?_
                                                          refine lv_if_lt (tgt := 888) hx hb dL_law_874 (by decide) (fun c_14 => ?_) (fun c_14 => ?_)
                                                          · exact absurd c_14 c_n
                                                          · obtain ⟨c9, hc9, ec9, hn9⟩ := hadv.2 c_n
                                                            rw [ec9] at hl
                                                            refine lv_aload_n hx hb dL_law_877 rfl (lv_at hl 13 rfl) ?_
                                                            refine lv_iload hx hb dL_law_878 (lv_at hl 0 rfl) ?_
                                                            refine q_roV (As := [.int (nI c9)]) (rest := []) ⟨hx, hb, hml, hown, hts⟩ (c_X4_isTaken hV (a := c9) (by omega)) (cwV 1 hts gL_law_X4_isTaken rfl rfl rfl (by decide +kernel) ⟨Nat.le_of_ble_eq_true rfl, Nat.le_of_ble_eq_true rfl⟩) hE (fun q h => hA q (Nat.le_trans hS.1 h)) (q_fst hP) (va_recv hE.K hP (ci := 5) (q0 := 0) rfl rfl) rfl hl.1 rfl (Nat.le_of_ble_eq_true rfl) dL_law_880 ⟨by show _ ≤ 1200130; omega, by show _ ≤ 5501080; omega⟩ ?_
                                                            refine q_ifb_eq (tgt := 888) hx hb dL_law_883 (by decide) (fun c_15 => ?_) (fun c_15 => ?_)
                                                            · refine lv_iload hx hb dL_law_888 (lv_at hl 9 rfl) ?_
                                                              refine q_if_le (tgt := 963) hx hb (by omega) dL_law_890 (by decide) (fun c_h => ?_) (fun c_h => ?_)
                                                              · refine lv_aload_n hx hb dL_law_963 rfl (lv_at hl 14 rfl) ?_
                                                                refine q_roV (As := []) (rest := []) ⟨hx, hb, hml, hown, hts⟩ (k_digest hI) (cwV 0 hts gL_law_X3_digest rfl rfl rfl (by decide +kernel) ⟨Nat.le_of_ble_eq_true rfl, Nat.le_of_ble_eq_true rfl⟩) hE (fun q h => hA q (Nat.le_trans hS.1 h)) (q_snd hP) (va_recv hE.K (q_snd hP) (ci := 4) (q0 := 0) rfl rfl) rfl hl.1 rfl (Nat.le_of_ble_eq_true rfl) dL_law_964 ⟨by show _ ≤ 1200130; omega, by show _ ≤ 5501080; omega⟩ ?_
                                                                refine lv_lload hx hb dL_law_967 (lv_at hl 4 rfl) ?_
                                                                refine W.lcmp hx hb dL_law_969 ?_
                                                                refine lv_if_eq (tgt := 975) hx hb dL_law_970 (by decide) (fun c_16 => ?_) (fun c_16 => ?_)
                                                                · exact kk _ _ _ hP hD hS hE (lv_sub hl [12, 13, 14, 15] rfl)
                                                                · exact absurd lg_self c_16
                                                              · refine lv_iload hx hb dL_law_893 (lv_at hl 11 rfl) ?_
                                                                refine lv_bipush (v := nI 6) hx hb dL_law_895 (by decide) ?_
                                                                refine q_ishr (v := sh x 6) hx hb dL_law_897 rfl ?_
                                                                refine lv_iload hx hb dL_law_898 (lv_at hl 9 rfl) ?_
                                                                refine q_roS (As := [.int (sh x 6), .int (nI (sn z))]) (rest := []) ⟨hx, hb, hml, hown, hts⟩ (c_L_below (x := sh x 6) (n := sn z) c_h (by omega)) (va_cwS 2 hts gL_law_L_below rfl rfl rfl (by decide +kernel) ⟨Nat.le_of_ble_eq_true rfl, Nat.le_of_ble_eq_true rfl⟩) hE (fun q h => hA q (Nat.le_trans hS.1 h)) trivial rfl hl.1 rfl (Nat.le_of_ble_eq_true rfl) dL_law_900 ⟨by show _ ≤ 1200130; omega, by show _ ≤ 5501080; omega⟩ ?_
                                                                obtain ⟨k9, hk9, ek9⟩ : ∃ q, q < sn z ∧ bel (sh x 6) (sn z) = q := ⟨_, bel_lt c_h, rfl⟩
                                                                rw [ek9]
                                                                have hs9 := (hV.2.2.1 k9 hk9).2.1
                                                                have ht9 := tuS_in (wwM z k9) 8
                                                                refine lv_istore (lv' := [(21, .int (nI k9)), (20, .int (nI c9)), (19, .int (nI s1)), (18, .int (nI b1)), (17, .int (nI a1)), (15, .long (dgA z (kM z))), (13, .long (sumJ (fun k => (nI (sL z)).toInt64 * (kM z (fm + k)).toInt64 * (kM z (fm + k)).toInt64) (sL z) - sumJ (fun c => (hearF (sL z) (kM z) c fm).toInt64 * (hearF (sL z) (kM z) c fm).toInt64) (sL z))), (12, .int (nI fm)), (10, .int (nI (endA z (sn z)))), (9, .int (nI (allW z (kM z) (sn z)))), (6, .int (nI (sn z))), (5, .int (nI (sL z))), (4, .int x), (3, .int (nI tt)), (2, .ref (b 0)), (1, .ref (ad 0)), (0, .ref (gB g))]) hx hb dL_law_903 hl (by decide) rfl (fun ls hl => ?_)
                                                                refine lv_aload_n hx hb dL_law_905 rfl (lv_at hl 15 rfl) ?_
                                                                refine lv_iload hx hb dL_law_906 (lv_at hl 0 rfl) ?_
                                                                refine lv_iconst (v := nI 1) hx hb dL_law_908 (by decide) ?_
                                                                refine q_roV (As := [.int (nI k9), .int (nI 1)]) (rest := []) ⟨hx, hb, hml, hown, hts⟩ (k_about1 hI hk9) (cwV 2 hts gL_law_X3_about rfl rfl rfl (by decide +kernel) ⟨Nat.le_of_ble_eq_true rfl, Nat.le_of_ble_eq_true rfl⟩) hE (fun q h => hA q (Nat.le_trans hS.1 h)) (q_snd hP) (va_recv hE.K (q_snd hP) (ci := 4) (q0 := 0) rfl rfl) rfl hl.1 rfl (Nat.le_of_ble_eq_true rfl) dL_law_909 ⟨by show _ ≤ 1200130; omega, by show _ ≤ 5501080; omega⟩ ?_
                                                                refine lv_istore (lv' := [(22, .int (nI (ssr z k9))), (21, .int (nI k9)), (20, .int (nI c9)), (19, .int (nI s1)), (18, .int (nI b1)), (17, .int (nI a1)), (15, .long (dgA z (kM z))), (13, .long (sumJ (fun k => (nI (sL z)).toInt64 * (kM z (fm + k)).toInt64 * (kM z (fm + k)).toInt64) (sL z) - sumJ (fun c => (hearF (sL z) (kM z) c fm).toInt64 * (hearF (sL z) (kM z) c fm).toInt64) (sL z))), (12, .int (nI fm)), (10, .int (nI (endA z (sn z)))), (9, .int (nI (allW z (kM z) (sn z)))), (6, .int (nI (sn z))), (5, .int (nI (sL z))), (4, .int x), (3, .int (nI tt)), (2, .ref (b 0)), (1, .ref (ad 0)), (0, .ref (gB g))]) hx hb dL_law_912 hl (by decide) rfl (fun ls hl => ?_)
                                                                refine lv_aload_n hx hb dL_law_914 rfl (lv_at hl 16 rfl) ?_
                                                                refine lv_iload hx hb dL_law_915 (lv_at hl 1 rfl) ?_
                                                                refine q_wrV (wr := wS g b z) (As := [.int (nI k9)]) (rest := []) ⟨hx, hb, hml, hown, hts⟩ (k_tune hI hk9) (cwV 1 hts gL_law_X3_tune rfl rfl rfl (by decide +kernel) ⟨Nat.le_of_ble_eq_true rfl, Nat.le_of_ble_eq_true rfl⟩) hE hP hD hS hA (va_recv hE.K (q_snd hP) (ci := 4) (q0 := 0) rfl rfl) rfl hl.1 rfl (Nat.le_of_ble_eq_true rfl) dL_law_917 ⟨by show _ ≤ 1200130; omega, by show _ ≤ 5501080; omega⟩ (fun _u H locs hP hD hS hE => ?_)
                                                                have hP : va_P g.1 vwCl (wS g b z ++ wC g ad mc M sig z) H := hP
                                                                have hD : va_D (q_n s.heap) (wS g b z ++ wC g ad mc M sig z) := hD
                                                                refine lv_istore (lv' := [(23, .int (nI (tuS (wwM z k9) 8))), (22, .int (nI (ssr z k9))), (21, .int (nI k9)), (20, .int (nI c9)), (19, .int (nI s1)), (18, .int (nI b1)), (17, .int (nI a1)), (15, .long (dgA z (kM z))), (13, .long (sumJ (fun k => (nI (sL z)).toInt64 * (kM z (fm + k)).toInt64 * (kM z (fm + k)).toInt64) (sL z) - sumJ (fun c => (hearF (sL z) (kM z) c fm).toInt64 * (hearF (sL z) (kM z) c fm).toInt64) (sL z))), (12, .int (nI fm)), (10, .int (nI (endA z (sn z)))), (9, .int (nI (allW z (kM z) (sn z)))), (6, .int (nI (sn z))), (5, .int (nI (sL z))), (4, .int x), (3, .int (nI tt)), (2, .ref (b 0)), (1, .ref (ad 0)), (0, .ref (gB g))]) hx hb dL_law_920 hl (by decide) rfl (fun ls hl => ?_)
                                                                refine lv_aload_n hx hb dL_law_922 rfl (lv_at hl 17 rfl) ?_
                                                                refine lv_iload hx hb dL_law_923 (lv_at hl 2 rfl) ?_
                                                                refine lv_iload hx hb dL_law_925 (lv_at hl 1 rfl) ?_
                                                                refine q_wrV (wr := wS g b z) (As := [.int (nI k9), .int (nI (ssr z k9))]) (rest := []) ⟨hx, hb, hml, hown, hts⟩ (k_would hI hk9 hs9.1 hs9.2) (cwV 2 hts gL_law_X3_would rfl rfl rfl (by decide +kernel) ⟨Nat.le_of_ble_eq_true rfl, Nat.le_of_ble_eq_true rfl⟩) hE hP hD hS hA (va_recv hE.K (q_snd hP) (ci := 4) (q0 := 0) rfl rfl) rfl hl.1 rfl (Nat.le_of_ble_eq_true rfl) dL_law_927 ⟨by show _ ≤ 1200130; omega, by show _ ≤ 5501080; omega⟩ (fun _u H locs hP hD hS hE => ?_)
                                                                have hP : va_P g.1 vwCl (wS g b z ++ wC g ad mc M sig z) H := hP
                                                                have hD : va_D (q_n s.heap) (wS g b z ++ wC g ad mc M sig z) := hD
                                                                refine lv_iload hx hb dL_law_930 (lv_at hl 11 rfl) ?_
                                                                refine lv_icmp_ne (tgt := 961) hx hb dL_law_932 (by decide) (fun c_17 => ?_) (fun c_17 => ?_)
                                                                · exact absurd (congrArg nI wwM_own) c_17
                                                                · refine lv_aload_n hx hb dL_law_935 rfl (lv_at hl 17 rfl) ?_
                                                                  refine lv_iload hx hb dL_law_936 (lv_at hl 2 rfl) ?_
                                                                  refine lv_iload hx hb dL_law_938 (lv_at hl 0 rfl) ?_
                                                                  refine q_wrV (wr := wS g b z) (As := [.int (nI k9), .int (nI (tuS (wwM z k9) 8))]) (rest := []) ⟨hx, hb, hml, hown, hts⟩ (k_would hI hk9 ht9.1 (by omega)) (cwV 2 hts gL_law_X3_would rfl rfl rfl (by decide +kernel) ⟨Nat.le_of_ble_eq_true rfl, Nat.le_of_ble_eq_true rfl⟩) hE hP hD hS hA (va_recv hE.K (q_snd hP) (ci := 4) (q0 := 0) rfl rfl) rfl hl.1 rfl (Nat.le_of_ble_eq_true rfl) dL_law_940 ⟨by show _ ≤ 1200130; omega, by show _ ≤ 5501080; omega⟩ (fun _u H locs hP hD hS hE => ?_)
                                                                  have hP : va_P g.1 vwCl (wS g b z ++ wC g ad mc M sig z) H := hP
                                                                  have hD : va_D (q_n s.heap) (wS g b z ++ wC g ad mc M sig z) := hD
                                                                  refine lv_iload hx hb dL_law_943 (lv_at hl 11 rfl) ?_
                                                                  refine q_icmp_gt (tgt := 961) hx hb (by have := wwM_lt (k := k9) (s_ := tuS (wwM z k9) 8) hV; omega) (by omega) dL_law_945 (by decide) (fun c_18 => ?_) (fun c_18 => ?_)
                                                                  · exact absurd (wwM_tu hV hk9) (by omega)
                                                                  · refine lv_iload hx hb dL_law_948 (lv_at hl 0 rfl) ?_
                                                                    refine lv_iconst (v := nI 1) hx hb dL_law_950 (by decide) ?_
                                                                    refine q_icmp_lt (tgt := 961) hx hb (by omega) (by omega) dL_law_951 (by decide) (fun c_19 => ?_) (fun c_19 => ?_)
                                                                    · exact absurd ht9.1 (by omega)
                                                                    · refine lv_iload hx hb dL_law_954 (lv_at hl 0 rfl) ?_
                                                                      refine lv_bipush (v := nI 9) hx hb dL_law_956 (by decide) ?_
                                                                      refine q_icmp_le (tgt := 963) hx hb (by omega) (by omega) dL_law_958 (by decide) (fun c_20 => ?_) (fun c_20 => ?_)
                                                                      · refine lv_aload_n hx hb dL_law_963 rfl (lv_at hl 17 rfl) ?_
                                                                        refine q_roV (As := []) (rest := []) ⟨hx, hb, hml, hown, hts⟩ (k_digest hI) (cwV 0 hts gL_law_X3_digest rfl rfl rfl (by decide +kernel) ⟨Nat.le_of_ble_eq_true rfl, Nat.le_of_ble_eq_true rfl⟩) hE (fun q h => hA q (Nat.le_trans hS.1 h)) (q_snd hP) (va_recv hE.K (q_snd hP) (ci := 4) (q0 := 0) rfl rfl) rfl hl.1 rfl (Nat.le_of_ble_eq_true rfl) dL_law_964 ⟨by show _ ≤ 1200130; omega, by show _ ≤ 5501080; omega⟩ ?_
                                                                        refine lv_lload hx hb dL_law_967 (lv_at hl 7 rfl) ?_
                                                                        refine W.lcmp hx hb dL_law_969 ?_
                                                                        refine lv_if_eq (tgt := 975) hx hb dL_law_970 (by decide) (fun c_21 => ?_) (fun c_21 => ?_)
                                                                        · exact kk _ _ _ hP hD hS hE (lv_sub hl [15, 16, 17, 18] rfl)
                                                                        · exact absurd lg_self c_21
                                                                      · exact absurd ht9.2 (by omega)
                                                            · exact absurd c_15 hn9
                                                      · refine lv_iconst (v := nI 1) hx hb dL_law_864 (by decide) ?_
                                                        refine lv_goto (tgt := 869) hx hb dL_law_865 (by decide) ?_
                                                        refine q_icmp_ne (tgt := 886) hx hb (by omega) (by omega) dL_law_869 (by decide) (fun c_22 => ?_) (fun c_22 => ?_)
                                                        · exact absurd (hadv.1.mpr (show freeN z = 0 by omega)) c_n
                                                        · exact absurd c_22 (by decide)
                                                    · have c_n : (advS z s1 (sL z)).1 < 0 := Int32.not_le.mp c_v
                                                      refine lv_iconst (v := nI 1) hx hb dL_law_850 (by decide) ?_
                                                      refine lv_goto (tgt := 855) hx hb dL_law_851 (by decide) ?_
                                                      refine lv_aload_n hx hb dL_law_855 rfl (lv_at hl 14 rfl) ?_
                                                      refine lv_bipush (v := nI 6) hx hb dL_law_856 (by decide) ?_
                                                      refine q_roV (As := [.int (nI 6)]) (rest := [.int (nI 1)]) ⟨hx, hb, hml, hown, hts⟩ (k_count6 hI) (cwV 1 hts gL_law_X3_count rfl rfl rfl (by decide +kernel) ⟨Nat.le_of_ble_eq_true rfl, Nat.le_of_ble_eq_true rfl⟩) hE (fun q h => hA q (Nat.le_trans hS.1 h)) (q_snd hP) (va_recv hE.K (q_snd hP) (ci := 4) (q0 := 0) rfl rfl) rfl hl.1 rfl (Nat.le_of_ble_eq_true rfl) dL_law_858 ⟨by show _ ≤ 1200130; omega, by show _ ≤ 5501080; omega⟩ ?_
                                                      refine q_if_ne (tgt := 868) hx hb (by have := free_le (z := z); omega) dL_law_861 (by decide) (fun c_f => ?_) (fun c_f => ?_)
                                                      · refine lv_iconst (v := nI 0) hx hb dL_law_868 (by decide) ?_
                                                        refine q_icmp_ne (tgt := 886) hx hb (by omega) (by omega) dL_law_869 (by decide) (fun c_23 => ?_) (fun c_23 => ?_)
                                                        · exact absurd (hadv.1.mp c_n) (show ¬ freeN z = 0 by omega)
                                                        · exact absurd c_23 (by decide)
                                                      · refine lv_iconst (v := nI 1) hx hb dL_law_864 (by decide) ?_
                                                        refine lv_goto (tgt := 869) hx hb dL_law_865 (by decide) ?_
                                                        refine q_icmp_ne (tgt := 886) hx hb (by omega) (by omega) dL_law_869 (by decide) (fun c_24 => ?_) (fun c_24 => ?_)
                                                        · exact absurd rfl c_24
                                                        · refine lv_iload hx hb dL_law_872 (lv_at hl 0 rfl) ?_
                                                          refine lv_if_lt (tgt := 888) hx hb dL_law_874 (by decide) (fun c_25 => ?_) (fun c_25 => ?_)
                                                          · refine lv_iload hx hb dL_law_888 (lv_at hl 9 rfl) ?_
                                                            refine q_if_le (tgt := 963) hx hb (by omega) dL_law_890 (by decide) (fun c_h => ?_) (fun c_h => ?_)
                                                            · refine lv_aload_n hx hb dL_law_963 rfl (lv_at hl 14 rfl) ?_
                                                              refine q_roV (As := []) (rest := []) ⟨hx, hb, hml, hown, hts⟩ (k_digest hI) (cwV 0 hts gL_law_X3_digest rfl rfl rfl (by decide +kernel) ⟨Nat.le_of_ble_eq_true rfl, Nat.le_of_ble_eq_true rfl⟩) hE (fun q h => hA q (Nat.le_trans hS.1 h)) (q_snd hP) (va_recv hE.K (q_snd hP) (ci := 4) (q0 := 0) rfl rfl) rfl hl.1 rfl (Nat.le_of_ble_eq_true rfl) dL_law_964 ⟨by show _ ≤ 1200130; omega, by show _ ≤ 5501080; omega⟩ ?_
                                                              refine lv_lload hx hb dL_law_967 (lv_at hl 4 rfl) ?_
                                                              refine W.lcmp hx hb dL_law_969 ?_
                                                              refine lv_if_eq (tgt := 975) hx hb dL_law_970 (by decide) (fun c_26 => ?_) (fun c_26 => ?_)
                                                              · exact kk _ _ _ hP hD hS hE (lv_sub hl [12, 13, 14, 15] rfl)
                                                              · exact absurd lg_self c_26
                                                            · refine lv_iload hx hb dL_law_893 (lv_at hl 11 rfl) ?_
                                                              refine lv_bipush (v := nI 6) hx hb dL_law_895 (by decide) ?_
                                                              refine q_ishr (v := sh x 6) hx hb dL_law_897 rfl ?_
                                                              refine lv_iload hx hb dL_law_898 (lv_at hl 9 rfl) ?_
                                                              refine q_roS (As := [.int (sh x 6), .int (nI (sn z))]) (rest := []) ⟨hx, hb, hml, hown, hts⟩ (c_L_below (x := sh x 6) (n := sn z) c_h (by omega)) (va_cwS 2 hts gL_law_L_below rfl rfl rfl (by decide +kernel) ⟨Nat.le_of_ble_eq_true rfl, Nat.le_of_ble_eq_true rfl⟩) hE (fun q h => hA q (Nat.le_trans hS.1 h)) trivial rfl hl.1 rfl (Nat.le_of_ble_eq_true rfl) dL_law_900 ⟨by show _ ≤ 1200130; omega, by show _ ≤ 5501080; omega⟩ ?_
                                                              obtain ⟨k9, hk9, ek9⟩ : ∃ q, q < sn z ∧ bel (sh x 6) (sn z) = q := ⟨_, bel_lt c_h, rfl⟩
                                                              rw [ek9]
                                                              have hs9 := (hV.2.2.1 k9 hk9).2.1
                                                              have ht9 := tuS_in (wwM z k9) 8
                                                              refine lv_istore (lv' := [(21, .int (nI k9)), (20, .int ((advS z s1 (sL z)).1)), (19, .int (nI s1)), (18, .int (nI b1)), (17, .int (nI a1)), (15, .long (dgA z (kM z))), (13, .long (sumJ (fun k => (nI (sL z)).toInt64 * (kM z (fm + k)).toInt64 * (kM z (fm + k)).toInt64) (sL z) - sumJ (fun c => (hearF (sL z) (kM z) c fm).toInt64 * (hearF (sL z) (kM z) c fm).toInt64) (sL z))), (12, .int (nI fm)), (10, .int (nI (endA z (sn z)))), (9, .int (nI (allW z (kM z) (sn z)))), (6, .int (nI (sn z))), (5, .int (nI (sL z))), (4, .int x), (3, .int (nI tt)), (2, .ref (b 0)), (1, .ref (ad 0)), (0, .ref (gB g))]) hx hb dL_law_903 hl (by decide) rfl (fun ls hl => ?_)
                                                              refine lv_aload_n hx hb dL_law_905 rfl (lv_at hl 15 rfl) ?_
                                                              refine lv_iload hx hb dL_law_906 (lv_at hl 0 rfl) ?_
                                                              refine lv_iconst (v := nI 1) hx hb dL_law_908 (by decide) ?_
                                                              refine q_roV (As := [.int (nI k9), .int (nI 1)]) (rest := []) ⟨hx, hb, hml, hown, hts⟩ (k_about1 hI hk9) (cwV 2 hts gL_law_X3_about rfl rfl rfl (by decide +kernel) ⟨Nat.le_of_ble_eq_true rfl, Nat.le_of_ble_eq_true rfl⟩) hE (fun q h => hA q (Nat.le_trans hS.1 h)) (q_snd hP) (va_recv hE.K (q_snd hP) (ci := 4) (q0 := 0) rfl rfl) rfl hl.1 rfl (Nat.le_of_ble_eq_true rfl) dL_law_909 ⟨by show _ ≤ 1200130; omega, by show _ ≤ 5501080; omega⟩ ?_
                                                              refine lv_istore (lv' := [(22, .int (nI (ssr z k9))), (21, .int (nI k9)), (20, .int ((advS z s1 (sL z)).1)), (19, .int (nI s1)), (18, .int (nI b1)), (17, .int (nI a1)), (15, .long (dgA z (kM z))), (13, .long (sumJ (fun k => (nI (sL z)).toInt64 * (kM z (fm + k)).toInt64 * (kM z (fm + k)).toInt64) (sL z) - sumJ (fun c => (hearF (sL z) (kM z) c fm).toInt64 * (hearF (sL z) (kM z) c fm).toInt64) (sL z))), (12, .int (nI fm)), (10, .int (nI (endA z (sn z)))), (9, .int (nI (allW z (kM z) (sn z)))), (6, .int (nI (sn z))), (5, .int (nI (sL z))), (4, .int x), (3, .int (nI tt)), (2, .ref (b 0)), (1, .ref (ad 0)), (0, .ref (gB g))]) hx hb dL_law_912 hl (by decide) rfl (fun ls hl => ?_)
                                                              refine lv_aload_n hx hb dL_law_914 rfl (lv_at hl 16 rfl) ?_
                                                              refine lv_iload hx hb dL_law_915 (lv_at hl 1 rfl) ?_
                                                              refine q_wrV (wr := wS g b z) (As := [.int (nI k9)]) (rest := []) ⟨hx, hb, hml, hown, hts⟩ (k_tune hI hk9) (cwV 1 hts gL_law_X3_tune rfl rfl rfl (by decide +kernel) ⟨Nat.le_of_ble_eq_true rfl, Nat.le_of_ble_eq_true rfl⟩) hE hP hD hS hA (va_recv hE.K (q_snd hP) (ci := 4) (q0 := 0) rfl rfl) rfl hl.1 rfl (Nat.le_of_ble_eq_true rfl) dL_law_917 ⟨by show _ ≤ 1200130; omega, by show _ ≤ 5501080; omega⟩ (fun _u H locs hP hD hS hE => ?_)
                                                              have hP : va_P g.1 vwCl (wS g b z ++ wC g ad mc M sig z) H := hP
                                                              have hD : va_D (q_n s.heap) (wS g b z ++ wC g ad mc M sig z) := hD
                                                              refine lv_istore (lv' := [(23, .int (nI (tuS (wwM z k9) 8))), (22, .int (nI (ssr z k9))), (21, .int (nI k9)), (20, .int ((advS z s1 (sL z)).1)), (19, .int (nI s1)), (18, .int (nI b1)), (17, .int (nI a1)), (15, .long (dgA z (kM z))), (13, .long (sumJ (fun k => (nI (sL z)).toInt64 * (kM z (fm + k)).toInt64 * (kM z (fm + k)).toInt64) (sL z) - sumJ (fun c => (hearF (sL z) (kM z) c fm).toInt64 * (hearF (sL z) (kM z) c fm).toInt64) (sL z))), (12, .int (nI fm)), (10, .int (nI (endA z (sn z)))), (9, .int (nI (allW z (kM z) (sn z)))), (6, .int (nI (sn z))), (5, .int (nI (sL z))), (4, .int x), (3, .int (nI tt)), (2, .ref (b 0)), (1, .ref (ad 0)), (0, .ref (gB g))]) hx hb dL_law_920 hl (by decide) rfl (fun ls hl => ?_)
                                                              refine lv_aload_n hx hb dL_law_922 rfl (lv_at hl 17 rfl) ?_
                                                              refine lv_iload hx hb dL_law_923 (lv_at hl 2 rfl) ?_
                                                              refine lv_iload hx hb dL_law_925 (lv_at hl 1 rfl) ?_
                                                              refine q_wrV (wr := wS g b z) (As := [.int (nI k9), .int (nI (ssr z k9))]) (rest := []) ⟨hx, hb, hml, hown, hts⟩ (k_would hI hk9 hs9.1 hs9.2) (cwV 2 hts gL_law_X3_would rfl rfl rfl (by decide +kernel) ⟨Nat.le_of_ble_eq_true rfl, Nat.le_of_ble_eq_true rfl⟩) hE hP hD hS hA (va_recv hE.K (q_snd hP) (ci := 4) (q0 := 0) rfl rfl) rfl hl.1 rfl (Nat.le_of_ble_eq_true rfl) dL_law_927 ⟨by show _ ≤ 1200130; omega, by show _ ≤ 5501080; omega⟩ (fun _u H locs hP hD hS hE => ?_)
                                                              have hP : va_P g.1 vwCl (wS g b z ++ wC g ad mc M sig z) H := hP
                                                              have hD : va_D (q_n s.heap) (wS g b z ++ wC g ad mc M sig z) := hD
                                                              refine lv_iload hx hb dL_law_930 (lv_at hl 11 rfl) ?_
                                                              refine lv_icmp_ne (tgt := 961) hx hb dL_law_932 (by decide) (fun c_27 => ?_) (fun c_27 => ?_)
                                                              · exact absurd (congrArg nI wwM_own) c_27
                                                              · refine lv_aload_n hx hb dL_law_935 rfl (lv_at hl 17 rfl) ?_
                                                                refine lv_iload hx hb dL_law_936 (lv_at hl 2 rfl) ?_
                                                                refine lv_iload hx hb dL_law_938 (lv_at hl 0 rfl) ?_
                                                                refine q_wrV (wr := wS g b z) (As := [.int (nI k9), .int (nI (tuS (wwM z k9) 8))]) (rest := []) ⟨hx, hb, hml, hown, hts⟩ (k_would hI hk9 ht9.1 (by omega)) (cwV 2 hts gL_law_X3_would rfl rfl rfl (by decide +kernel) ⟨Nat.le_of_ble_eq_true rfl, Nat.le_of_ble_eq_true rfl⟩) hE hP hD hS hA (va_recv hE.K (q_snd hP) (ci := 4) (q0 := 0) rfl rfl) rfl hl.1 rfl (Nat.le_of_ble_eq_true rfl) dL_law_940 ⟨by show _ ≤ 1200130; omega, by show _ ≤ 5501080; omega⟩ (fun _u H locs hP hD hS hE => ?_)
                                                                have hP : va_P g.1 vwCl (wS g b z ++ wC g ad mc M sig z) H := hP
                                                                have hD : va_D (q_n s.heap) (wS g b z ++ wC g ad mc M sig z) := hD
                                                                refine lv_iload hx hb dL_law_943 (lv_at hl 11 rfl) ?_
                                                                refine q_icmp_gt (tgt := 961) hx hb (by have := wwM_lt (k := k9) (s_ := tuS (wwM z k9) 8) hV; omega) (by omega) dL_law_945 (by decide) (fun c_28 => ?_) (fun c_28 => ?_)
                                                                · exact absurd (wwM_tu hV hk9) (by omega)
                                                                · refine lv_iload hx hb dL_law_948 (lv_at hl 0 rfl) ?_
                                                                  refine lv_iconst (v := nI 1) hx hb dL_law_950 (by decide) ?_
                                                                  refine q_icmp_lt (tgt := 961) hx hb (by omega) (by omega) dL_law_951 (by decide) (fun c_29 => ?_) (fun c_29 => ?_)
                                                                  · exact absurd ht9.1 (by omega)
                                                                  · refine lv_iload hx hb dL_law_954 (lv_at hl 0 rfl) ?_
                                                                    refine lv_bipush (v := nI 9) hx hb dL_law_956 (by decide) ?_
                                                                    refine q_icmp_le (tgt := 963) hx hb (by omega) (by omega) dL_law_958 (by decide) (fun c_30 => ?_) (fun c_30 => ?_)
                                                                    · refine lv_aload_n hx hb dL_law_963 rfl (lv_at hl 17 rfl) ?_
                                                                      refine q_roV (As := []) (rest := []) ⟨hx, hb, hml, hown, hts⟩ (k_digest hI) (cwV 0 hts gL_law_X3_digest rfl rfl rfl (by decide +kernel) ⟨Nat.le_of_ble_eq_true rfl, Nat.le_of_ble_eq_true rfl⟩) hE (fun q h => hA q (Nat.le_trans hS.1 h)) (q_snd hP) (va_recv hE.K (q_snd hP) (ci := 4) (q0 := 0) rfl rfl) rfl hl.1 rfl (Nat.le_of_ble_eq_true rfl) dL_law_964 ⟨by show _ ≤ 1200130; omega, by show _ ≤ 5501080; omega⟩ ?_
                                                                      refine lv_lload hx hb dL_law_967 (lv_at hl 7 rfl) ?_
                                                                      refine W.lcmp hx hb dL_law_969 ?_
                                                                      refine lv_if_eq (tgt := 975) hx hb dL_law_970 (by decide) (fun c_31 => ?_) (fun c_31 => ?_)
                                                                      · exact kk _ _ _ hP hD hS hE (lv_sub hl [15, 16, 17, 18] rfl)
                                                                      · exact absurd lg_self c_31
                                                                    · exact absurd ht9.2 (by omega)
                                                          · exact absurd c_n c_25
                                                  · exact absurd (lik_le (a := a1) (b := b1) (s := s1) hL.2) c_12
                                            · refine lv_iload hx hb dL_law_782 (lv_at hl 9 rfl) ?_
                                              refine lv_goto (tgt := 788) hx hb dL_law_784 (by decide) ?_
                                              refine lv_icmp_ne (tgt := 835) hx hb dL_law_788 (by decide) (fun c_32 => ?_) (fun c_32 => ?_)
                                              · exact absurd ((lik_0 _ hV.Lm a1 ha1 b1 hb1).trans (if_pos c_ab)) c_32
                                              · refine lv_aload_n hx hb dL_law_791 rfl (lv_at hl 13 rfl) ?_
                                                refine lv_iload hx hb dL_law_792 (lv_at hl 2 rfl) ?_
                                                refine lv_iload hx hb dL_law_794 (lv_at hl 1 rfl) ?_
                                                refine lv_iload hx hb dL_law_796 (lv_at hl 0 rfl) ?_
                                                refine q_roV (As := [.int (nI a1), .int (nI b1), .int (nI s1)]) (rest := []) ⟨hx, hb, hml, hown, hts⟩ (k_alike hI (a := a1) (b := b1) (s_ := s1) ha1 hb1 hs1) (cwV 3 hts gL_law_X3_alike rfl rfl rfl (by decide +kernel) ⟨Nat.le_of_ble_eq_true rfl, Nat.le_of_ble_eq_true rfl⟩) hE (fun q h => hA q (Nat.le_trans hS.1 h)) (q_snd hP) (va_recv hE.K (q_snd hP) (ci := 4) (q0 := 0) rfl rfl) rfl hl.1 rfl (Nat.le_of_ble_eq_true rfl) dL_law_798 ⟨by show _ ≤ 1200130; omega, by show _ ≤ 5501080; omega⟩ ?_
                                                refine lv_aload_n hx hb dL_law_801 rfl (lv_at hl 13 rfl) ?_
                                                refine lv_iload hx hb dL_law_802 (lv_at hl 2 rfl) ?_
                                                refine lv_iload hx hb dL_law_804 (lv_at hl 1 rfl) ?_
                                                refine lv_aload_n hx hb dL_law_806 rfl (lv_at hl 13 rfl) ?_
                                                refine lv_iload hx hb dL_law_807 (lv_at hl 2 rfl) ?_
                                                refine lv_iload hx hb dL_law_809 (lv_at hl 1 rfl) ?_
                                                refine q_roV (As := [.int (nI a1), .int (nI b1)]) (rest := [.int (nI b1), .int (nI a1), .ref (ad 0), .int (likF (sL z) a1 b1 s1)]) ⟨hx, hb, hml, hown, hts⟩ (k_shift hI (a := a1) (b := b1) ha1 hb1) (cwV 2 hts gL_law_X3_shift rfl rfl rfl (by decide +kernel) ⟨Nat.le_of_ble_eq_true rfl, Nat.le_of_ble_eq_true rfl⟩) hE (fun q h => hA q (Nat.le_trans hS.1 h)) (q_snd hP) (va_recv hE.K (q_snd hP) (ci := 4) (q0 := 0) rfl rfl) rfl hl.1 rfl (Nat.le_of_ble_eq_true rfl) dL_law_811 ⟨by show _ ≤ 1200130; omega, by show _ ≤ 5501080; omega⟩ ?_
                                                refine q_roV (As := [.int (nI a1), .int (nI b1), .int (nI (shB (sL z) a1 b1 (sL z - 1)))]) (rest := [.int (likF (sL z) a1 b1 s1)]) ⟨hx, hb, hml, hown, hts⟩ (k_alike hI (a := a1) (b := b1) (s_ := shB (sL z) a1 b1 (sL z - 1)) ha1 hb1 (by have := sh_in (L := sL z) (a := a1) (b := b1) (sL z - 1); omega)) (cwV 3 hts gL_law_X3_alike rfl rfl rfl (by decide +kernel) ⟨Nat.le_of_ble_eq_true rfl, Nat.le_of_ble_eq_true rfl⟩) hE (fun q h => hA q (Nat.le_trans hS.1 h)) (q_snd hP) (va_recv hE.K (q_snd hP) (ci := 4) (q0 := 0) rfl rfl) rfl hl.1 rfl (Nat.le_of_ble_eq_true rfl) dL_law_814 ⟨by show _ ≤ 1200130; omega, by show _ ≤ 5501080; omega⟩ ?_
                                                refine lv_icmp_gt (tgt := 835) hx hb dL_law_817 (by decide) (fun c_33 => ?_) (fun c_33 => ?_)
                                                · exact absurd (sh_le (L := sL z) (a := a1) (b := b1) (s := s1) (n := sL z - 1) (by omega)) (Int32.not_le.mpr c_33)
                                                · refine lv_aload_n hx hb dL_law_820 rfl (lv_at hl 13 rfl) ?_
                                                  refine lv_iload hx hb dL_law_821 (lv_at hl 2 rfl) ?_
                                                  refine lv_iload hx hb dL_law_823 (lv_at hl 1 rfl) ?_
                                                  refine lv_iload hx hb dL_law_825 (lv_at hl 0 rfl) ?_
                                                  refine q_roV (As := [.int (nI a1), .int (nI b1), .int (nI s1)]) (rest := []) ⟨hx, hb, hml, hown, hts⟩ (k_alike hI (a := a1) (b := b1) (s_ := s1) ha1 hb1 hs1) (cwV 3 hts gL_law_X3_alike rfl rfl rfl (by decide +kernel) ⟨Nat.le_of_ble_eq_true rfl, Nat.le_of_ble_eq_true rfl⟩) hE (fun q h => hA q (Nat.le_trans hS.1 h)) (q_snd hP) (va_recv hE.K (q_snd hP) (ci := 4) (q0 := 0) rfl rfl) rfl hl.1 rfl (Nat.le_of_ble_eq_true rfl) dL_law_827 ⟨by show _ ≤ 1200130; omega, by show _ ≤ 5501080; omega⟩ ?_
                                                  refine lv_iload hx hb dL_law_830 (lv_at hl 9 rfl) ?_
                                                  refine lv_icmp_le (tgt := 837) hx hb dL_law_832 (by decide) (fun c_34 => ?_) (fun c_34 => ?_)
                                                  · refine lv_aload_n hx hb dL_law_837 rfl (lv_at hl 13 rfl) ?_
                                                    refine lv_iload hx hb dL_law_838 (lv_at hl 0 rfl) ?_
                                                    refine q_roV (As := [.int (nI s1)]) (rest := []) ⟨hx, hb, hml, hown, hts⟩ (k_advise hI (b := s1) hs1) (cwV 1 hts gL_law_X3_advise rfl rfl rfl (by decide +kernel) ⟨Nat.le_of_ble_eq_true rfl, Nat.le_of_ble_eq_true rfl⟩) hE (fun q h => hA q (Nat.le_trans hS.1 h)) (q_snd hP) (va_recv hE.K (q_snd hP) (ci := 4) (q0 := 0) rfl rfl) rfl hl.1 rfl (Nat.le_of_ble_eq_true rfl) dL_law_840 ⟨by show _ ≤ 1200130; omega, by show _ ≤ 5501080; omega⟩ ?_
                                                    have hadv := adv_all (z := z) (b := s1) (sL z) (by omega)
                                                    refine lv_istore (lv' := [(20, .int ((advS z s1 (sL z)).1)), (19, .int (nI s1)), (18, .int (nI b1)), (17, .int (nI a1)), (15, .long (dgA z (kM z))), (13, .long (sumJ (fun k => (nI (sL z)).toInt64 * (kM z (fm + k)).toInt64 * (kM z (fm + k)).toInt64) (sL z) - sumJ (fun c => (hearF (sL z) (kM z) c fm).toInt64 * (hearF (sL z) (kM z) c fm).toInt64) (sL z))), (12, .int (nI fm)), (10, .int (nI (endA z (sn z)))), (9, .int (nI (allW z (kM z) (sn z)))), (6, .int (nI (sn z))), (5, .int (nI (sL z))), (4, .int x), (3, .int (nI tt)), (2, .ref (b 0)), (1, .ref (ad 0)), (0, .ref (gB g))]) hx hb dL_law_843 hl (by decide) rfl (fun ls hl => ?_)
                                                    refine lv_iload hx hb dL_law_845 (lv_at hl 0 rfl) ?_
                                                    refine lv_if_ge (tgt := 854) hx hb dL_law_847 (by decide) (fun c_v => ?_) (fun c_v => ?_)
                                                    · have c_n : ¬ (advS z s1 (sL z)).1 < 0 := Int32.not_lt.mpr c_v
                                                      refine lv_iconst (v := nI 0) hx hb dL_law_854 (by decide) ?_
                                                      refine lv_aload_n hx hb dL_law_855 rfl (lv_at hl 14 rfl) ?_
                                                      refine lv_bipush (v := nI 6) hx hb dL_law_856 (by decide) ?_
                                                      refine q_roV (As := [.int (nI 6)]) (rest := [.int (nI 0)]) ⟨hx, hb, hml, hown, hts⟩ (k_count6 hI) (cwV 1 hts gL_law_X3_count rfl rfl rfl (by decide +kernel) ⟨Nat.le_of_ble_eq_true rfl, Nat.le_of_ble_eq_true rfl⟩) hE (fun q h => hA q (Nat.le_trans hS.1 h)) (q_snd hP) (va_recv hE.K (q_snd hP) (ci := 4) (q0 := 0) rfl rfl) rfl hl.1 rfl (Nat.le_of_ble_eq_true rfl) dL_law_858 ⟨by show _ ≤ 1200130; omega, by show _ ≤ 5501080; omega⟩ ?_
                                                      refine q_if_ne (tgt := 868) hx hb (by have := free_le (z := z); omega) dL_law_861 (by decide) (fun c_f => ?_) (fun c_f => ?_)
                                                      · refine lv_iconst (v := nI 0) hx hb dL_law_868 (by decide) ?_
                                                        refine q_icmp_ne (tgt := 886) hx hb (by omega) (by omega) dL_law_869 (by decide) (fun c_35 => ?_) (fun c_35 => ?_)
                                                        · exact absurd rfl c_35
                                                        · refine lv_iload hx hb dL_law_872 (lv_at hl 0 rfl) ?_
                                                          refine lv_if_lt (tgt := 888) hx hb dL_law_874 (by decide) (fun c_36 => ?_) (fun c_36 => ?_)
                                                          · exact absurd c_36 c_n
                                                          · obtain ⟨c9, hc9, ec9, hn9⟩ := hadv.2 c_n
                                                            rw [ec9] at hl
                                                            refine lv_aload_n hx hb dL_law_877 rfl (lv_at hl 13 rfl) ?_
                                                            refine lv_iload hx hb dL_law_878 (lv_at hl 0 rfl) ?_
                                                            refine q_roV (As := [.int (nI c9)]) (rest := []) ⟨hx, hb, hml, hown, hts⟩ (c_X4_isTaken hV (a := c9) (by omega)) (cwV 1 hts gL_law_X4_isTaken rfl rfl rfl (by decide +kernel) ⟨Nat.le_of_ble_eq_true rfl, Nat.le_of_ble_eq_true rfl⟩) hE (fun q h => hA q (Nat.le_trans hS.1 h)) (q_fst hP) (va_recv hE.K hP (ci := 5) (q0 := 0) rfl rfl) rfl hl.1 rfl (Nat.le_of_ble_eq_true rfl) dL_law_880 ⟨by show _ ≤ 1200130; omega, by show _ ≤ 5501080; omega⟩ ?_
                                                            refine q_ifb_eq (tgt := 888) hx hb dL_law_883 (by decide) (fun c_37 => ?_) (fun c_37 => ?_)
                                                            · refine lv_iload hx hb dL_law_888 (lv_at hl 9 rfl) ?_
                                                              refine q_if_le (tgt := 963) hx hb (by omega) dL_law_890 (by decide) (fun c_h => ?_) (fun c_h => ?_)
                                                              · refine lv_aload_n hx hb dL_law_963 rfl (lv_at hl 14 rfl) ?_
                                                                refine q_roV (As := []) (rest := []) ⟨hx, hb, hml, hown, hts⟩ (k_digest hI) (cwV 0 hts gL_law_X3_digest rfl rfl rfl (by decide +kernel) ⟨Nat.le_of_ble_eq_true rfl, Nat.le_of_ble_eq_true rfl⟩) hE (fun q h => hA q (Nat.le_trans hS.1 h)) (q_snd hP) (va_recv hE.K (q_snd hP) (ci := 4) (q0 := 0) rfl rfl) rfl hl.1 rfl (Nat.le_of_ble_eq_true rfl) dL_law_964 ⟨by show _ ≤ 1200130; omega, by show _ ≤ 5501080; omega⟩ ?_
                                                                refine lv_lload hx hb dL_law_967 (lv_at hl 4 rfl) ?_
                                                                refine W.lcmp hx hb dL_law_969 ?_
                                                                refine lv_if_eq (tgt := 975) hx hb dL_law_970 (by decide) (fun c_38 => ?_) (fun c_38 => ?_)
                                                                · exact kk _ _ _ hP hD hS hE (lv_sub hl [12, 13, 14, 15] rfl)
                                                                · exact absurd lg_self c_38
                                                              · refine lv_iload hx hb dL_law_893 (lv_at hl 11 rfl) ?_
                                                                refine lv_bipush (v := nI 6) hx hb dL_law_895 (by decide) ?_
                                                                refine q_ishr (v := sh x 6) hx hb dL_law_897 rfl ?_
                                                                refine lv_iload hx hb dL_law_898 (lv_at hl 9 rfl) ?_
                                                                refine q_roS (As := [.int (sh x 6), .int (nI (sn z))]) (rest := []) ⟨hx, hb, hml, hown, hts⟩ (c_L_below (x := sh x 6) (n := sn z) c_h (by omega)) (va_cwS 2 hts gL_law_L_below rfl rfl rfl (by decide +kernel) ⟨Nat.le_of_ble_eq_true rfl, Nat.le_of_ble_eq_true rfl⟩) hE (fun q h => hA q (Nat.le_trans hS.1 h)) trivial rfl hl.1 rfl (Nat.le_of_ble_eq_true rfl) dL_law_900 ⟨by show _ ≤ 1200130; omega, by show _ ≤ 5501080; omega⟩ ?_
                                                                obtain ⟨k9, hk9, ek9⟩ : ∃ q, q < sn z ∧ bel (sh x 6) (sn z) = q := ⟨_, bel_lt c_h, rfl⟩
                                                                rw [ek9]
                                                                have hs9 := (hV.2.2.1 k9 hk9).2.1
                                                                have ht9 := tuS_in (wwM z k9) 8
                                                                refine lv_istore (lv' := [(21, .int (nI k9)), (20, .int (nI c9)), (19, .int (nI s1)), (18, .int (nI b1)), (17, .int (nI a1)), (15, .long (dgA z (kM z))), (13, .long (sumJ (fun k => (nI (sL z)).toInt64 * (kM z (fm + k)).toInt64 * (kM z (fm + k)).toInt64) (sL z) - sumJ (fun c => (hearF (sL z) (kM z) c fm).toInt64 * (hearF (sL z) (kM z) c fm).toInt64) (sL z))), (12, .int (nI fm)), (10, .int (nI (endA z (sn z)))), (9, .int (nI (allW z (kM z) (sn z)))), (6, .int (nI (sn z))), (5, .int (nI (sL z))), (4, .int x), (3, .int (nI tt)), (2, .ref (b 0)), (1, .ref (ad 0)), (0, .ref (gB g))]) hx hb dL_law_903 hl (by decide) rfl (fun ls hl => ?_)
                                                                refine lv_aload_n hx hb dL_law_905 rfl (lv_at hl 15 rfl) ?_
                                                                refine lv_iload hx hb dL_law_906 (lv_at hl 0 rfl) ?_
                                                                refine lv_iconst (v := nI 1) hx hb dL_law_908 (by decide) ?_
                                                                refine q_roV (As := [.int (nI k9), .int (nI 1)]) (rest := []) ⟨hx, hb, hml, hown, hts⟩ (k_about1 hI hk9) (cwV 2 hts gL_law_X3_about rfl rfl rfl (by decide +kernel) ⟨Nat.le_of_ble_eq_true rfl, Nat.le_of_ble_eq_true rfl⟩) hE (fun q h => hA q (Nat.le_trans hS.1 h)) (q_snd hP) (va_recv hE.K (q_snd hP) (ci := 4) (q0 := 0) rfl rfl) rfl hl.1 rfl (Nat.le_of_ble_eq_true rfl) dL_law_909 ⟨by show _ ≤ 1200130; omega, by show _ ≤ 5501080; omega⟩ ?_
                                                                refine lv_istore (lv' := [(22, .int (nI (ssr z k9))), (21, .int (nI k9)), (20, .int (nI c9)), (19, .int (nI s1)), (18, .int (nI b1)), (17, .int (nI a1)), (15, .long (dgA z (kM z))), (13, .long (sumJ (fun k => (nI (sL z)).toInt64 * (kM z (fm + k)).toInt64 * (kM z (fm + k)).toInt64) (sL z) - sumJ (fun c => (hearF (sL z) (kM z) c fm).toInt64 * (hearF (sL z) (kM z) c fm).toInt64) (sL z))), (12, .int (nI fm)), (10, .int (nI (endA z (sn z)))), (9, .int (nI (allW z (kM z) (sn z)))), (6, .int (nI (sn z))), (5, .int (nI (sL z))), (4, .int x), (3, .int (nI tt)), (2, .ref (b 0)), (1, .ref (ad 0)), (0, .ref (gB g))]) hx hb dL_law_912 hl (by decide) rfl (fun ls hl => ?_)
                                                                refine lv_aload_n hx hb dL_law_914 rfl (lv_at hl 16 rfl) ?_
                                                                refine lv_iload hx hb dL_law_915 (lv_at hl 1 rfl) ?_
                                                                refine q_wrV (wr := wS g b z) (As := [.int (nI k9)]) (rest := []) ⟨hx, hb, hml, hown, hts⟩ (k_tune hI hk9) (cwV 1 hts gL_law_X3_tune rfl rfl rfl (by decide +kernel) ⟨Nat.le_of_ble_eq_true rfl, Nat.le_of_ble_eq_true rfl⟩) hE hP hD hS hA (va_recv hE.K (q_snd hP) (ci := 4) (q0 := 0) rfl rfl) rfl hl.1 rfl (Nat.le_of_ble_eq_true rfl) dL_law_917 ⟨by show _ ≤ 1200130; omega, by show _ ≤ 5501080; omega⟩ (fun _u H locs hP hD hS hE => ?_)
                                                                have hP : va_P g.1 vwCl (wS g b z ++ wC g ad mc M sig z) H := hP
                                                                have hD : va_D (q_n s.heap) (wS g b z ++ wC g ad mc M sig z) := hD
                                                                refine lv_istore (lv' := [(23, .int (nI (tuS (wwM z k9) 8))), (22, .int (nI (ssr z k9))), (21, .int (nI k9)), (20, .int (nI c9)), (19, .int (nI s1)), (18, .int (nI b1)), (17, .int (nI a1)), (15, .long (dgA z (kM z))), (13, .long (sumJ (fun k => (nI (sL z)).toInt64 * (kM z (fm + k)).toInt64 * (kM z (fm + k)).toInt64) (sL z) - sumJ (fun c => (hearF (sL z) (kM z) c fm).toInt64 * (hearF (sL z) (kM z) c fm).toInt64) (sL z))), (12, .int (nI fm)), (10, .int (nI (endA z (sn z)))), (9, .int (nI (allW z (kM z) (sn z)))), (6, .int (nI (sn z))), (5, .int (nI (sL z))), (4, .int x), (3, .int (nI tt)), (2, .ref (b 0)), (1, .ref (ad 0)), (0, .ref (gB g))]) hx hb dL_law_920 hl (by decide) rfl (fun ls hl => ?_)
                                                                refine lv_aload_n hx hb dL_law_922 rfl (lv_at hl 17 rfl) ?_
                                                                refine lv_iload hx hb dL_law_923 (lv_at hl 2 rfl) ?_
                                                                refine lv_iload hx hb dL_law_925 (lv_at hl 1 rfl) ?_
                                                                refine q_wrV (wr := wS g b z) (As := [.int (nI k9), .int (nI (ssr z k9))]) (rest := []) ⟨hx, hb, hml, hown, hts⟩ (k_would hI hk9 hs9.1 hs9.2) (cwV 2 hts gL_law_X3_would rfl rfl rfl (by decide +kernel) ⟨Nat.le_of_ble_eq_true rfl, Nat.le_of_ble_eq_true rfl⟩) hE hP hD hS hA (va_recv hE.K (q_snd hP) (ci := 4) (q0 := 0) rfl rfl) rfl hl.1 rfl (Nat.le_of_ble_eq_true rfl) dL_law_927 ⟨by show _ ≤ 1200130; omega, by show _ ≤ 5501080; omega⟩ (fun _u H locs hP hD hS hE => ?_)
                                                                have hP : va_P g.1 vwCl (wS g b z ++ wC g ad mc M sig z) H := hP
                                                                have hD : va_D (q_n s.heap) (wS g b z ++ wC g ad mc M sig z) := hD
                                                                refine lv_iload hx hb dL_law_930 (lv_at hl 11 rfl) ?_
                                                                refine lv_icmp_ne (tgt := 961) hx hb dL_law_932 (by decide) (fun c_39 => ?_) (fun c_39 => ?_)
                                                                · exact absurd (congrArg nI wwM_own) c_39
                                                                · refine lv_aload_n hx hb dL_law_935 rfl (lv_at hl 17 rfl) ?_
                                                                  refine lv_iload hx hb dL_law_936 (lv_at hl 2 rfl) ?_
                                                                  refine lv_iload hx hb dL_law_938 (lv_at hl 0 rfl) ?_
                                                                  refine q_wrV (wr := wS g b z) (As := [.int (nI k9), .int (nI (tuS (wwM z k9) 8))]) (rest := []) ⟨hx, hb, hml, hown, hts⟩ (k_would hI hk9 ht9.1 (by omega)) (cwV 2 hts gL_law_X3_would rfl rfl rfl (by decide +kernel) ⟨Nat.le_of_ble_eq_true rfl, Nat.le_of_ble_eq_true rfl⟩) hE hP hD hS hA (va_recv hE.K (q_snd hP) (ci := 4) (q0 := 0) rfl rfl) rfl hl.1 rfl (Nat.le_of_ble_eq_true rfl) dL_law_940 ⟨by show _ ≤ 1200130; omega, by show _ ≤ 5501080; omega⟩ (fun _u H locs hP hD hS hE => ?_)
                                                                  have hP : va_P g.1 vwCl (wS g b z ++ wC g ad mc M sig z) H := hP
                                                                  have hD : va_D (q_n s.heap) (wS g b z ++ wC g ad mc M sig z) := hD
                                                                  refine lv_iload hx hb dL_law_943 (lv_at hl 11 rfl) ?_
                                                                  refine q_icmp_gt (tgt := 961) hx hb (by have := wwM_lt (k := k9) (s_ := tuS (wwM z k9) 8) hV; omega) (by omega) dL_law_945 (by decide) (fun c_40 => ?_) (fun c_40 => ?_)
                                                                  · exact absurd (wwM_tu hV hk9) (by omega)
                                                                  · refine lv_iload hx hb dL_law_948 (lv_at hl 0 rfl) ?_
                                                                    refine lv_iconst (v := nI 1) hx hb dL_law_950 (by decide) ?_
                                                                    refine q_icmp_lt (tgt := 961) hx hb (by omega) (by omega) dL_law_951 (by decide) (fun c_41 => ?_) (fun c_41 => ?_)
                                                                    · exact absurd ht9.1 (by omega)
                                                                    · refine lv_iload hx hb dL_law_954 (lv_at hl 0 rfl) ?_
                                                                      refine lv_bipush (v := nI 9) hx hb dL_law_956 (by decide) ?_
                                                                      refine q_icmp_le (tgt := 963) hx hb (by omega) (by omega) dL_law_958 (by decide) (fun c_42 => ?_) (fun c_42 => ?_)
                                                                      · refine lv_aload_n hx hb dL_law_963 rfl (lv_at hl 17 rfl) ?_
                                                                        refine q_roV (As := []) (rest := []) ⟨hx, hb, hml, hown, hts⟩ (k_digest hI) (cwV 0 hts gL_law_X3_digest rfl rfl rfl (by decide +kernel) ⟨Nat.le_of_ble_eq_true rfl, Nat.le_of_ble_eq_true rfl⟩) hE (fun q h => hA q (Nat.le_trans hS.1 h)) (q_snd hP) (va_recv hE.K (q_snd hP) (ci := 4) (q0 := 0) rfl rfl) rfl hl.1 rfl (Nat.le_of_ble_eq_true rfl) dL_law_964 ⟨by show _ ≤ 1200130; omega, by show _ ≤ 5501080; omega⟩ ?_
                                                                        refine lv_lload hx hb dL_law_967 (lv_at hl 7 rfl) ?_
                                                                        refine W.lcmp hx hb dL_law_969 ?_
                                                                        refine lv_if_eq (tgt := 975) hx hb dL_law_970 (by decide) (fun c_43 => ?_) (fun c_43 => ?_)
                                                                        · exact kk _ _ _ hP hD hS hE (lv_sub hl [15, 16, 17, 18] rfl)
                                                                        · exact absurd lg_self c_43
                                                                      · exact absurd ht9.2 (by omega)
                                                            · exact absurd c_37 hn9
                                                      · refine lv_iconst (v := nI 1) hx hb dL_law_864 (by decide) ?_
                                                        refine lv_goto (tgt := 869) hx hb dL_law_865 (by decide) ?_
                                                        refine q_icmp_ne (tgt := 886) hx hb (by omega) (by omega) dL_law_869 (by decide) (fun c_44 => ?_) (fun c_44 => ?_)
                                                        · exact absurd (hadv.1.mpr (show freeN z = 0 by omega)) c_n
                                                        · exact absurd c_44 (by decide)
                                                    · have c_n : (advS z s1 (sL z)).1 < 0 := Int32.not_le.mp c_v
                                                      refine lv_iconst (v := nI 1) hx hb dL_law_850 (by decide) ?_
                                                      refine lv_goto (tgt := 855) hx hb dL_law_851 (by decide) ?_
                                                      refine lv_aload_n hx hb dL_law_855 rfl (lv_at hl 14 rfl) ?_
                                                      refine lv_bipush (v := nI 6) hx hb dL_law_856 (by decide) ?_
                                                      refine q_roV (As := [.int (nI 6)]) (rest := [.int (nI 1)]) ⟨hx, hb, hml, hown, hts⟩ (k_count6 hI) (cwV 1 hts gL_law_X3_count rfl rfl rfl (by decide +kernel) ⟨Nat.le_of_ble_eq_true rfl, Nat.le_of_ble_eq_true rfl⟩) hE (fun q h => hA q (Nat.le_trans hS.1 h)) (q_snd hP) (va_recv hE.K (q_snd hP) (ci := 4) (q0 := 0) rfl rfl) rfl hl.1 rfl (Nat.le_of_ble_eq_true rfl) dL_law_858 ⟨by show _ ≤ 1200130; omega, by show _ ≤ 5501080; omega⟩ ?_
                                                      refine q_if_ne (tgt := 868) hx hb (by have := free_le (z := z); omega) dL_law_861 (by decide) (fun c_f => ?_) (fun c_f => ?_)
                                                      · refine lv_iconst (v := nI 0) hx hb dL_law_868 (by decide) ?_
                                                        refine q_icmp_ne (tgt := 886) hx hb (by omega) (by omega) dL_law_869 (by decide) (fun c_45 => ?_) (fun c_45 => ?_)
                                                        · exact absurd (hadv.1.mp c_n) (show ¬ freeN z = 0 by omega)
                                                        · exact absurd c_45 (by decide)
                                                      · refine lv_iconst (v := nI 1) hx hb dL_law_864 (by decide) ?_
                                                        refine lv_goto (tgt := 869) hx hb dL_law_865 (by decide) ?_
                                                        refine q_icmp_ne (tgt := 886) hx hb (by omega) (by omega) dL_law_869 (by decide) (fun c_46 => ?_) (fun c_46 => ?_)
                                                        · exact absurd rfl c_46
                                                        · refine lv_iload hx hb dL_law_872 (lv_at hl 0 rfl) ?_
                                                          refine lv_if_lt (tgt := 888) hx hb dL_law_874 (by decide) (fun c_47 => ?_) (fun c_47 => ?_)
                                                          · refine lv_iload hx hb dL_law_888 (lv_at hl 9 rfl) ?_
                                                            refine q_if_le (tgt := 963) hx hb (by omega) dL_law_890 (by decide) (fun c_h => ?_) (fun c_h => ?_)
                                                            · refine lv_aload_n hx hb dL_law_963 rfl (lv_at hl 14 rfl) ?_
                                                              refine q_roV (As := []) (rest := []) ⟨hx, hb, hml, hown, hts⟩ (k_digest hI) (cwV 0 hts gL_law_X3_digest rfl rfl rfl (by decide +kernel) ⟨Nat.le_of_ble_eq_true rfl, Nat.le_of_ble_eq_true rfl⟩) hE (fun q h => hA q (Nat.le_trans hS.1 h)) (q_snd hP) (va_recv hE.K (q_snd hP) (ci := 4) (q0 := 0) rfl rfl) rfl hl.1 rfl (Nat.le_of_ble_eq_true rfl) dL_law_964 ⟨by show _ ≤ 1200130; omega, by show _ ≤ 5501080; omega⟩ ?_
                                                              refine lv_lload hx hb dL_law_967 (lv_at hl 4 rfl) ?_
                                                              refine W.lcmp hx hb dL_law_969 ?_
                                                              refine lv_if_eq (tgt := 975) hx hb dL_law_970 (by decide) (fun c_48 => ?_) (fun c_48 => ?_)
                                                              · exact kk _ _ _ hP hD hS hE (lv_sub hl [12, 13, 14, 15] rfl)
                                                              · exact absurd lg_self c_48
                                                            · refine lv_iload hx hb dL_law_893 (lv_at hl 11 rfl) ?_
                                                              refine lv_bipush (v := nI 6) hx hb dL_law_895 (by decide) ?_
                                                              refine q_ishr (v := sh x 6) hx hb dL_law_897 rfl ?_
                                                              refine lv_iload hx hb dL_law_898 (lv_at hl 9 rfl) ?_
                                                              refine q_roS (As := [.int (sh x 6), .int (nI (sn z))]) (rest := []) ⟨hx, hb, hml, hown, hts⟩ (c_L_below (x := sh x 6) (n := sn z) c_h (by omega)) (va_cwS 2 hts gL_law_L_below rfl rfl rfl (by decide +kernel) ⟨Nat.le_of_ble_eq_true rfl, Nat.le_of_ble_eq_true rfl⟩) hE (fun q h => hA q (Nat.le_trans hS.1 h)) trivial rfl hl.1 rfl (Nat.le_of_ble_eq_true rfl) dL_law_900 ⟨by show _ ≤ 1200130; omega, by show _ ≤ 5501080; omega⟩ ?_
                                                              obtain ⟨k9, hk9, ek9⟩ : ∃ q, q < sn z ∧ bel (sh x 6) (sn z) = q := ⟨_, bel_lt c_h, rfl⟩
                                                              rw [ek9]
                                                              have hs9 := (hV.2.2.1 k9 hk9).2.1
                                                              have ht9 := tuS_in (wwM z k9) 8
                                                              refine lv_istore (lv' := [(21, .int (nI k9)), (20, .int ((advS z s1 (sL z)).1)), (19, .int (nI s1)), (18, .int (nI b1)), (17, .int (nI a1)), (15, .long (dgA z (kM z))), (13, .long (sumJ (fun k => (nI (sL z)).toInt64 * (kM z (fm + k)).toInt64 * (kM z (fm + k)).toInt64) (sL z) - sumJ (fun c => (hearF (sL z) (kM z) c fm).toInt64 * (hearF (sL z) (kM z) c fm).toInt64) (sL z))), (12, .int (nI fm)), (10, .int (nI (endA z (sn z)))), (9, .int (nI (allW z (kM z) (sn z)))), (6, .int (nI (sn z))), (5, .int (nI (sL z))), (4, .int x), (3, .int (nI tt)), (2, .ref (b 0)), (1, .ref (ad 0)), (0, .ref (gB g))]) hx hb dL_law_903 hl (by decide) rfl (fun ls hl => ?_)
                                                              refine lv_aload_n hx hb dL_law_905 rfl (lv_at hl 15 rfl) ?_
                                                              refine lv_iload hx hb dL_law_906 (lv_at hl 0 rfl) ?_
                                                              refine lv_iconst (v := nI 1) hx hb dL_law_908 (by decide) ?_
                                                              refine q_roV (As := [.int (nI k9), .int (nI 1)]) (rest := []) ⟨hx, hb, hml, hown, hts⟩ (k_about1 hI hk9) (cwV 2 hts gL_law_X3_about rfl rfl rfl (by decide +kernel) ⟨Nat.le_of_ble_eq_true rfl, Nat.le_of_ble_eq_true rfl⟩) hE (fun q h => hA q (Nat.le_trans hS.1 h)) (q_snd hP) (va_recv hE.K (q_snd hP) (ci := 4) (q0 := 0) rfl rfl) rfl hl.1 rfl (Nat.le_of_ble_eq_true rfl) dL_law_909 ⟨by show _ ≤ 1200130; omega, by show _ ≤ 5501080; omega⟩ ?_
                                                              refine lv_istore (lv' := [(22, .int (nI (ssr z k9))), (21, .int (nI k9)), (20, .int ((advS z s1 (sL z)).1)), (19, .int (nI s1)), (18, .int (nI b1)), (17, .int (nI a1)), (15, .long (dgA z (kM z))), (13, .long (sumJ (fun k => (nI (sL z)).toInt64 * (kM z (fm + k)).toInt64 * (kM z (fm + k)).toInt64) (sL z) - sumJ (fun c => (hearF (sL z) (kM z) c fm).toInt64 * (hearF (sL z) (kM z) c fm).toInt64) (sL z))), (12, .int (nI fm)), (10, .int (nI (endA z (sn z)))), (9, .int (nI (allW z (kM z) (sn z)))), (6, .int (nI (sn z))), (5, .int (nI (sL z))), (4, .int x), (3, .int (nI tt)), (2, .ref (b 0)), (1, .ref (ad 0)), (0, .ref (gB g))]) hx hb dL_law_912 hl (by decide) rfl (fun ls hl => ?_)
                                                              refine lv_aload_n hx hb dL_law_914 rfl (lv_at hl 16 rfl) ?_
                                                              refine lv_iload hx hb dL_law_915 (lv_at hl 1 rfl) ?_
                                                              refine q_wrV (wr := wS g b z) (As := [.int (nI k9)]) (rest := []) ⟨hx, hb, hml, hown, hts⟩ (k_tune hI hk9) (cwV 1 hts gL_law_X3_tune rfl rfl rfl (by decide +kernel) ⟨Nat.le_of_ble_eq_true rfl, Nat.le_of_ble_eq_true rfl⟩) hE hP hD hS hA (va_recv hE.K (q_snd hP) (ci := 4) (q0 := 0) rfl rfl) rfl hl.1 rfl (Nat.le_of_ble_eq_true rfl) dL_law_917 ⟨by show _ ≤ 1200130; omega, by show _ ≤ 5501080; omega⟩ (fun _u H locs hP hD hS hE => ?_)
                                                              have hP : va_P g.1 vwCl (wS g b z ++ wC g ad mc M sig z) H := hP
                                                              have hD : va_D (q_n s.heap) (wS g b z ++ wC g ad mc M sig z) := hD
                                                              refine lv_istore (lv' := [(23, .int (nI (tuS (wwM z k9) 8))), (22, .int (nI (ssr z k9))), (21, .int (nI k9)), (20, .int ((advS z s1 (sL z)).1)), (19, .int (nI s1)), (18, .int (nI b1)), (17, .int (nI a1)), (15, .long (dgA z (kM z))), (13, .long (sumJ (fun k => (nI (sL z)).toInt64 * (kM z (fm + k)).toInt64 * (kM z (fm + k)).toInt64) (sL z) - sumJ (fun c => (hearF (sL z) (kM z) c fm).toInt64 * (hearF (sL z) (kM z) c fm).toInt64) (sL z))), (12, .int (nI fm)), (10, .int (nI (endA z (sn z)))), (9, .int (nI (allW z (kM z) (sn z)))), (6, .int (nI (sn z))), (5, .int (nI (sL z))), (4, .int x), (3, .int (nI tt)), (2, .ref (b 0)), (1, .ref (ad 0)), (0, .ref (gB g))]) hx hb dL_law_920 hl (by decide) rfl (fun ls hl => ?_)
                                                              refine lv_aload_n hx hb dL_law_922 rfl (lv_at hl 17 rfl) ?_
                                                              refine lv_iload hx hb dL_law_923 (lv_at hl 2 rfl) ?_
                                                              refine lv_iload hx hb dL_law_925 (lv_at hl 1 rfl) ?_
                                                              refine q_wrV (wr := wS g b z) (As := [.int (nI k9), .int (nI (ssr z k9))]) (rest := []) ⟨hx, hb, hml, hown, hts⟩ (k_would hI hk9 hs9.1 hs9.2) (cwV 2 hts gL_law_X3_would rfl rfl rfl (by decide +kernel) ⟨Nat.le_of_ble_eq_true rfl, Nat.le_of_ble_eq_true rfl⟩) hE hP hD hS hA (va_recv hE.K (q_snd hP) (ci := 4) (q0 := 0) rfl rfl) rfl hl.1 rfl (Nat.le_of_ble_eq_true rfl) dL_law_927 ⟨by show _ ≤ 1200130; omega, by show _ ≤ 5501080; omega⟩ (fun _u H locs hP hD hS hE => ?_)
                                                              have hP : va_P g.1 vwCl (wS g b z ++ wC g ad mc M sig z) H := hP
                                                              have hD : va_D (q_n s.heap) (wS g b z ++ wC g ad mc M sig z) := hD
                                                              refine lv_iload hx hb dL_law_930 (lv_at hl 11 rfl) ?_
                                                              refine lv_icmp_ne (tgt := 961) hx hb dL_law_932 (by decide) (fun c_49 => ?_) (fun c_49 => ?_)
                                                              · exact absurd (congrArg nI wwM_own) c_49
                                                              · refine lv_aload_n hx hb dL_law_935 rfl (lv_at hl 17 rfl) ?_
                                                                refine lv_iload hx hb dL_law_936 (lv_at hl 2 rfl) ?_
                                                                refine lv_iload hx hb dL_law_938 (lv_at hl 0 rfl) ?_
                                                                refine q_wrV (wr := wS g b z) (As := [.int (nI k9), .int (nI (tuS (wwM z k9) 8))]) (rest := []) ⟨hx, hb, hml, hown, hts⟩ (k_would hI hk9 ht9.1 (by omega)) (cwV 2 hts gL_law_X3_would rfl rfl rfl (by decide +kernel) ⟨Nat.le_of_ble_eq_true rfl, Nat.le_of_ble_eq_true rfl⟩) hE hP hD hS hA (va_recv hE.K (q_snd hP) (ci := 4) (q0 := 0) rfl rfl) rfl hl.1 rfl (Nat.le_of_ble_eq_true rfl) dL_law_940 ⟨by show _ ≤ 1200130; omega, by show _ ≤ 5501080; omega⟩ (fun _u H locs hP hD hS hE => ?_)
                                                                have hP : va_P g.1 vwCl (wS g b z ++ wC g ad mc M sig z) H := hP
                                                                have hD : va_D (q_n s.heap) (wS g b z ++ wC g ad mc M sig z) := hD
                                                                refine lv_iload hx hb dL_law_943 (lv_at hl 11 rfl) ?_
                                                                refine q_icmp_gt (tgt := 961) hx hb (by have := wwM_lt (k := k9) (s_ := tuS (wwM z k9) 8) hV; omega) (by omega) dL_law_945 (by decide) (fun c_50 => ?_) (fun c_50 => ?_)
                                                                · exact absurd (wwM_tu hV hk9) (by omega)
                                                                · refine lv_iload hx hb dL_law_948 (lv_at hl 0 rfl) ?_
                                                                  refine lv_iconst (v := nI 1) hx hb dL_law_950 (by decide) ?_
                                                                  refine q_icmp_lt (tgt := 961) hx hb (by omega) (by omega) dL_law_951 (by decide) (fun c_51 => ?_) (fun c_51 => ?_)
                                                                  · exact absurd ht9.1 (by omega)
                                                                  · refine lv_iload hx hb dL_law_954 (lv_at hl 0 rfl) ?_
                                                                    refine lv_bipush (v := nI 9) hx hb dL_law_956 (by decide) ?_
                                                                    refine q_icmp_le (tgt := 963) hx hb (by omega) (by omega) dL_law_958 (by decide) (fun c_52 => ?_) (fun c_52 => ?_)
                                                                    · refine lv_aload_n hx hb dL_law_963 rfl (lv_at hl 17 rfl) ?_
                                                                      refine q_roV (As := []) (rest := []) ⟨hx, hb, hml, hown, hts⟩ (k_digest hI) (cwV 0 hts gL_law_X3_digest rfl rfl rfl (by decide +kernel) ⟨Nat.le_of_ble_eq_true rfl, Nat.le_of_ble_eq_true rfl⟩) hE (fun q h => hA q (Nat.le_trans hS.1 h)) (q_snd hP) (va_recv hE.K (q_snd hP) (ci := 4) (q0 := 0) rfl rfl) rfl hl.1 rfl (Nat.le_of_ble_eq_true rfl) dL_law_964 ⟨by show _ ≤ 1200130; omega, by show _ ≤ 5501080; omega⟩ ?_
                                                                      refine lv_lload hx hb dL_law_967 (lv_at hl 7 rfl) ?_
                                                                      refine W.lcmp hx hb dL_law_969 ?_
                                                                      refine lv_if_eq (tgt := 975) hx hb dL_law_970 (by decide) (fun c_53 => ?_) (fun c_53 => ?_)
                                                                      · exact kk _ _ _ hP hD hS hE (lv_sub hl [15, 16, 17, 18] rfl)
                                                                      · exact absurd lg_self c_53
                                                                    · exact absurd ht9.2 (by omega)
                                                          · exact absurd c_n c_47
                                                  · exact absurd (lik_le (a := a1) (b := b1) (s := s1) hL.2) c_34
                                        · exact absurd (lg_sq hV) c_8
                                      · refine lv_lload hx hb dL_law_661 (lv_at hl 1 rfl) ?_
                                        refine lv_aload_n hx hb dL_law_663 rfl (lv_at hl 10 rfl) ?_
                                        refine lv_iload hx hb dL_law_664 (lv_at hl 0 rfl) ?_
                                        refine lv_iload hx hb dL_law_666 (lv_at hl 2 rfl) ?_
                                        refine q_roV (As := [.int (nI q), .int (nI fm)]) (rest := [.long (sumJ (fun k => (nI (sL z)).toInt64 * (kM z (fm + k)).toInt64 * (kM z (fm + k)).toInt64) (sL z) - sumJ (fun c => (hearF (sL z) (kM z) c fm).toInt64 * (hearF (sL z) (kM z) c fm).toInt64) q)]) ⟨hx, hb, hml, hown, hts⟩ (k_hear hI (a := q) (t := fm) c_r (by omega)) (cwV 2 hts gL_law_X3_hear rfl rfl rfl (by decide +kernel) ⟨Nat.le_of_ble_eq_true rfl, Nat.le_of_ble_eq_true rfl⟩) hE (fun q h => hA q (Nat.le_trans hS.1 h)) (q_snd hP) (va_recv hE.K (q_snd hP) (ci := 4) (q0 := 0) rfl rfl) rfl hl.1 rfl (Nat.le_of_ble_eq_true rfl) dL_law_668 ⟨by show _ ≤ 1200130; omega, by show _ ≤ 5501080; omega⟩ ?_
                                        refine lv_i2l (v := (hearF (sL z) (kM z) q fm).toInt64) hx hb dL_law_671 rfl ?_
                                        refine lv_aload_n hx hb dL_law_672 rfl (lv_at hl 10 rfl) ?_
                                        refine lv_iload hx hb dL_law_673 (lv_at hl 0 rfl) ?_
                                        refine lv_iload hx hb dL_law_675 (lv_at hl 2 rfl) ?_
                                        refine q_roV (As := [.int (nI q), .int (nI fm)]) (rest := [.long ((hearF (sL z) (kM z) q fm).toInt64), .long (sumJ (fun k => (nI (sL z)).toInt64 * (kM z (fm + k)).toInt64 * (kM z (fm + k)).toInt64) (sL z) - sumJ (fun c => (hearF (sL z) (kM z) c fm).toInt64 * (hearF (sL z) (kM z) c fm).toInt64) q)]) ⟨hx, hb, hml, hown, hts⟩ (k_hear hI (a := q) (t := fm) c_r (by omega)) (cwV 2 hts gL_law_X3_hear rfl rfl rfl (by decide +kernel) ⟨Nat.le_of_ble_eq_true rfl, Nat.le_of_ble_eq_true rfl⟩) hE (fun q h => hA q (Nat.le_trans hS.1 h)) (q_snd hP) (va_recv hE.K (q_snd hP) (ci := 4) (q0 := 0) rfl rfl) rfl hl.1 rfl (Nat.le_of_ble_eq_true rfl) dL_law_677 ⟨by show _ ≤ 1200130; omega, by show _ ≤ 5501080; omega⟩ ?_
                                        refine lv_i2l (v := (hearF (sL z) (kM z) q fm).toInt64) hx hb dL_law_680 rfl ?_
                                        refine q_lmul (v := ((hearF (sL z) (kM z) q fm).toInt64) * ((hearF (sL z) (kM z) q fm).toInt64)) hx hb dL_law_681 rfl ?_
                                        refine q_lsub (v := sumJ (fun k => (nI (sL z)).toInt64 * (kM z (fm + k)).toInt64 * (kM z (fm + k)).toInt64) (sL z) - sumJ (fun c => (hearF (sL z) (kM z) c fm).toInt64 * (hearF (sL z) (kM z) c fm).toInt64) (q + 1)) hx hb dL_law_682 (by show _ = _ - (_ + _); grind) ?_
                                        refine lv_lstore (lv' := [(13, .long (sumJ (fun k => (nI (sL z)).toInt64 * (kM z (fm + k)).toInt64 * (kM z (fm + k)).toInt64) (sL z) - sumJ (fun c => (hearF (sL z) (kM z) c fm).toInt64 * (hearF (sL z) (kM z) c fm).toInt64) (q + 1))), (15, .int (nI q)), (12, .int (nI fm)), (10, .int (nI (endA z (sn z)))), (9, .int (nI (allW z (kM z) (sn z)))), (6, .int (nI (sn z))), (5, .int (nI (sL z))), (4, .int x), (3, .int (nI tt)), (2, .ref (b 0)), (1, .ref (ad 0)), (0, .ref (gB g))]) hx hb dL_law_683 hl (by decide) rfl (fun ls hl => ?_)
                                        refine lv_iinc (v := nI (q + 1)) (lv' := [(15, .int (nI (q + 1))), (13, .long (sumJ (fun k => (nI (sL z)).toInt64 * (kM z (fm + k)).toInt64 * (kM z (fm + k)).toInt64) (sL z) - sumJ (fun c => (hearF (sL z) (kM z) c fm).toInt64 * (hearF (sL z) (kM z) c fm).toInt64) (q + 1))), (12, .int (nI fm)), (10, .int (nI (endA z (sn z)))), (9, .int (nI (allW z (kM z) (sn z)))), (6, .int (nI (sn z))), (5, .int (nI (sL z))), (4, .int x), (3, .int (nI tt)), (2, .ref (b 0)), (1, .ref (ad 0)), (0, .ref (gB g))]) hx hb dL_law_685 hl (k := 1) rfl (nI_1 _) (by decide) rfl (fun ls hl => ?_)
                                        refine lv_goto (tgt := 654) hx hb dL_law_688 (by decide) ?_
                                        exact ih_654 (q + 1)  (by omega) (by omega)  _ _ hP hD hS hE _ (lv_sub hl [0, 1, 2, 3, 4, 5, 6, 7, 8, 9, 10, 11] rfl)
                                  
                                  exact lp_654 (sL z + 1) 0  (Nat.zero_le _) (by omega)  _ _ hP hD hS hE _ (lv_sub hl [0, 1, 2, 3, 4, 5, 6, 7, 8, 9, 10, 11] rfl)
                                · refine lv_lload hx hb dL_law_615 (lv_at hl 1 rfl) ?_
                                  refine lv_iload hx hb dL_law_617 (lv_at hl 6 rfl) ?_
                                  refine lv_i2l (v := (nI (sL z)).toInt64) hx hb dL_law_619 rfl ?_
                                  refine lv_aload_n hx hb dL_law_620 rfl (lv_at hl 10 rfl) ?_
                                  refine lv_iload hx hb dL_law_621 (lv_at hl 2 rfl) ?_
                                  refine lv_iload hx hb dL_law_623 (lv_at hl 0 rfl) ?_
                                  refine q_iadd (v := nI (fm + q)) hx hb dL_law_625 (nI_add _ _) ?_
                                  refine q_roV (As := [.int (nI (fm + q))]) (rest := [.long ((nI (sL z)).toInt64), .long (sumJ (fun k => (nI (sL z)).toInt64 * (kM z (fm + k)).toInt64 * (kM z (fm + k)).toInt64) q)]) ⟨hx, hb, hml, hown, hts⟩ (k_sky hI (t := fm + q) (by omega)) (cwV 1 hts gL_law_X3_sky rfl rfl rfl (by decide +kernel) ⟨Nat.le_of_ble_eq_true rfl, Nat.le_of_ble_eq_true rfl⟩) hE (fun q h => hA q (Nat.le_trans hS.1 h)) (q_snd hP) (va_recv hE.K (q_snd hP) (ci := 4) (q0 := 0) rfl rfl) rfl hl.1 rfl (Nat.le_of_ble_eq_true rfl) dL_law_626 ⟨by show _ ≤ 1200130; omega, by show _ ≤ 5501080; omega⟩ ?_
                                  refine lv_i2l (v := (kM z (fm + q)).toInt64) hx hb dL_law_629 rfl ?_
                                  refine q_lmul (v := ((nI (sL z)).toInt64) * ((kM z (fm + q)).toInt64)) hx hb dL_law_630 rfl ?_
                                  refine lv_aload_n hx hb dL_law_631 rfl (lv_at hl 10 rfl) ?_
                                  refine lv_iload hx hb dL_law_632 (lv_at hl 2 rfl) ?_
                                  refine lv_iload hx hb dL_law_634 (lv_at hl 0 rfl) ?_
                                  refine q_iadd (v := nI (fm + q)) hx hb dL_law_636 (nI_add _ _) ?_
                                  refine q_roV (As := [.int (nI (fm + q))]) (rest := [.long (((nI (sL z)).toInt64) * ((kM z (fm + q)).toInt64)), .long (sumJ (fun k => (nI (sL z)).toInt64 * (kM z (fm + k)).toInt64 * (kM z (fm + k)).toInt64) q)]) ⟨hx, hb, hml, hown, hts⟩ (k_sky hI (t := fm + q) (by omega)) (cwV 1 hts gL_law_X3_sky rfl rfl rfl (by decide +kernel) ⟨Nat.le_of_ble_eq_true rfl, Nat.le_of_ble_eq_true rfl⟩) hE (fun q h => hA q (Nat.le_trans hS.1 h)) (q_snd hP) (va_recv hE.K (q_snd hP) (ci := 4) (q0 := 0) rfl rfl) rfl hl.1 rfl (Nat.le_of_ble_eq_true rfl) dL_law_637 ⟨by show _ ≤ 1200130; omega, by show _ ≤ 5501080; omega⟩ ?_
                                  refine lv_i2l (v := (kM z (fm + q)).toInt64) hx hb dL_law_640 rfl ?_
                                  refine q_lmul (v := (((nI (sL z)).toInt64) * ((kM z (fm + q)).toInt64)) * ((kM z (fm + q)).toInt64)) hx hb dL_law_641 rfl ?_
                                  refine q_ladd (v := sumJ (fun k => (nI (sL z)).toInt64 * (kM z (fm + k)).toInt64 * (kM z (fm + k)).toInt64) (q + 1)) hx hb dL_law_642 rfl ?_
                                  refine lv_lstore (lv' := [(13, .long (sumJ (fun k => (nI (sL z)).toInt64 * (kM z (fm + k)).toInt64 * (kM z (fm + k)).toInt64) (q + 1))), (15, .int (nI q)), (12, .int (nI fm)), (10, .int (nI (endA z (sn z)))), (9, .int (nI (allW z (kM z) (sn z)))), (6, .int (nI (sn z))), (5, .int (nI (sL z))), (4, .int x), (3, .int (nI tt)), (2, .ref (b 0)), (1, .ref (ad 0)), (0, .ref (gB g))]) hx hb dL_law_643 hl (by decide) rfl (fun ls hl => ?_)
                                  refine lv_iinc (v := nI (q + 1)) (lv' := [(15, .int (nI (q + 1))), (13, .long (sumJ (fun k => (nI (sL z)).toInt64 * (kM z (fm + k)).toInt64 * (kM z (fm + k)).toInt64) (q + 1))), (12, .int (nI fm)), (10, .int (nI (endA z (sn z)))), (9, .int (nI (allW z (kM z) (sn z)))), (6, .int (nI (sn z))), (5, .int (nI (sL z))), (4, .int x), (3, .int (nI tt)), (2, .ref (b 0)), (1, .ref (ad 0)), (0, .ref (gB g))]) hx hb dL_law_645 hl (k := 1) rfl (nI_1 _) (by decide) rfl (fun ls hl => ?_)
                                  refine lv_goto (tgt := 608) hx hb dL_law_648 (by decide) ?_
                                  exact ih_608 (q + 1)  (by omega) (by omega)  _ _ hP hD hS hE _ (lv_sub hl [0, 1, 2, 3, 4, 5, 6, 7, 8, 9, 10, 11] rfl)
                            
                            exact lp_608 (sL z + 1) 0  (Nat.zero_le _) (by omega)  _ _ hP hD hS hE _ (lv_sub hl [0, 1, 2, 4, 5, 7, 8, 9, 10, 11, 12, 13] rfl)
                          · refine lv_iload hx hb dL_law_589 (lv_at hl 7 rfl) ?_
                            refine lv_iconst (v := nI 3) hx hb dL_law_591 (by decide) ?_
                            refine q_ishr (v := sh x 3) hx hb dL_law_592 rfl ?_
                            refine lv_iload hx hb dL_law_593 (lv_at hl 2 rfl) ?_
                            refine lv_iconst (v := nI 1) hx hb dL_law_595 (by decide) ?_
                            refine q_iadd (v := nI (endA z (sn z) + 1)) hx hb dL_law_596 (nI_add _ _) ?_
                            refine q_roS (As := [.int (sh x 3), .int (nI (endA z (sn z) + 1))]) (rest := []) ⟨hx, hb, hml, hown, hts⟩ (c_L_below (x := sh x 3) (n := endA z (sn z) + 1) (by omega) (by omega)) (va_cwS 2 hts gL_law_L_below rfl rfl rfl (by decide +kernel) ⟨Nat.le_of_ble_eq_true rfl, Nat.le_of_ble_eq_true rfl⟩) hE (fun q h => hA q (Nat.le_trans hS.1 h)) trivial rfl hl.1 rfl (Nat.le_of_ble_eq_true rfl) dL_law_597 ⟨by show _ ≤ 1200130; omega, by show _ ≤ 5501080; omega⟩ ?_
                            obtain ⟨fn, hfn, efn⟩ : ∃ q, q < 900 ∧ bel (sh x 3) (endA z (sn z) + 1) = q := ⟨_, by have := bel_lt (x := sh x 3) (n := endA z (sn z) + 1) (by omega); omega, rfl⟩
                            rw [efn]
                            refine lv_istore (lv' := [(12, .int (nI fn)), (11, .int (hiF (kM z) (endA z (sn z)))), (10, .int (nI (endA z (sn z)))), (9, .int (nI (allW z (kM z) (sn z)))), (7, .int (nI (sumN (ssr z) (sn z)))), (6, .int (nI (sn z))), (5, .int (nI (sL z))), (4, .int x), (3, .int (nI tt)), (2, .ref (b 0)), (1, .ref (ad 0)), (0, .ref (gB g))]) hx hb dL_law_600 hl (by decide) rfl (fun ls hl => ?_)
                            refine lv_lconst (v := 0) hx hb dL_law_602 (by decide) ?_
                            refine lv_lstore (lv' := [(13, .long 0), (12, .int (nI fn)), (11, .int (hiF (kM z) (endA z (sn z)))), (10, .int (nI (endA z (sn z)))), (9, .int (nI (allW z (kM z) (sn z)))), (7, .int (nI (sumN (ssr z) (sn z)))), (6, .int (nI (sn z))), (5, .int (nI (sL z))), (4, .int x), (3, .int (nI tt)), (2, .ref (b 0)), (1, .ref (ad 0)), (0, .ref (gB g))]) hx hb dL_law_603 hl (by decide) rfl (fun ls hl => ?_)
                            refine lv_iconst (v := nI 0) hx hb dL_law_605 (by decide) ?_
                            refine lv_istore (lv' := [(15, .int (nI 0)), (13, .long 0), (12, .int (nI fn)), (11, .int (hiF (kM z) (endA z (sn z)))), (10, .int (nI (endA z (sn z)))), (9, .int (nI (allW z (kM z) (sn z)))), (7, .int (nI (sumN (ssr z) (sn z)))), (6, .int (nI (sn z))), (5, .int (nI (sL z))), (4, .int x), (3, .int (nI tt)), (2, .ref (b 0)), (1, .ref (ad 0)), (0, .ref (gB g))]) hx hb dL_law_606 hl (by decide) rfl (fun ls hl => ?_)
                            have lp_608 : ∀ (n_ q : Nat) , q ≤ sL z → sL z + 1 ≤ q + n_ → ∀ (H : Heap) (locs : List Loc), va_P g.1 vwCl (wS g b z ++ wC g ad mc M sig z) H → va_D (q_n s.heap) (wS g b z ++ wC g ad mc M sig z) → va_S (q_n s.heap) s.heap H locs → Ev g (q_n s.heap) s H → ∀ (ls : Array Slot), lv_has ls 24 [(15, .int (nI q)), (13, .long (sumJ (fun k => (nI (sL z)).toInt64 * (kM z (fn + k)).toInt64 * (kM z (fn + k)).toInt64) q)), (12, .int (nI fn)), (10, .int (nI (endA z (sn z)))), (9, .int (nI (allW z (kM z) (sn z)))), (6, .int (nI (sn z))), (5, .int (nI (sL z))), (4, .int x), (3, .int (nI tt)), (2, .ref (b 0)), (1, .ref (ad 0)), (0, .ref (gB g))] → W p l e room_1 s m #[Value.ref (gB g)] below meth c H locs cells slots (Q) (F0 m 608 ls []) := by
                              intro n_
                              induction n_ with
                              | zero => intro q  hi_ hn_; exact absurd hn_ (by omega)
                              | succ n_ ih_608 =>
                                intro q  hi_q hn_q  H locs hP hD hS hE ls hl
                                refine lv_iload hx hb dL_law_608 (lv_at hl 0 rfl) ?_
                                refine lv_iload hx hb dL_law_610 (lv_at hl 6 rfl) ?_
                                refine q_icmp_ge (tgt := 651) hx hb (by omega) (by omega) dL_law_612 (by decide) (fun c_q => ?_) (fun c_q => ?_)
                                · have eq_ : q = sL z := by omega
                                  have e0 : sumJ (fun k => (nI (sL z)).toInt64 * (kM z (fn + k)).toInt64 * (kM z (fn + k)).toInt64) (sL z) = sumJ (fun k => (nI (sL z)).toInt64 * (kM z (fn + k)).toInt64 * (kM z (fn + k)).toInt64) (sL z) - sumJ (fun c => (hearF (sL z) (kM z) c fn).toInt64 * (hearF (sL z) (kM z) c fn).toInt64) 0 := by show _ = _ - (0 : Int64); grind
                                  rw [eq_, e0] at hl
                                  refine lv_iconst (v := nI 0) hx hb dL_law_651 (by decide) ?_
                                  refine lv_istore (lv' := [(15, .int (nI 0)), (13, .long (sumJ (fun k => (nI (sL z)).toInt64 * (kM z (fn + k)).toInt64 * (kM z (fn + k)).toInt64) (sL z) - sumJ (fun c => (hearF (sL z) (kM z) c fn).toInt64 * (hearF (sL z) (kM z) c fn).toInt64) 0)), (12, .int (nI fn)), (10, .int (nI (endA z (sn z)))), (9, .int (nI (allW z (kM z) (sn z)))), (6, .int (nI (sn z))), (5, .int (nI (sL z))), (4, .int x), (3, .int (nI tt)), (2, .ref (b 0)), (1, .ref (ad 0)), (0, .ref (gB g))]) hx hb dL_law_652 hl (by decide) rfl (fun ls hl => ?_)
                                  have lp_654 : ∀ (n_ q : Nat) , q ≤ sL z → sL z + 1 ≤ q + n_ → ∀ (H : Heap) (locs : List Loc), va_P g.1 vwCl (wS g b z ++ wC g ad mc M sig z) H → va_D (q_n s.heap) (wS g b z ++ wC g ad mc M sig z) → va_S (q_n s.heap) s.heap H locs → Ev g (q_n s.heap) s H → ∀ (ls : Array Slot), lv_has ls 24 [(15, .int (nI q)), (13, .long (sumJ (fun k => (nI (sL z)).toInt64 * (kM z (fn + k)).toInt64 * (kM z (fn + k)).toInt64) (sL z) - sumJ (fun c => (hearF (sL z) (kM z) c fn).toInt64 * (hearF (sL z) (kM z) c fn).toInt64) q)), (12, .int (nI fn)), (10, .int (nI (endA z (sn z)))), (9, .int (nI (allW z (kM z) (sn z)))), (6, .int (nI (sn z))), (5, .int (nI (sL z))), (4, .int x), (3, .int (nI tt)), (2, .ref (b 0)), (1, .ref (ad 0)), (0, .ref (gB g))] → W p l e room_1 s m #[Value.ref (gB g)] below meth c H locs cells slots (Q) (F0 m 654 ls []) := by
                                    intro n_
                                    induction n_ with
                                    | zero => intro q  hi_ hn_; exact absurd hn_ (by omega)
                                    | succ n_ ih_654 =>
                                      intro q  hi_q hn_q  H locs hP hD hS hE ls hl
                                      refine lv_iload hx hb dL_law_654 (lv_at hl 0 rfl) ?_
                                      refine lv_iload hx hb dL_law_656 (lv_at hl 6 rfl) ?_
                                      refine q_icmp_ge (tgt := 691) hx hb (by omega) (by omega) dL_law_658 (by decide) (fun c_r => ?_) (fun c_r => ?_)
                                      · have er : q = sL z := by omega
                                        rw [er] at hl
                                        refine lv_lload hx hb dL_law_691 (lv_at hl 1 rfl) ?_
                                        refine lv_lconst (v := 0) hx hb dL_law_693 (by decide) ?_
                                        refine W.lcmp hx hb dL_law_694 ?_
                                        refine lv_if_eq (tgt := 700) hx hb dL_law_695 (by decide) (fun c_54 => ?_) (fun c_54 => ?_)
                                        · refine lv_aload_n hx hb dL_law_700 rfl (lv_at hl 10 rfl) ?_
                                          refine q_roV (As := []) (rest := []) ⟨hx, hb, hml, hown, hts⟩ (k_digest hI) (cwV 0 hts gL_law_X3_digest rfl rfl rfl (by decide +kernel) ⟨Nat.le_of_ble_eq_true rfl, Nat.le_of_ble_eq_true rfl⟩) hE (fun q h => hA q (Nat.le_trans hS.1 h)) (q_snd hP) (va_recv hE.K (q_snd hP) (ci := 4) (q0 := 0) rfl rfl) rfl hl.1 rfl (Nat.le_of_ble_eq_true rfl) dL_law_701 ⟨by show _ ≤ 1200130; omega, by show _ ≤ 5501080; omega⟩ ?_
                                          refine lv_lstore (lv' := [(15, .long (dgA z (kM z))), (13, .long (sumJ (fun k => (nI (sL z)).toInt64 * (kM z (fn + k)).toInt64 * (kM z (fn + k)).toInt64) (sL z) - sumJ (fun c => (hearF (sL z) (kM z) c fn).toInt64 * (hearF (sL z) (kM z) c fn).toInt64) (sL z))), (12, .int (nI fn)), (10, .int (nI (endA z (sn z)))), (9, .int (nI (allW z (kM z) (sn z)))), (6, .int (nI (sn z))), (5, .int (nI (sL z))), (4, .int x), (3, .int (nI tt)), (2, .ref (b 0)), (1, .ref (ad 0)), (0, .ref (gB g))]) hx hb dL_law_704 hl (by decide) rfl (fun ls hl => ?_)
                                          refine lv_iload hx hb dL_law_706 (lv_at hl 7 rfl) ?_
                                          refine lv_iload hx hb dL_law_708 (lv_at hl 6 rfl) ?_
                                          refine q_roS (As := [.int x, .int (nI (sL z))]) (rest := []) ⟨hx, hb, hml, hown, hts⟩ (c_L_below (x := x) (n := sL z) (by omega) (by omega)) (va_cwS 2 hts gL_law_L_below rfl rfl rfl (by decide +kernel) ⟨Nat.le_of_ble_eq_true rfl, Nat.le_of_ble_eq_true rfl⟩) hE (fun q h => hA q (Nat.le_trans hS.1 h)) trivial rfl hl.1 rfl (Nat.le_of_ble_eq_true rfl) dL_law_710 ⟨by show _ ≤ 1200130; omega, by show _ ≤ 5501080; omega⟩ ?_
                                          obtain ⟨a1, ha1, ea1⟩ : ∃ q, q < sL z ∧ bel x (sL z) = q := ⟨_, bel_lt (by omega), rfl⟩
                                          rw [ea1]
                                          refine lv_istore (lv' := [(17, .int (nI a1)), (15, .long (dgA z (kM z))), (13, .long (sumJ (fun k => (nI (sL z)).toInt64 * (kM z (fn + k)).toInt64 * (kM z (fn + k)).toInt64) (sL z) - sumJ (fun c => (hearF (sL z) (kM z) c fn).toInt64 * (hearF (sL z) (kM z) c fn).toInt64) (sL z))), (12, .int (nI fn)), (10, .int (nI (endA z (sn z)))), (9, .int (nI (allW z (kM z) (sn z)))), (6, .int (nI (sn z))), (5, .int (nI (sL z))), (4, .int x), (3, .int (nI tt)), (2, .ref (b 0)), (1, .ref (ad 0)), (0, .ref (gB g))]) hx hb dL_law_713 hl (by decide) rfl (fun ls hl => ?_)
                                          refine lv_iload hx hb dL_law_715 (lv_at hl 8 rfl) ?_
                                          refine lv_iconst (v := nI 4) hx hb dL_law_717 (by decide) ?_
                                          refine q_ishr (v := sh x 4) hx hb dL_law_718 rfl ?_
                                          refine lv_iload hx hb dL_law_719 (lv_at hl 7 rfl) ?_
                                          refine q_roS (As := [.int (sh x 4), .int (nI (sL z))]) (rest := []) ⟨hx, hb, hml, hown, hts⟩ (c_L_below (x := sh x 4) (n := sL z) (by omega) (by omega)) (va_cwS 2 hts gL_law_L_below rfl rfl rfl (by decide +kernel) ⟨Nat.le_of_ble_eq_true rfl, Nat.le_of_ble_eq_true rfl⟩) hE (fun q h => hA q (Nat.le_trans hS.1 h)) trivial rfl hl.1 rfl (Nat.le_of_ble_eq_true rfl) dL_law_721 ⟨by show _ ≤ 1200130; omega, by show _ ≤ 5501080; omega⟩ ?_
                                          obtain ⟨b1, hb1, eb1⟩ : ∃ q, q < sL z ∧ bel (sh x 4) (sL z) = q := ⟨_, bel_lt (by omega), rfl⟩
                                          rw [eb1]
                                          refine lv_istore (lv' := [(18, .int (nI b1)), (17, .int (nI a1)), (15, .long (dgA z (kM z))), (13, .long (sumJ (fun k => (nI (sL z)).toInt64 * (kM z (fn + k)).toInt64 * (kM z (fn + k)).toInt64) (sL z) - sumJ (fun c => (hearF (sL z) (kM z) c fn).toInt64 * (hearF (sL z) (kM z) c fn).toInt64) (sL z))), (12, .int (nI fn)), (10, .int (nI (endA z (sn z)))), (9, .int (nI (allW z (kM z) (sn z)))), (6, .int (nI (sn z))), (5, .int (nI (sL z))), (4, .int x), (3, .int (nI tt)), (2, .ref (b 0)), (1, .ref (ad 0)), (0, .ref (gB g))]) hx hb dL_law_724 hl (by decide) rfl (fun ls hl => ?_)
                                          refine lv_iload hx hb dL_law_726 (lv_at hl 9 rfl) ?_
                                          refine lv_iconst (v := nI 2) hx hb dL_law_728 (by decide) ?_
                                          refine q_ishr (v := sh x 2) hx hb dL_law_729 rfl ?_
                                          refine lv_iload hx hb dL_law_730 (lv_at hl 8 rfl) ?_
                                          refine q_roS (As := [.int (sh x 2), .int (nI (sL z))]) (rest := []) ⟨hx, hb, hml, hown, hts⟩ (c_L_below (x := sh x 2) (n := sL z) (by omega) (by omega)) (va_cwS 2 hts gL_law_L_below rfl rfl rfl (by decide +kernel) ⟨Nat.le_of_ble_eq_true rfl, Nat.le_of_ble_eq_true rfl⟩) hE (fun q h => hA q (Nat.le_trans hS.1 h)) trivial rfl hl.1 rfl (Nat.le_of_ble_eq_true rfl) dL_law_732 ⟨by show _ ≤ 1200130; omega, by show _ ≤ 5501080; omega⟩ ?_
                                          obtain ⟨s1, hs1, es1⟩ : ∃ q, q < sL z ∧ bel (sh x 2) (sL z) = q := ⟨_, bel_lt (by omega), rfl⟩
                                          rw [es1]
                                          refine lv_istore (lv' := [(19, .int (nI s1)), (18, .int (nI b1)), (17, .int (nI a1)), (15, .long (dgA z (kM z))), (13, .long (sumJ (fun k => (nI (sL z)).toInt64 * (kM z (fn + k)).toInt64 * (kM z (fn + k)).toInt64) (sL z) - sumJ (fun c => (hearF (sL z) (kM z) c fn).toInt64 * (hearF (sL z) (kM z) c fn).toInt64) (sL z))), (12, .int (nI fn)), (10, .int (nI (endA z (sn z)))), (9, .int (nI (allW z (kM z) (sn z)))), (6, .int (nI (sn z))), (5, .int (nI (sL z))), (4, .int x), (3, .int (nI tt)), (2, .ref (b 0)), (1, .ref (ad 0)), (0, .ref (gB g))]) hx hb dL_law_735 hl (by decide) rfl (fun ls hl => ?_)
                                          refine lv_aload_n hx hb dL_law_737 rfl (lv_at hl 13 rfl) ?_
                                          refine lv_iload hx hb dL_law_738 (lv_at hl 2 rfl) ?_
                                          refine lv_iload hx hb dL_law_740 (lv_at hl 1 rfl) ?_
                                          refine lv_iload hx hb dL_law_742 (lv_at hl 0 rfl) ?_
                                          refine q_roV (As := [.int (nI a1), .int (nI b1), .int (nI s1)]) (rest := []) ⟨hx, hb, hml, hown, hts⟩ (k_alike hI (a := a1) (b := b1) (s_ := s1) ha1 hb1 hs1) (cwV 3 hts gL_law_X3_alike rfl rfl rfl (by decide +kernel) ⟨Nat.le_of_ble_eq_true rfl, Nat.le_of_ble_eq_true rfl⟩) hE (fun q h => hA q (Nat.le_trans hS.1 h)) (q_snd hP) (va_recv hE.K (q_snd hP) (ci := 4) (q0 := 0) rfl rfl) rfl hl.1 rfl (Nat.le_of_ble_eq_true rfl) dL_law_744 ⟨by show _ ≤ 1200130; omega, by show _ ≤ 5501080; omega⟩ ?_
                                          refine lv_aload_n hx hb dL_law_747 rfl (lv_at hl 13 rfl) ?_
                                          refine lv_iload hx hb dL_law_748 (lv_at hl 1 rfl) ?_
                                          refine lv_iload hx hb dL_law_750 (lv_at hl 2 rfl) ?_
                                          refine lv_iload hx hb dL_law_752 (lv_at hl 9 rfl) ?_
                                          refine lv_iload hx hb dL_law_754 (lv_at hl 0 rfl) ?_
                                          refine q_isub (v := nI (sL z - s1)) hx hb dL_law_756 (pk_sub (by omega)) ?_
                                          refine lv_iload hx hb dL_law_757 (lv_at hl 9 rfl) ?_
                                          refine q_irem (v := nI ((sL z - s1) % sL z)) hx hb dL_law_759 (q_ne0 (by omega) (by omega)) (q_rem (by omega) (by omega) (by omega)) ?_
                                          refine q_roV (As := [.int (nI b1), .int (nI a1), .int (nI ((sL z - s1) % sL z))]) (rest := [.int (likF (sL z) a1 b1 s1)]) ⟨hx, hb, hml, hown, hts⟩ (k_alike hI (a := b1) (b := a1) (s_ := (sL z - s1) % sL z) hb1 ha1 (Nat.mod_lt _ (by omega))) (cwV 3 hts gL_law_X3_alike rfl rfl rfl (by decide +kernel) ⟨Nat.le_of_ble_eq_true rfl, Nat.le_of_ble_eq_true rfl⟩) hE (fun q h => hA q (Nat.le_trans hS.1 h)) (q_snd hP) (va_recv hE.K (q_snd hP) (ci := 4) (q0 := 0) rfl rfl) rfl hl.1 rfl (Nat.le_of_ble_eq_true rfl) dL_law_760 ⟨by show _ ≤ 1200130; omega, by show _ ≤ 5501080; omega⟩ ?_
                                          refine lv_icmp_ne (tgt := 835) hx hb dL_law_763 (by decide) (fun c_55 => ?_) (fun c_55 => ?_)
                                          · exact absurd (lik_sym hs1) c_55
                                          · refine lv_aload_n hx hb dL_law_766 rfl (lv_at hl 13 rfl) ?_
                                            refine lv_iload hx hb dL_law_767 (lv_at hl 2 rfl) ?_
                                            refine lv_iload hx hb dL_law_769 (lv_at hl 1 rfl) ?_
                                            refine lv_iconst (v := nI 0) hx hb dL_law_771 (by decide) ?_
                                            refine q_roV (As := [.int (nI a1), .int (nI b1), .int (nI 0)]) (rest := []) ⟨hx, hb, hml, hown, hts⟩ (k_alike hI (a := a1) (b := b1) (s_ := 0) ha1 hb1 (by omega)) (cwV 3 hts gL_law_X3_alike rfl rfl rfl (by decide +kernel) ⟨Nat.le_of_ble_eq_true rfl, Nat.le_of_ble_eq_true rfl⟩) hE (fun q h => hA q (Nat.le_trans hS.1 h)) (q_snd hP) (va_recv hE.K (q_snd hP) (ci := 4) (q0 := 0) rfl rfl) rfl hl.1 rfl (Nat.le_of_ble_eq_true rfl) dL_law_772 ⟨by show _ ≤ 1200130; omega, by show _ ≤ 5501080; omega⟩ ?_
                                            refine lv_iload hx hb dL_law_775 (lv_at hl 2 rfl) ?_
                                            refine lv_iload hx hb dL_law_777 (lv_at hl 1 rfl) ?_
                                            refine q_icmp_ne (tgt := 787) hx hb (by omega) (by omega) dL_law_779 (by decide) (fun c_ab => ?_) (fun c_ab => ?_)
                                            · refine lv_iconst (v := nI 0) hx hb dL_law_787 (by decide) ?_
                                              refine lv_icmp_ne (tgt := 835) hx hb dL_law_788 (by decide) (fun c_56 => ?_) (fun c_56 => ?_)
                                              · exact absurd ((lik_0 _ hV.Lm a1 ha1 b1 hb1).trans (if_neg c_ab)) c_56
                                              · refine lv_aload_n hx hb dL_law_791 rfl (lv_at hl 13 rfl) ?_
                                                refine lv_iload hx hb dL_law_792 (lv_at hl 2 rfl) ?_
                                                refine lv_iload hx hb dL_law_794 (lv_at hl 1 rfl) ?_
                                                refine lv_iload hx hb dL_law_796 (lv_at hl 0 rfl) ?_
                                                refine q_roV (As := [.int (nI a1), .int (nI b1), .int (nI s1)]) (rest := []) ⟨hx, hb, hml, hown, hts⟩ (k_alike hI (a := a1) (b := b1) (s_ := s1) ha1 hb1 hs1) (cwV 3 hts gL_law_X3_alike rfl rfl rfl (by decide +kernel) ⟨Nat.le_of_ble_eq_true rfl, Nat.le_of_ble_eq_true rfl⟩) hE (fun q h => hA q (Nat.le_trans hS.1 h)) (q_snd hP) (va_recv hE.K (q_snd hP) (ci := 4) (q0 := 0) rfl rfl) rfl hl.1 rfl (Nat.le_of_ble_eq_true rfl) dL_law_798 ⟨by show _ ≤ 1200130; omega, by show _ ≤ 5501080; omega⟩ ?_
                                                refine lv_aload_n hx hb dL_law_801 rfl (lv_at hl 13 rfl) ?_
                                                refine lv_iload hx hb dL_law_802 (lv_at hl 2 rfl) ?_
                                                refine lv_iload hx hb dL_law_804 (lv_at hl 1 rfl) ?_
                                                refine lv_aload_n hx hb dL_law_806 rfl (lv_at hl 13 rfl) ?_
                                                refine lv_iload hx hb dL_law_807 (lv_at hl 2 rfl) ?_
                                                refine lv_iload hx hb dL_law_809 (lv_at hl 1 rfl) ?_
                                                refine q_roV (As := [.int (nI a1), .int (nI b1)]) (rest := [.int (nI b1), .int (nI a1), .ref (ad 0), .int (likF (sL z) a1 b1 s1)]) ⟨hx, hb, hml, hown, hts⟩ (k_shift hI (a := a1) (b := b1) ha1 hb1) (cwV 2 hts gL_law_X3_shift rfl rfl rfl (by decide +kernel) ⟨Nat.le_of_ble_eq_true rfl, Nat.le_of_ble_eq_true rfl⟩) hE (fun q h => hA q (Nat.le_trans hS.1 h)) (q_snd hP) (va_recv hE.K (q_snd hP) (ci := 4) (q0 := 0) rfl rfl) rfl hl.1 rfl (Nat.le_of_ble_eq_true rfl) dL_law_811 ⟨by show _ ≤ 1200130; omega, by show _ ≤ 5501080; omega⟩ ?_
                                                refine q_roV (As := [.int (nI a1), .int (nI b1), .int (nI (shB (sL z) a1 b1 (sL z - 1)))]) (rest := [.int (likF (sL z) a1 b1 s1)]) ⟨hx, hb, hml, hown, hts⟩ (k_alike hI (a := a1) (b := b1) (s_ := shB (sL z) a1 b1 (sL z - 1)) ha1 hb1 (by have := sh_in (L := sL z) (a := a1) (b := b1) (sL z - 1); omega)) (cwV 3 hts gL_law_X3_alike rfl rfl rfl (by decide +kernel) ⟨Nat.le_of_ble_eq_true rfl, Nat.le_of_ble_eq_true rfl⟩) hE (fun q h => hA q (Nat.le_trans hS.1 h)) (q_snd hP) (va_recv hE.K (q_snd hP) (ci := 4) (q0 := 0) rfl rfl) rfl hl.1 rfl (Nat.le_of_ble_eq_true rfl) dL_law_814 ⟨by show _ ≤ 1200130; omega, by show _ ≤ 5501080; omega⟩ ?_
                                                refine lv_icmp_gt (tgt := 835) hx hb dL_law_817 (by decide) (fun c_57 => ?_) (fun c_57 => ?_)
                                                · exact absurd (sh_le (L := sL z) (a := a1) (b := b1) (s := s1) (n := sL z - 1) (by omega)) (Int32.not_le.mpr c_57)
                                                · refine lv_aload_n hx hb dL_law_820 rfl (lv_at hl 13 rfl) ?_
                                                  refine lv_iload hx hb dL_law_821 (lv_at hl 2 rfl) ?_
                                                  refine lv_iload hx hb dL_law_823 (lv_at hl 1 rfl) ?_
                                                  refine lv_iload hx hb dL_law_825 (lv_at hl 0 rfl) ?_
                                                  refine q_roV (As := [.int (nI a1), .int (nI b1), .int (nI s1)]) (rest := []) ⟨hx, hb, hml, hown, hts⟩ (k_alike hI (a := a1) (b := b1) (s_ := s1) ha1 hb1 hs1) (cwV 3 hts gL_law_X3_alike rfl rfl rfl (by decide +kernel) ⟨Nat.le_of_ble_eq_true rfl, Nat.le_of_ble_eq_true rfl⟩) hE (fun q h => hA q (Nat.le_trans hS.1 h)) (q_snd hP) (va_recv hE.K (q_snd hP) (ci := 4) (q0 := 0) rfl rfl) rfl hl.1 rfl (Nat.le_of_ble_eq_true rfl) dL_law_827 ⟨by show _ ≤ 1200130; omega, by show _ ≤ 5501080; omega⟩ ?_
                                                  refine lv_iload hx hb dL_law_830 (lv_at hl 9 rfl) ?_
                                                  refine lv_icmp_le (tgt := 837) hx hb dL_law_832 (by decide) (fun c_58 => ?_) (fun c_58 => ?_)
                                                  · refine lv_aload_n hx hb dL_law_837 rfl (lv_at hl 13 rfl) ?_
                                                    refine lv_iload hx hb dL_law_838 (lv_at hl 0 rfl) ?_
                                                    refine q_roV (As := [.int (nI s1)]) (rest := []) ⟨hx, hb, hml, hown, hts⟩ (k_advise hI (b := s1) hs1) (cwV 1 hts gL_law_X3_advise rfl rfl rfl (by decide +kernel) ⟨Nat.le_of_ble_eq_true rfl, Nat.le_of_ble_eq_true rfl⟩) hE (fun q h => hA q (Nat.le_trans hS.1 h)) (q_snd hP) (va_recv hE.K (q_snd hP) (ci := 4) (q0 := 0) rfl rfl) rfl hl.1 rfl (Nat.le_of_ble_eq_true rfl) dL_law_840 ⟨by show _ ≤ 1200130; omega, by show _ ≤ 5501080; omega⟩ ?_
                                                    have hadv := adv_all (z := z) (b := s1) (sL z) (by omega)
                                                    refine lv_istore (lv' := [(20, .int ((advS z s1 (sL z)).1)), (19, .int (nI s1)), (18, .int (nI b1)), (17, .int (nI a1)), (15, .long (dgA z (kM z))), (13, .long (sumJ (fun k => (nI (sL z)).toInt64 * (kM z (fn + k)).toInt64 * (kM z (fn + k)).toInt64) (sL z) - sumJ (fun c => (hearF (sL z) (kM z) c fn).toInt64 * (hearF (sL z) (kM z) c fn).toInt64) (sL z))), (12, .int (nI fn)), (10, .int (nI (endA z (sn z)))), (9, .int (nI (allW z (kM z) (sn z)))), (6, .int (nI (sn z))), (5, .int (nI (sL z))), (4, .int x), (3, .int (nI tt)), (2, .ref (b 0)), (1, .ref (ad 0)), (0, .ref (gB g))]) hx hb dL_law_843 hl (by decide) rfl (fun ls hl => ?_)
                                                    refine lv_iload hx hb dL_law_845 (lv_at hl 0 rfl) ?_
                                                    refine lv_if_ge (tgt := 854) hx hb dL_law_847 (by decide) (fun c_v => ?_) (fun c_v => ?_)
                                                    · have c_n : ¬ (advS z s1 (sL z)).1 < 0 := Int32.not_lt.mpr c_v
                                                      refine lv_iconst (v := nI 0) hx hb dL_law_854 (by decide) ?_
                                                      refine lv_aload_n hx hb dL_law_855 rfl (lv_at hl 14 rfl) ?_
                                                      refine lv_bipush (v := nI 6) hx hb dL_law_856 (by decide) ?_
                                                      refine q_roV (As := [.int (nI 6)]) (rest := [.int (nI 0)]) ⟨hx, hb, hml, hown, hts⟩ (k_count6 hI) (cwV 1 hts gL_law_X3_count rfl rfl rfl (by decide +kernel) ⟨Nat.le_of_ble_eq_true rfl, Nat.le_of_ble_eq_true rfl⟩) hE (fun q h => hA q (Nat.le_trans hS.1 h)) (q_snd hP) (va_recv hE.K (q_snd hP) (ci := 4) (q0 := 0) rfl rfl) rfl hl.1 rfl (Nat.le_of_ble_eq_true rfl) dL_law_858 ⟨by show _ ≤ 1200130; omega, by show _ ≤ 5501080; omega⟩ ?_
                                                      refine q_if_ne (tgt := 868) hx hb (by have := free_le (z := z); omega) dL_law_861 (by decide) (fun c_f => ?_) (fun c_f => ?_)
                                                      · refine lv_iconst (v := nI 0) hx hb dL_law_868 (by decide) ?_
                                                        refine q_icmp_ne (tgt := 886) hx hb (by omega) (by omega) dL_law_869 (by decide) (fun c_59 => ?_) (fun c_59 => ?_)
                                                        · exact absurd rfl c_59
                                                        · refine lv_iload hx hb dL_law_872 (lv_at hl 0 rfl) ?_
                                                          refine lv_if_lt (tgt := 888) hx hb dL_law_874 (by decide) (fun c_60 => ?_) (fun c_60 => ?_)
                                                          · exact absurd c_60 c_n
                                                          · obtain ⟨c9, hc9, ec9, hn9⟩ := hadv.2 c_n
                                                            rw [ec9] at hl
                                                            refine lv_aload_n hx hb dL_law_877 rfl (lv_at hl 13 rfl) ?_
                                                            refine lv_iload hx hb dL_law_878 (lv_at hl 0 rfl) ?_
                                                            refine q_roV (As := [.int (nI c9)]) (rest := []) ⟨hx, hb, hml, hown, hts⟩ (c_X4_isTaken hV (a := c9) (by omega)) (cwV 1 hts gL_law_X4_isTaken rfl rfl rfl (by decide +kernel) ⟨Nat.le_of_ble_eq_true rfl, Nat.le_of_ble_eq_true rfl⟩) hE (fun q h => hA q (Nat.le_trans hS.1 h)) (q_fst hP) (va_recv hE.K hP (ci := 5) (q0 := 0) rfl rfl) rfl hl.1 rfl (Nat.le_of_ble_eq_true rfl) dL_law_880 ⟨by show _ ≤ 1200130; omega, by show _ ≤ 5501080; omega⟩ ?_
                                                            refine q_ifb_eq (tgt := 888) hx hb dL_law_883 (by decide) (fun c_61 => ?_) (fun c_61 => ?_)
                                                            · refine lv_iload hx hb dL_law_888 (lv_at hl 9 rfl) ?_
                                                              refine q_if_le (tgt := 963) hx hb (by omega) dL_law_890 (by decide) (fun c_h => ?_) (fun c_h => ?_)
                                                              · refine lv_aload_n hx hb dL_law_963 rfl (lv_at hl 14 rfl) ?_
                                                                refine q_roV (As := []) (rest := []) ⟨hx, hb, hml, hown, hts⟩ (k_digest hI) (cwV 0 hts gL_law_X3_digest rfl rfl rfl (by decide +kernel) ⟨Nat.le_of_ble_eq_true rfl, Nat.le_of_ble_eq_true rfl⟩) hE (fun q h => hA q (Nat.le_trans hS.1 h)) (q_snd hP) (va_recv hE.K (q_snd hP) (ci := 4) (q0 := 0) rfl rfl) rfl hl.1 rfl (Nat.le_of_ble_eq_true rfl) dL_law_964 ⟨by show _ ≤ 1200130; omega, by show _ ≤ 5501080; omega⟩ ?_
                                                                refine lv_lload hx hb dL_law_967 (lv_at hl 4 rfl) ?_
                                                                refine W.lcmp hx hb dL_law_969 ?_
                                                                refine lv_if_eq (tgt := 975) hx hb dL_law_970 (by decide) (fun c_62 => ?_) (fun c_62 => ?_)
                                                                · exact kk _ _ _ hP hD hS hE (lv_sub hl [12, 13, 14, 15] rfl)
                                                                · exact absurd lg_self c_62
                                                              · refine lv_iload hx hb dL_law_893 (lv_at hl 11 rfl) ?_
                                                                refine lv_bipush (v := nI 6) hx hb dL_law_895 (by decide) ?_
                                                                refine q_ishr (v := sh x 6) hx hb dL_law_897 rfl ?_
                                                                refine lv_iload hx hb dL_law_898 (lv_at hl 9 rfl) ?_
                                                                refine q_roS (As := [.int (sh x 6), .int (nI (sn z))]) (rest := []) ⟨hx, hb, hml, hown, hts⟩ (c_L_below (x := sh x 6) (n := sn z) c_h (by omega)) (va_cwS 2 hts gL_law_L_below rfl rfl rfl (by decide +kernel) ⟨Nat.le_of_ble_eq_true rfl, Nat.le_of_ble_eq_true rfl⟩) hE (fun q h => hA q (Nat.le_trans hS.1 h)) trivial rfl hl.1 rfl (Nat.le_of_ble_eq_true rfl) dL_law_900 ⟨by show _ ≤ 1200130; omega, by show _ ≤ 5501080; omega⟩ ?_
                                                                obtain ⟨k9, hk9, ek9⟩ : ∃ q, q < sn z ∧ bel (sh x 6) (sn z) = q := ⟨_, bel_lt c_h, rfl⟩
                                                                rw [ek9]
                                                                have hs9 := (hV.2.2.1 k9 hk9).2.1
                                                                have ht9 := tuS_in (wwM z k9) 8
                                                                refine lv_istore (lv' := [(21, .int (nI k9)), (20, .int (nI c9)), (19, .int (nI s1)), (18, .int (nI b1)), (17, .int (nI a1)), (15, .long (dgA z (kM z))), (13, .long (sumJ (fun k => (nI (sL z)).toInt64 * (kM z (fn + k)).toInt64 * (kM z (fn + k)).toInt64) (sL z) - sumJ (fun c => (hearF (sL z) (kM z) c fn).toInt64 * (hearF (sL z) (kM z) c fn).toInt64) (sL z))), (12, .int (nI fn)), (10, .int (nI (endA z (sn z)))), (9, .int (nI (allW z (kM z) (sn z)))), (6, .int (nI (sn z))), (5, .int (nI (sL z))), (4, .int x), (3, .int (nI tt)), (2, .ref (b 0)), (1, .ref (ad 0)), (0, .ref (gB g))]) hx hb dL_law_903 hl (by decide) rfl (fun ls hl => ?_)
                                                                refine lv_aload_n hx hb dL_law_905 rfl (lv_at hl 15 rfl) ?_
                                                                refine lv_iload hx hb dL_law_906 (lv_at hl 0 rfl) ?_
                                                                refine lv_iconst (v := nI 1) hx hb dL_law_908 (by decide) ?_
                                                                refine q_roV (As := [.int (nI k9), .int (nI 1)]) (rest := []) ⟨hx, hb, hml, hown, hts⟩ (k_about1 hI hk9) (cwV 2 hts gL_law_X3_about rfl rfl rfl (by decide +kernel) ⟨Nat.le_of_ble_eq_true rfl, Nat.le_of_ble_eq_true rfl⟩) hE (fun q h => hA q (Nat.le_trans hS.1 h)) (q_snd hP) (va_recv hE.K (q_snd hP) (ci := 4) (q0 := 0) rfl rfl) rfl hl.1 rfl (Nat.le_of_ble_eq_true rfl) dL_law_909 ⟨by show _ ≤ 1200130; omega, by show _ ≤ 5501080; omega⟩ ?_
                                                                refine lv_istore (lv' := [(22, .int (nI (ssr z k9))), (21, .int (nI k9)), (20, .int (nI c9)), (19, .int (nI s1)), (18, .int (nI b1)), (17, .int (nI a1)), (15, .long (dgA z (kM z))), (13, .long (sumJ (fun k => (nI (sL z)).toInt64 * (kM z (fn + k)).toInt64 * (kM z (fn + k)).toInt64) (sL z) - sumJ (fun c => (hearF (sL z) (kM z) c fn).toInt64 * (hearF (sL z) (kM z) c fn).toInt64) (sL z))), (12, .int (nI fn)), (10, .int (nI (endA z (sn z)))), (9, .int (nI (allW z (kM z) (sn z)))), (6, .int (nI (sn z))), (5, .int (nI (sL z))), (4, .int x), (3, .int (nI tt)), (2, .ref (b 0)), (1, .ref (ad 0)), (0, .ref (gB g))]) hx hb dL_law_912 hl (by decide) rfl (fun ls hl => ?_)
                                                                refine lv_aload_n hx hb dL_law_914 rfl (lv_at hl 16 rfl) ?_
                                                                refine lv_iload hx hb dL_law_915 (lv_at hl 1 rfl) ?_
                                                                refine q_wrV (wr := wS g b z) (As := [.int (nI k9)]) (rest := []) ⟨hx, hb, hml, hown, hts⟩ (k_tune hI hk9) (cwV 1 hts gL_law_X3_tune rfl rfl rfl (by decide +kernel) ⟨Nat.le_of_ble_eq_true rfl, Nat.le_of_ble_eq_true rfl⟩) hE hP hD hS hA (va_recv hE.K (q_snd hP) (ci := 4) (q0 := 0) rfl rfl) rfl hl.1 rfl (Nat.le_of_ble_eq_true rfl) dL_law_917 ⟨by show _ ≤ 1200130; omega, by show _ ≤ 5501080; omega⟩ (fun _u H locs hP hD hS hE => ?_)
                                                                have hP : va_P g.1 vwCl (wS g b z ++ wC g ad mc M sig z) H := hP
                                                                have hD : va_D (q_n s.heap) (wS g b z ++ wC g ad mc M sig z) := hD
                                                                refine lv_istore (lv' := [(23, .int (nI (tuS (wwM z k9) 8))), (22, .int (nI (ssr z k9))), (21, .int (nI k9)), (20, .int (nI c9)), (19, .int (nI s1)), (18, .int (nI b1)), (17, .int (nI a1)), (15, .long (dgA z (kM z))), (13, .long (sumJ (fun k => (nI (sL z)).toInt64 * (kM z (fn + k)).toInt64 * (kM z (fn + k)).toInt64) (sL z) - sumJ (fun c => (hearF (sL z) (kM z) c fn).toInt64 * (hearF (sL z) (kM z) c fn).toInt64) (sL z))), (12, .int (nI fn)), (10, .int (nI (endA z (sn z)))), (9, .int (nI (allW z (kM z) (sn z)))), (6, .int (nI (sn z))), (5, .int (nI (sL z))), (4, .int x), (3, .int (nI tt)), (2, .ref (b 0)), (1, .ref (ad 0)), (0, .ref (gB g))]) hx hb dL_law_920 hl (by decide) rfl (fun ls hl => ?_)
                                                                refine lv_aload_n hx hb dL_law_922 rfl (lv_at hl 17 rfl) ?_
                                                                refine lv_iload hx hb dL_law_923 (lv_at hl 2 rfl) ?_
                                                                refine lv_iload hx hb dL_law_925 (lv_at hl 1 rfl) ?_
                                                                refine q_wrV (wr := wS g b z) (As := [.int (nI k9), .int (nI (ssr z k9))]) (rest := []) ⟨hx, hb, hml, hown, hts⟩ (k_would hI hk9 hs9.1 hs9.2) (cwV 2 hts gL_law_X3_would rfl rfl rfl (by decide +kernel) ⟨Nat.le_of_ble_eq_true rfl, Nat.le_of_ble_eq_true rfl⟩) hE hP hD hS hA (va_recv hE.K (q_snd hP) (ci := 4) (q0 := 0) rfl rfl) rfl hl.1 rfl (Nat.le_of_ble_eq_true rfl) dL_law_927 ⟨by show _ ≤ 1200130; omega, by show _ ≤ 5501080; omega⟩ (fun _u H locs hP hD hS hE => ?_)
                                                                have hP : va_P g.1 vwCl (wS g b z ++ wC g ad mc M sig z) H := hP
                                                                have hD : va_D (q_n s.heap) (wS g b z ++ wC g ad mc M sig z) := hD
                                                                refine lv_iload hx hb dL_law_930 (lv_at hl 11 rfl) ?_
                                                                refine lv_icmp_ne (tgt := 961) hx hb dL_law_932 (by decide) (fun c_63 => ?_) (fun c_63 => ?_)
                                                                · exact absurd (congrArg nI wwM_own) c_63
                                                                · refine lv_aload_n hx hb dL_law_935 rfl (lv_at hl 17 rfl) ?_
                                                                  refine lv_iload hx hb dL_law_936 (lv_at hl 2 rfl) ?_
                                                                  refine lv_iload hx hb dL_law_938 (lv_at hl 0 rfl) ?_
                                                                  refine q_wrV (wr := wS g b z) (As := [.int (nI k9), .int (nI (tuS (wwM z k9) 8))]) (rest := []) ⟨hx, hb, hml, hown, hts⟩ (k_would hI hk9 ht9.1 (by omega)) (cwV 2 hts gL_law_X3_would rfl rfl rfl (by decide +kernel) ⟨Nat.le_of_ble_eq_true rfl, Nat.le_of_ble_eq_true rfl⟩) hE hP hD hS hA (va_recv hE.K (q_snd hP) (ci := 4) (q0 := 0) rfl rfl) rfl hl.1 rfl (Nat.le_of_ble_eq_true rfl) dL_law_940 ⟨by show _ ≤ 1200130; omega, by show _ ≤ 5501080; omega⟩ (fun _u H locs hP hD hS hE => ?_)
                                                                  have hP : va_P g.1 vwCl (wS g b z ++ wC g ad mc M sig z) H := hP
                                                                  have hD : va_D (q_n s.heap) (wS g b z ++ wC g ad mc M sig z) := hD
                                                                  refine lv_iload hx hb dL_law_943 (lv_at hl 11 rfl) ?_
                                                                  refine q_icmp_gt (tgt := 961) hx hb (by have := wwM_lt (k := k9) (s_ := tuS (wwM z k9) 8) hV; omega) (by omega) dL_law_945 (by decide) (fun c_64 => ?_) (fun c_64 => ?_)
                                                                  · exact absurd (wwM_tu hV hk9) (by omega)
                                                                  · refine lv_iload hx hb dL_law_948 (lv_at hl 0 rfl) ?_
                                                                    refine lv_iconst (v := nI 1) hx hb dL_law_950 (by decide) ?_
                                                                    refine q_icmp_lt (tgt := 961) hx hb (by omega) (by omega) dL_law_951 (by decide) (fun c_65 => ?_) (fun c_65 => ?_)
                                                                    · exact absurd ht9.1 (by omega)
                                                                    · refine lv_iload hx hb dL_law_954 (lv_at hl 0 rfl) ?_
                                                                      refine lv_bipush (v := nI 9) hx hb dL_law_956 (by decide) ?_
                                                                      refine q_icmp_le (tgt := 963) hx hb (by omega) (by omega) dL_law_958 (by decide) (fun c_66 => ?_) (fun c_66 => ?_)
                                                                      · refine lv_aload_n hx hb dL_law_963 rfl (lv_at hl 17 rfl) ?_
                                                                        refine q_roV (As := []) (rest := []) ⟨hx, hb, hml, hown, hts⟩ (k_digest hI) (cwV 0 hts gL_law_X3_digest rfl rfl rfl (by decide +kernel) ⟨Nat.le_of_ble_eq_true rfl, Nat.le_of_ble_eq_true rfl⟩) hE (fun q h => hA q (Nat.le_trans hS.1 h)) (q_snd hP) (va_recv hE.K (q_snd hP) (ci := 4) (q0 := 0) rfl rfl) rfl hl.1 rfl (Nat.le_of_ble_eq_true rfl) dL_law_964 ⟨by show _ ≤ 1200130; omega, by show _ ≤ 5501080; omega⟩ ?_
                                                                        refine lv_lload hx hb dL_law_967 (lv_at hl 7 rfl) ?_
                                                                        refine W.lcmp hx hb dL_law_969 ?_
                                                                        refine lv_if_eq (tgt := 975) hx hb dL_law_970 (by decide) (fun c_67 => ?_) (fun c_67 => ?_)
                                                                        · exact kk _ _ _ hP hD hS hE (lv_sub hl [15, 16, 17, 18] rfl)
                                                                        · exact absurd lg_self c_67
                                                                      · exact absurd ht9.2 (by omega)
                                                            · exact absurd c_61 hn9
                                                      · refine lv_iconst (v := nI 1) hx hb dL_law_864 (by decide) ?_
                                                        refine lv_goto (tgt := 869) hx hb dL_law_865 (by decide) ?_
                                                        refine q_icmp_ne (tgt := 886) hx hb (by omega) (by omega) dL_law_869 (by decide) (fun c_68 => ?_) (fun c_68 => ?_)
                                                        · exact absurd (hadv.1.mpr (show freeN z = 0 by omega)) c_n
                                                        · exact absurd c_68 (by decide)
                                                    · have c_n : (advS z s1 (sL z)).1 < 0 := Int32.not_le.mp c_v
                                                      refine lv_iconst (v := nI 1) hx hb dL_law_850 (by decide) ?_
                                                      refine lv_goto (tgt := 855) hx hb dL_law_851 (by decide) ?_
                                                      refine lv_aload_n hx hb dL_law_855 rfl (lv_at hl 14 rfl) ?_
                                                      refine lv_bipush (v := nI 6) hx hb dL_law_856 (by decide) ?_
                                                      refine q_roV (As := [.int (nI 6)]) (rest := [.int (nI 1)]) ⟨hx, hb, hml, hown, hts⟩ (k_count6 hI) (cwV 1 hts gL_law_X3_count rfl rfl rfl (by decide +kernel) ⟨Nat.le_of_ble_eq_true rfl, Nat.le_of_ble_eq_true rfl⟩) hE (fun q h => hA q (Nat.le_trans hS.1 h)) (q_snd hP) (va_recv hE.K (q_snd hP) (ci := 4) (q0 := 0) rfl rfl) rfl hl.1 rfl (Nat.le_of_ble_eq_true rfl) dL_law_858 ⟨by show _ ≤ 1200130; omega, by show _ ≤ 5501080; omega⟩ ?_
                                                      refine q_if_ne (tgt := 868) hx hb (by have := free_le (z := z); omega) dL_law_861 (by decide) (fun c_f => ?_) (fun c_f => ?_)
                                                      · refine lv_iconst (v := nI 0) hx hb dL_law_868 (by decide) ?_
                                                        refine q_icmp_ne (tgt := 886) hx hb (by omega) (by omega) dL_law_869 (by decide) (fun c_69 => ?_) (fun c_69 => ?_)
                                                        · exact absurd (hadv.1.mp c_n) (show ¬ freeN z = 0 by omega)
                                                        · exact absurd c_69 (by decide)
                                                      · refine lv_iconst (v := nI 1) hx hb dL_law_864 (by decide) ?_
                                                        refine lv_goto (tgt := 869) hx hb dL_law_865 (by decide) ?_
                                                        refine q_icmp_ne (tgt := 886) hx hb (by omega) (by omega) dL_law_869 (by decide) (fun c_70 => ?_) (fun c_70 => ?_)
                                                        · exact absurd rfl c_70
                                                        · refine lv_iload hx hb dL_law_872 (lv_at hl 0 rfl) ?_
                                                          refine lv_if_lt (tgt := 888) hx hb dL_law_874 (by decide) (fun c_71 => ?_) (fun c_71 => ?_)
                                                          · refine lv_iload hx hb dL_law_888 (lv_at hl 9 rfl) ?_
                                                            refine q_if_le (tgt := 963) hx hb (by omega) dL_law_890 (by decide) (fun c_h => ?_) (fun c_h => ?_)
                                                            · refine lv_aload_n hx hb dL_law_963 rfl (lv_at hl 14 rfl) ?_
                                                              refine q_roV (As := []) (rest := []) ⟨hx, hb, hml, hown, hts⟩ (k_digest hI) (cwV 0 hts gL_law_X3_digest rfl rfl rfl (by decide +kernel) ⟨Nat.le_of_ble_eq_true rfl, Nat.le_of_ble_eq_true rfl⟩) hE (fun q h => hA q (Nat.le_trans hS.1 h)) (q_snd hP) (va_recv hE.K (q_snd hP) (ci := 4) (q0 := 0) rfl rfl) rfl hl.1 rfl (Nat.le_of_ble_eq_true rfl) dL_law_964 ⟨by show _ ≤ 1200130; omega, by show _ ≤ 5501080; omega⟩ ?_
                                                              refine lv_lload hx hb dL_law_967 (lv_at hl 4 rfl) ?_
                                                              refine W.lcmp hx hb dL_law_969 ?_
                                                              refine lv_if_eq (tgt := 975) hx hb dL_law_970 (by decide) (fun c_72 => ?_) (fun c_72 => ?_)
                                                              · exact kk _ _ _ hP hD hS hE (lv_sub hl [12, 13, 14, 15] rfl)
                                                              · exact absurd lg_self c_72
                                                            · refine lv_iload hx hb dL_law_893 (lv_at hl 11 rfl) ?_
                                                              refine lv_bipush (v := nI 6) hx hb dL_law_895 (by decide) ?_
                                                              refine q_ishr (v := sh x 6) hx hb dL_law_897 rfl ?_
                                                              refine lv_iload hx hb dL_law_898 (lv_at hl 9 rfl) ?_
                                                              refine q_roS (As := [.int (sh x 6), .int (nI (sn z))]) (rest := []) ⟨hx, hb, hml, hown, hts⟩ (c_L_below (x := sh x 6) (n := sn z) c_h (by omega)) (va_cwS 2 hts gL_law_L_below rfl rfl rfl (by decide +kernel) ⟨Nat.le_of_ble_eq_true rfl, Nat.le_of_ble_eq_true rfl⟩) hE (fun q h => hA q (Nat.le_trans hS.1 h)) trivial rfl hl.1 rfl (Nat.le_of_ble_eq_true rfl) dL_law_900 ⟨by show _ ≤ 1200130; omega, by show _ ≤ 5501080; omega⟩ ?_
                                                              obtain ⟨k9, hk9, ek9⟩ : ∃ q, q < sn z ∧ bel (sh x 6) (sn z) = q := ⟨_, bel_lt c_h, rfl⟩
                                                              rw [ek9]
                                                              have hs9 := (hV.2.2.1 k9 hk9).2.1
                                                              have ht9 := tuS_in (wwM z k9) 8
                                                              refine lv_istore (lv' := [(21, .int (nI k9)), (20, .int ((advS z s1 (sL z)).1)), (19, .int (nI s1)), (18, .int (nI b1)), (17, .int (nI a1)), (15, .long (dgA z (kM z))), (13, .long (sumJ (fun k => (nI (sL z)).toInt64 * (kM z (fn + k)).toInt64 * (kM z (fn + k)).toInt64) (sL z) - sumJ (fun c => (hearF (sL z) (kM z) c fn).toInt64 * (hearF (sL z) (kM z) c fn).toInt64) (sL z))), (12, .int (nI fn)), (10, .int (nI (endA z (sn z)))), (9, .int (nI (allW z (kM z) (sn z)))), (6, .int (nI (sn z))), (5, .int (nI (sL z))), (4, .int x), (3, .int (nI tt)), (2, .ref (b 0)), (1, .ref (ad 0)), (0, .ref (gB g))]) hx hb dL_law_903 hl (by decide) rfl (fun ls hl => ?_)
                                                              refine lv_aload_n hx hb dL_law_905 rfl (lv_at hl 15 rfl) ?_
                                                              refine lv_iload hx hb dL_law_906 (lv_at hl 0 rfl) ?_
                                                              refine lv_iconst (v := nI 1) hx hb dL_law_908 (by decide) ?_
                                                              refine q_roV (As := [.int (nI k9), .int (nI 1)]) (rest := []) ⟨hx, hb, hml, hown, hts⟩ (k_about1 hI hk9) (cwV 2 hts gL_law_X3_about rfl rfl rfl (by decide +kernel) ⟨Nat.le_of_ble_eq_true rfl, Nat.le_of_ble_eq_true rfl⟩) hE (fun q h => hA q (Nat.le_trans hS.1 h)) (q_snd hP) (va_recv hE.K (q_snd hP) (ci := 4) (q0 := 0) rfl rfl) rfl hl.1 rfl (Nat.le_of_ble_eq_true rfl) dL_law_909 ⟨by show _ ≤ 1200130; omega, by show _ ≤ 5501080; omega⟩ ?_
                                                              refine lv_istore (lv' := [(22, .int (nI (ssr z k9))), (21, .int (nI k9)), (20, .int ((advS z s1 (sL z)).1)), (19, .int (nI s1)), (18, .int (nI b1)), (17, .int (nI a1)), (15, .long (dgA z (kM z))), (13, .long (sumJ (fun k => (nI (sL z)).toInt64 * (kM z (fn + k)).toInt64 * (kM z (fn + k)).toInt64) (sL z) - sumJ (fun c => (hearF (sL z) (kM z) c fn).toInt64 * (hearF (sL z) (kM z) c fn).toInt64) (sL z))), (12, .int (nI fn)), (10, .int (nI (endA z (sn z)))), (9, .int (nI (allW z (kM z) (sn z)))), (6, .int (nI (sn z))), (5, .int (nI (sL z))), (4, .int x), (3, .int (nI tt)), (2, .ref (b 0)), (1, .ref (ad 0)), (0, .ref (gB g))]) hx hb dL_law_912 hl (by decide) rfl (fun ls hl => ?_)
                                                              refine lv_aload_n hx hb dL_law_914 rfl (lv_at hl 16 rfl) ?_
                                                              refine lv_iload hx hb dL_law_915 (lv_at hl 1 rfl) ?_
                                                              refine q_wrV (wr := wS g b z) (As := [.int (nI k9)]) (rest := []) ⟨hx, hb, hml, hown, hts⟩ (k_tune hI hk9) (cwV 1 hts gL_law_X3_tune rfl rfl rfl (by decide +kernel) ⟨Nat.le_of_ble_eq_true rfl, Nat.le_of_ble_eq_true rfl⟩) hE hP hD hS hA (va_recv hE.K (q_snd hP) (ci := 4) (q0 := 0) rfl rfl) rfl hl.1 rfl (Nat.le_of_ble_eq_true rfl) dL_law_917 ⟨by show _ ≤ 1200130; omega, by show _ ≤ 5501080; omega⟩ (fun _u H locs hP hD hS hE => ?_)
                                                              have hP : va_P g.1 vwCl (wS g b z ++ wC g ad mc M sig z) H := hP
                                                              have hD : va_D (q_n s.heap) (wS g b z ++ wC g ad mc M sig z) := hD
                                                              refine lv_istore (lv' := [(23, .int (nI (tuS (wwM z k9) 8))), (22, .int (nI (ssr z k9))), (21, .int (nI k9)), (20, .int ((advS z s1 (sL z)).1)), (19, .int (nI s1)), (18, .int (nI b1)), (17, .int (nI a1)), (15, .long (dgA z (kM z))), (13, .long (sumJ (fun k => (nI (sL z)).toInt64 * (kM z (fn + k)).toInt64 * (kM z (fn + k)).toInt64) (sL z) - sumJ (fun c => (hearF (sL z) (kM z) c fn).toInt64 * (hearF (sL z) (kM z) c fn).toInt64) (sL z))), (12, .int (nI fn)), (10, .int (nI (endA z (sn z)))), (9, .int (nI (allW z (kM z) (sn z)))), (6, .int (nI (sn z))), (5, .int (nI (sL z))), (4, .int x), (3, .int (nI tt)), (2, .ref (b 0)), (1, .ref (ad 0)), (0, .ref (gB g))]) hx hb dL_law_920 hl (by decide) rfl (fun ls hl => ?_)
                                                              refine lv_aload_n hx hb dL_law_922 rfl (lv_at hl 17 rfl) ?_
                                                              refine lv_iload hx hb dL_law_923 (lv_at hl 2 rfl) ?_
                                                              refine lv_iload hx hb dL_law_925 (lv_at hl 1 rfl) ?_
                                                              refine q_wrV (wr := wS g b z) (As := [.int (nI k9), .int (nI (ssr z k9))]) (rest := []) ⟨hx, hb, hml, hown, hts⟩ (k_would hI hk9 hs9.1 hs9.2) (cwV 2 hts gL_law_X3_would rfl rfl rfl (by decide +kernel) ⟨Nat.le_of_ble_eq_true rfl, Nat.le_of_ble_eq_true rfl⟩) hE hP hD hS hA (va_recv hE.K (q_snd hP) (ci := 4) (q0 := 0) rfl rfl) rfl hl.1 rfl (Nat.le_of_ble_eq_true rfl) dL_law_927 ⟨by show _ ≤ 1200130; omega, by show _ ≤ 5501080; omega⟩ (fun _u H locs hP hD hS hE => ?_)
                                                              have hP : va_P g.1 vwCl (wS g b z ++ wC g ad mc M sig z) H := hP
                                                              have hD : va_D (q_n s.heap) (wS g b z ++ wC g ad mc M sig z) := hD
                                                              refine lv_iload hx hb dL_law_930 (lv_at hl 11 rfl) ?_
                                                              refine lv_icmp_ne (tgt := 961) hx hb dL_law_932 (by decide) (fun c_73 => ?_) (fun c_73 => ?_)
                                                              · exact absurd (congrArg nI wwM_own) c_73
                                                              · refine lv_aload_n hx hb dL_law_935 rfl (lv_at hl 17 rfl) ?_
                                                                refine lv_iload hx hb dL_law_936 (lv_at hl 2 rfl) ?_
                                                                refine lv_iload hx hb dL_law_938 (lv_at hl 0 rfl) ?_
                                                                refine q_wrV (wr := wS g b z) (As := [.int (nI k9), .int (nI (tuS (wwM z k9) 8))]) (rest := []) ⟨hx, hb, hml, hown, hts⟩ (k_would hI hk9 ht9.1 (by omega)) (cwV 2 hts gL_law_X3_would rfl rfl rfl (by decide +kernel) ⟨Nat.le_of_ble_eq_true rfl, Nat.le_of_ble_eq_true rfl⟩) hE hP hD hS hA (va_recv hE.K (q_snd hP) (ci := 4) (q0 := 0) rfl rfl) rfl hl.1 rfl (Nat.le_of_ble_eq_true rfl) dL_law_940 ⟨by show _ ≤ 1200130; omega, by show _ ≤ 5501080; omega⟩ (fun _u H locs hP hD hS hE => ?_)
                                                                have hP : va_P g.1 vwCl (wS g b z ++ wC g ad mc M sig z) H := hP
                                                                have hD : va_D (q_n s.heap) (wS g b z ++ wC g ad mc M sig z) := hD
                                                                refine lv_iload hx hb dL_law_943 (lv_at hl 11 rfl) ?_
                                                                refine q_icmp_gt (tgt := 961) hx hb (by have := wwM_lt (k := k9) (s_ := tuS (wwM z k9) 8) hV; omega) (by omega) dL_law_945 (by decide) (fun c_74 => ?_) (fun c_74 => ?_)
                                                                · exact absurd (wwM_tu hV hk9) (by omega)
                                                                · refine lv_iload hx hb dL_law_948 (lv_at hl 0 rfl) ?_
                                                                  refine lv_iconst (v := nI 1) hx hb dL_law_950 (by decide) ?_
                                                                  refine q_icmp_lt (tgt := 961) hx hb (by omega) (by omega) dL_law_951 (by decide) (fun c_75 => ?_) (fun c_75 => ?_)
                                                                  · exact absurd ht9.1 (by omega)
                                                                  · refine lv_iload hx hb dL_law_954 (lv_at hl 0 rfl) ?_
                                                                    refine lv_bipush (v := nI 9) hx hb dL_law_956 (by decide) ?_
                                                                    refine q_icmp_le (tgt := 963) hx hb (by omega) (by omega) dL_law_958 (by decide) (fun c_76 => ?_) (fun c_76 => ?_)
                                                                    · refine lv_aload_n hx hb dL_law_963 rfl (lv_at hl 17 rfl) ?_
                                                                      refine q_roV (As := []) (rest := []) ⟨hx, hb, hml, hown, hts⟩ (k_digest hI) (cwV 0 hts gL_law_X3_digest rfl rfl rfl (by decide +kernel) ⟨Nat.le_of_ble_eq_true rfl, Nat.le_of_ble_eq_true rfl⟩) hE (fun q h => hA q (Nat.le_trans hS.1 h)) (q_snd hP) (va_recv hE.K (q_snd hP) (ci := 4) (q0 := 0) rfl rfl) rfl hl.1 rfl (Nat.le_of_ble_eq_true rfl) dL_law_964 ⟨by show _ ≤ 1200130; omega, by show _ ≤ 5501080; omega⟩ ?_
                                                                      refine lv_lload hx hb dL_law_967 (lv_at hl 7 rfl) ?_
                                                                      refine W.lcmp hx hb dL_law_969 ?_
                                                                      refine lv_if_eq (tgt := 975) hx hb dL_law_970 (by decide) (fun c_77 => ?_) (fun c_77 => ?_)
                                                                      · exact kk _ _ _ hP hD hS hE (lv_sub hl [15, 16, 17, 18] rfl)
                                                                      · exact absurd lg_self c_77
                                                                    · exact absurd ht9.2 (by omega)
                                                          · exact absurd c_n c_71
                                                  · exact absurd (lik_le (a := a1) (b := b1) (s := s1) hL.2) c_58
                                            · refine lv_iload hx hb dL_law_782 (lv_at hl 9 rfl) ?_
                                              refine lv_goto (tgt := 788) hx hb dL_law_784 (by decide) ?_
                                              refine lv_icmp_ne (tgt := 835) hx hb dL_law_788 (by decide) (fun c_78 => ?_) (fun c_78 => ?_)
                                              · exact absurd ((lik_0 _ hV.Lm a1 ha1 b1 hb1).trans (if_pos c_ab)) c_78
                                              · refine lv_aload_n hx hb dL_law_791 rfl (lv_at hl 13 rfl) ?_
                                                refine lv_iload hx hb dL_law_792 (lv_at hl 2 rfl) ?_
                                                refine lv_iload hx hb dL_law_794 (lv_at hl 1 rfl) ?_
                                                refine lv_iload hx hb dL_law_796 (lv_at hl 0 rfl) ?_
                                                refine q_roV (As := [.int (nI a1), .int (nI b1), .int (nI s1)]) (rest := []) ⟨hx, hb, hml, hown, hts⟩ (k_alike hI (a := a1) (b := b1) (s_ := s1) ha1 hb1 hs1) (cwV 3 hts gL_law_X3_alike rfl rfl rfl (by decide +kernel) ⟨Nat.le_of_ble_eq_true rfl, Nat.le_of_ble_eq_true rfl⟩) hE (fun q h => hA q (Nat.le_trans hS.1 h)) (q_snd hP) (va_recv hE.K (q_snd hP) (ci := 4) (q0 := 0) rfl rfl) rfl hl.1 rfl (Nat.le_of_ble_eq_true rfl) dL_law_798 ⟨by show _ ≤ 1200130; omega, by show _ ≤ 5501080; omega⟩ ?_
                                                refine lv_aload_n hx hb dL_law_801 rfl (lv_at hl 13 rfl) ?_
                                                refine lv_iload hx hb dL_law_802 (lv_at hl 2 rfl) ?_
                                                refine lv_iload hx hb dL_law_804 (lv_at hl 1 rfl) ?_
                                                refine lv_aload_n hx hb dL_law_806 rfl (lv_at hl 13 rfl) ?_
                                                refine lv_iload hx hb dL_law_807 (lv_at hl 2 rfl) ?_
                                                refine lv_iload hx hb dL_law_809 (lv_at hl 1 rfl) ?_
                                                refine q_roV (As := [.int (nI a1), .int (nI b1)]) (rest := [.int (nI b1), .int (nI a1), .ref (ad 0), .int (likF (sL z) a1 b1 s1)]) ⟨hx, hb, hml, hown, hts⟩ (k_shift hI (a := a1) (b := b1) ha1 hb1) (cwV 2 hts gL_law_X3_shift rfl rfl rfl (by decide +kernel) ⟨Nat.le_of_ble_eq_true rfl, Nat.le_of_ble_eq_true rfl⟩) hE (fun q h => hA q (Nat.le_trans hS.1 h)) (q_snd hP) (va_recv hE.K (q_snd hP) (ci := 4) (q0 := 0) rfl rfl) rfl hl.1 rfl (Nat.le_of_ble_eq_true rfl) dL_law_811 ⟨by show _ ≤ 1200130; omega, by show _ ≤ 5501080; omega⟩ ?_
                                                refine q_roV (As := [.int (nI a1), .int (nI b1), .int (nI (shB (sL z) a1 b1 (sL z - 1)))]) (rest := [.int (likF (sL z) a1 b1 s1)]) ⟨hx, hb, hml, hown, hts⟩ (k_alike hI (a := a1) (b := b1) (s_ := shB (sL z) a1 b1 (sL z - 1)) ha1 hb1 (by have := sh_in (L := sL z) (a := a1) (b := b1) (sL z - 1); omega)) (cwV 3 hts gL_law_X3_alike rfl rfl rfl (by decide +kernel) ⟨Nat.le_of_ble_eq_true rfl, Nat.le_of_ble_eq_true rfl⟩) hE (fun q h => hA q (Nat.le_trans hS.1 h)) (q_snd hP) (va_recv hE.K (q_snd hP) (ci := 4) (q0 := 0) rfl rfl) rfl hl.1 rfl (Nat.le_of_ble_eq_true rfl) dL_law_814 ⟨by show _ ≤ 1200130; omega, by show _ ≤ 5501080; omega⟩ ?_
                                                refine lv_icmp_gt (tgt := 835) hx hb dL_law_817 (by decide) (fun c_79 => ?_) (fun c_79 => ?_)
                                                · exact absurd (sh_le (L := sL z) (a := a1) (b := b1) (s := s1) (n := sL z - 1) (by omega)) (Int32.not_le.mpr c_79)
                                                · refine lv_aload_n hx hb dL_law_820 rfl (lv_at hl 13 rfl) ?_
                                                  refine lv_iload hx hb dL_law_821 (lv_at hl 2 rfl) ?_
                                                  refine lv_iload hx hb dL_law_823 (lv_at hl 1 rfl) ?_
                                                  refine lv_iload hx hb dL_law_825 (lv_at hl 0 rfl) ?_
                                                  refine q_roV (As := [.int (nI a1), .int (nI b1), .int (nI s1)]) (rest := []) ⟨hx, hb, hml, hown, hts⟩ (k_alike hI (a := a1) (b := b1) (s_ := s1) ha1 hb1 hs1) (cwV 3 hts gL_law_X3_alike rfl rfl rfl (by decide +kernel) ⟨Nat.le_of_ble_eq_true rfl, Nat.le_of_ble_eq_true rfl⟩) hE (fun q h => hA q (Nat.le_trans hS.1 h)) (q_snd hP) (va_recv hE.K (q_snd hP) (ci := 4) (q0 := 0) rfl rfl) rfl hl.1 rfl (Nat.le_of_ble_eq_true rfl) dL_law_827 ⟨by show _ ≤ 1200130; omega, by show _ ≤ 5501080; omega⟩ ?_
                                                  refine lv_iload hx hb dL_law_830 (lv_at hl 9 rfl) ?_
                                                  refine lv_icmp_le (tgt := 837) hx hb dL_law_832 (by decide) (fun c_80 => ?_) (fun c_80 => ?_)
                                                  · refine lv_aload_n hx hb dL_law_837 rfl (lv_at hl 13 rfl) ?_
                                                    refine lv_iload hx hb dL_law_838 (lv_at hl 0 rfl) ?_
                                                    refine q_roV (As := [.int (nI s1)]) (rest := []) ⟨hx, hb, hml, hown, hts⟩ (k_advise hI (b := s1) hs1) (cwV 1 hts gL_law_X3_advise rfl rfl rfl (by decide +kernel) ⟨Nat.le_of_ble_eq_true rfl, Nat.le_of_ble_eq_true rfl⟩) hE (fun q h => hA q (Nat.le_trans hS.1 h)) (q_snd hP) (va_recv hE.K (q_snd hP) (ci := 4) (q0 := 0) rfl rfl) rfl hl.1 rfl (Nat.le_of_ble_eq_true rfl) dL_law_840 ⟨by show _ ≤ 1200130; omega, by show _ ≤ 5501080; omega⟩ ?_
                                                    have hadv := adv_all (z := z) (b := s1) (sL z) (by omega)
                                                    refine lv_istore (lv' := [(20, .int ((advS z s1 (sL z)).1)), (19, .int (nI s1)), (18, .int (nI b1)), (17, .int (nI a1)), (15, .long (dgA z (kM z))), (13, .long (sumJ (fun k => (nI (sL z)).toInt64 * (kM z (fn + k)).toInt64 * (kM z (fn + k)).toInt64) (sL z) - sumJ (fun c => (hearF (sL z) (kM z) c fn).toInt64 * (hearF (sL z) (kM z) c fn).toInt64) (sL z))), (12, .int (nI fn)), (10, .int (nI (endA z (sn z)))), (9, .int (nI (allW z (kM z) (sn z)))), (6, .int (nI (sn z))), (5, .int (nI (sL z))), (4, .int x), (3, .int (nI tt)), (2, .ref (b 0)), (1, .ref (ad 0)), (0, .ref (gB g))]) hx hb dL_law_843 hl (by decide) rfl (fun ls hl => ?_)
                                                    refine lv_iload hx hb dL_law_845 (lv_at hl 0 rfl) ?_
                                                    refine lv_if_ge (tgt := 854) hx hb dL_law_847 (by decide) (fun c_v => ?_) (fun c_v => ?_)
                                                    · have c_n : ¬ (advS z s1 (sL z)).1 < 0 := Int32.not_lt.mpr c_v
                                                      refine lv_iconst (v := nI 0) hx hb dL_law_854 (by decide) ?_
                                                      refine lv_aload_n hx hb dL_law_855 rfl (lv_at hl 14 rfl) ?_
                                                      refine lv_bipush (v := nI 6) hx hb dL_law_856 (by decide) ?_
                                                      refine q_roV (As := [.int (nI 6)]) (rest := [.int (nI 0)]) ⟨hx, hb, hml, hown, hts⟩ (k_count6 hI) (cwV 1 hts gL_law_X3_count rfl rfl rfl (by decide +kernel) ⟨Nat.le_of_ble_eq_true rfl, Nat.le_of_ble_eq_true rfl⟩) hE (fun q h => hA q (Nat.le_trans hS.1 h)) (q_snd hP) (va_recv hE.K (q_snd hP) (ci := 4) (q0 := 0) rfl rfl) rfl hl.1 rfl (Nat.le_of_ble_eq_true rfl) dL_law_858 ⟨by show _ ≤ 1200130; omega, by show _ ≤ 5501080; omega⟩ ?_
                                                      refine q_if_ne (tgt := 868) hx hb (by have := free_le (z := z); omega) dL_law_861 (by decide) (fun c_f => ?_) (fun c_f => ?_)
                                                      · refine lv_iconst (v := nI 0) hx hb dL_law_868 (by decide) ?_
                                                        refine q_icmp_ne (tgt := 886) hx hb (by omega) (by omega) dL_law_869 (by decide) (fun c_81 => ?_) (fun c_81 => ?_)
                                                        · exact absurd rfl c_81
                                                        · refine lv_iload hx hb dL_law_872 (lv_at hl 0 rfl) ?_
                                                          refine lv_if_lt (tgt := 888) hx hb dL_law_874 (by decide) (fun c_82 => ?_) (fun c_82 => ?_)
                                                          · exact absurd c_82 c_n
                                                          · obtain ⟨c9, hc9, ec9, hn9⟩ := hadv.2 c_n
                                                            rw [ec9] at hl
                                                            refine lv_aload_n hx hb dL_law_877 rfl (lv_at hl 13 rfl) ?_
                                                            refine lv_iload hx hb dL_law_878 (lv_at hl 0 rfl) ?_
                                                            refine q_roV (As := [.int (nI c9)]) (rest := []) ⟨hx, hb, hml, hown, hts⟩ (c_X4_isTaken hV (a := c9) (by omega)) (cwV 1 hts gL_law_X4_isTaken rfl rfl rfl (by decide +kernel) ⟨Nat.le_of_ble_eq_true rfl, Nat.le_of_ble_eq_true rfl⟩) hE (fun q h => hA q (Nat.le_trans hS.1 h)) (q_fst hP) (va_recv hE.K hP (ci := 5) (q0 := 0) rfl rfl) rfl hl.1 rfl (Nat.le_of_ble_eq_true rfl) dL_law_880 ⟨by show _ ≤ 1200130; omega, by show _ ≤ 5501080; omega⟩ ?_
                                                            refine q_ifb_eq (tgt := 888) hx hb dL_law_883 (by decide) (fun c_83 => ?_) (fun c_83 => ?_)
                                                            · refine lv_iload hx hb dL_law_888 (lv_at hl 9 rfl) ?_
                                                              refine q_if_le (tgt := 963) hx hb (by omega) dL_law_890 (by decide) (fun c_h => ?_) (fun c_h => ?_)
                                                              · refine lv_aload_n hx hb dL_law_963 rfl (lv_at hl 14 rfl) ?_
                                                                refine q_roV (As := []) (rest := []) ⟨hx, hb, hml, hown, hts⟩ (k_digest hI) (cwV 0 hts gL_law_X3_digest rfl rfl rfl (by decide +kernel) ⟨Nat.le_of_ble_eq_true rfl, Nat.le_of_ble_eq_true rfl⟩) hE (fun q h => hA q (Nat.le_trans hS.1 h)) (q_snd hP) (va_recv hE.K (q_snd hP) (ci := 4) (q0 := 0) rfl rfl) rfl hl.1 rfl (Nat.le_of_ble_eq_true rfl) dL_law_964 ⟨by show _ ≤ 1200130; omega, by show _ ≤ 5501080; omega⟩ ?_
                                                                refine lv_lload hx hb dL_law_967 (lv_at hl 4 rfl) ?_
                                                                refine W.lcmp hx hb dL_law_969 ?_
                                                                refine lv_if_eq (tgt := 975) hx hb dL_law_970 (by decide) (fun c_84 => ?_) (fun c_84 => ?_)
                                                                · exact kk _ _ _ hP hD hS hE (lv_sub hl [12, 13, 14, 15] rfl)
                                                                · exact absurd lg_self c_84
                                                              · refine lv_iload hx hb dL_law_893 (lv_at hl 11 rfl) ?_
                                                                refine lv_bipush (v := nI 6) hx hb dL_law_895 (by decide) ?_
                                                                refine q_ishr (v := sh x 6) hx hb dL_law_897 rfl ?_
                                                                refine lv_iload hx hb dL_law_898 (lv_at hl 9 rfl) ?_
                                                                refine q_roS (As := [.int (sh x 6), .int (nI (sn z))]) (rest := []) ⟨hx, hb, hml, hown, hts⟩ (c_L_below (x := sh x 6) (n := sn z) c_h (by omega)) (va_cwS 2 hts gL_law_L_below rfl rfl rfl (by decide +kernel) ⟨Nat.le_of_ble_eq_true rfl, Nat.le_of_ble_eq_true rfl⟩) hE (fun q h => hA q (Nat.le_trans hS.1 h)) trivial rfl hl.1 rfl (Nat.le_of_ble_eq_true rfl) dL_law_900 ⟨by show _ ≤ 1200130; omega, by show _ ≤ 5501080; omega⟩ ?_
                                                                obtain ⟨k9, hk9, ek9⟩ : ∃ q, q < sn z ∧ bel (sh x 6) (sn z) = q := ⟨_, bel_lt c_h, rfl⟩
                                                                rw [ek9]
                                                                have hs9 := (hV.2.2.1 k9 hk9).2.1
                                                                have ht9 := tuS_in (wwM z k9) 8
                                                                refine lv_istore (lv' := [(21, .int (nI k9)), (20, .int (nI c9)), (19, .int (nI s1)), (18, .int (nI b1)), (17, .int (nI a1)), (15, .long (dgA z (kM z))), (13, .long (sumJ (fun k => (nI (sL z)).toInt64 * (kM z (fn + k)).toInt64 * (kM z (fn + k)).toInt64) (sL z) - sumJ (fun c => (hearF (sL z) (kM z) c fn).toInt64 * (hearF (sL z) (kM z) c fn).toInt64) (sL z))), (12, .int (nI fn)), (10, .int (nI (endA z (sn z)))), (9, .int (nI (allW z (kM z) (sn z)))), (6, .int (nI (sn z))), (5, .int (nI (sL z))), (4, .int x), (3, .int (nI tt)), (2, .ref (b 0)), (1, .ref (ad 0)), (0, .ref (gB g))]) hx hb dL_law_903 hl (by decide) rfl (fun ls hl => ?_)
                                                                refine lv_aload_n hx hb dL_law_905 rfl (lv_at hl 15 rfl) ?_
                                                                refine lv_iload hx hb dL_law_906 (lv_at hl 0 rfl) ?_
                                                                refine lv_iconst (v := nI 1) hx hb dL_law_908 (by decide) ?_
                                                                refine q_roV (As := [.int (nI k9), .int (nI 1)]) (rest := []) ⟨hx, hb, hml, hown, hts⟩ (k_about1 hI hk9) (cwV 2 hts gL_law_X3_about rfl rfl rfl (by decide +kernel) ⟨Nat.le_of_ble_eq_true rfl, Nat.le_of_ble_eq_true rfl⟩) hE (fun q h => hA q (Nat.le_trans hS.1 h)) (q_snd hP) (va_recv hE.K (q_snd hP) (ci := 4) (q0 := 0) rfl rfl) rfl hl.1 rfl (Nat.le_of_ble_eq_true rfl) dL_law_909 ⟨by show _ ≤ 1200130; omega, by show _ ≤ 5501080; omega⟩ ?_
                                                                refine lv_istore (lv' := [(22, .int (nI (ssr z k9))), (21, .int (nI k9)), (20, .int (nI c9)), (19, .int (nI s1)), (18, .int (nI b1)), (17, .int (nI a1)), (15, .long (dgA z (kM z))), (13, .long (sumJ (fun k => (nI (sL z)).toInt64 * (kM z (fn + k)).toInt64 * (kM z (fn + k)).toInt64) (sL z) - sumJ (fun c => (hearF (sL z) (kM z) c fn).toInt64 * (hearF (sL z) (kM z) c fn).toInt64) (sL z))), (12, .int (nI fn)), (10, .int (nI (endA z (sn z)))), (9, .int (nI (allW z (kM z) (sn z)))), (6, .int (nI (sn z))), (5, .int (nI (sL z))), (4, .int x), (3, .int (nI tt)), (2, .ref (b 0)), (1, .ref (ad 0)), (0, .ref (gB g))]) hx hb dL_law_912 hl (by decide) rfl (fun ls hl => ?_)
                                                                refine lv_aload_n hx hb dL_law_914 rfl (lv_at hl 16 rfl) ?_
                                                                refine lv_iload hx hb dL_law_915 (lv_at hl 1 rfl) ?_
                                                                refine q_wrV (wr := wS g b z) (As := [.int (nI k9)]) (rest := []) ⟨hx, hb, hml, hown, hts⟩ (k_tune hI hk9) (cwV 1 hts gL_law_X3_tune rfl rfl rfl (by decide +kernel) ⟨Nat.le_of_ble_eq_true rfl, Nat.le_of_ble_eq_true rfl⟩) hE hP hD hS hA (va_recv hE.K (q_snd hP) (ci := 4) (q0 := 0) rfl rfl) rfl hl.1 rfl (Nat.le_of_ble_eq_true rfl) dL_law_917 ⟨by show _ ≤ 1200130; omega, by show _ ≤ 5501080; omega⟩ (fun _u H locs hP hD hS hE => ?_)
                                                                have hP : va_P g.1 vwCl (wS g b z ++ wC g ad mc M sig z) H := hP
                                                                have hD : va_D (q_n s.heap) (wS g b z ++ wC g ad mc M sig z) := hD
                                                                refine lv_istore (lv' := [(23, .int (nI (tuS (wwM z k9) 8))), (22, .int (nI (ssr z k9))), (21, .int (nI k9)), (20, .int (nI c9)), (19, .int (nI s1)), (18, .int (nI b1)), (17, .int (nI a1)), (15, .long (dgA z (kM z))), (13, .long (sumJ (fun k => (nI (sL z)).toInt64 * (kM z (fn + k)).toInt64 * (kM z (fn + k)).toInt64) (sL z) - sumJ (fun c => (hearF (sL z) (kM z) c fn).toInt64 * (hearF (sL z) (kM z) c fn).toInt64) (sL z))), (12, .int (nI fn)), (10, .int (nI (endA z (sn z)))), (9, .int (nI (allW z (kM z) (sn z)))), (6, .int (nI (sn z))), (5, .int (nI (sL z))), (4, .int x), (3, .int (nI tt)), (2, .ref (b 0)), (1, .ref (ad 0)), (0, .ref (gB g))]) hx hb dL_law_920 hl (by decide) rfl (fun ls hl => ?_)
                                                                refine lv_aload_n hx hb dL_law_922 rfl (lv_at hl 17 rfl) ?_
                                                                refine lv_iload hx hb dL_law_923 (lv_at hl 2 rfl) ?_
                                                                refine lv_iload hx hb dL_law_925 (lv_at hl 1 rfl) ?_
                                                                refine q_wrV (wr := wS g b z) (As := [.int (nI k9), .int (nI (ssr z k9))]) (rest := []) ⟨hx, hb, hml, hown, hts⟩ (k_would hI hk9 hs9.1 hs9.2) (cwV 2 hts gL_law_X3_would rfl rfl rfl (by decide +kernel) ⟨Nat.le_of_ble_eq_true rfl, Nat.le_of_ble_eq_true rfl⟩) hE hP hD hS hA (va_recv hE.K (q_snd hP) (ci := 4) (q0 := 0) rfl rfl) rfl hl.1 rfl (Nat.le_of_ble_eq_true rfl) dL_law_927 ⟨by show _ ≤ 1200130; omega, by show _ ≤ 5501080; omega⟩ (fun _u H locs hP hD hS hE => ?_)
                                                                have hP : va_P g.1 vwCl (wS g b z ++ wC g ad mc M sig z) H := hP
                                                                have hD : va_D (q_n s.heap) (wS g b z ++ wC g ad mc M sig z) := hD
                                                                refine lv_iload hx hb dL_law_930 (lv_at hl 11 rfl) ?_
                                                                refine lv_icmp_ne (tgt := 961) hx hb dL_law_932 (by decide) (fun c_85 => ?_) (fun c_85 => ?_)
                                                                · exact absurd (congrArg nI wwM_own) c_85
                                                                · refine lv_aload_n hx hb dL_law_935 rfl (lv_at hl 17 rfl) ?_
                                                                  refine lv_iload hx hb dL_law_936 (lv_at hl 2 rfl) ?_
                                                                  refine lv_iload hx hb dL_law_938 (lv_at hl 0 rfl) ?_
                                                                  refine q_wrV (wr := wS g b z) (As := [.int (nI k9), .int (nI (tuS (wwM z k9) 8))]) (rest := []) ⟨hx, hb, hml, hown, hts⟩ (k_would hI hk9 ht9.1 (by omega)) (cwV 2 hts gL_law_X3_would rfl rfl rfl (by decide +kernel) ⟨Nat.le_of_ble_eq_true rfl, Nat.le_of_ble_eq_true rfl⟩) hE hP hD hS hA (va_recv hE.K (q_snd hP) (ci := 4) (q0 := 0) rfl rfl) rfl hl.1 rfl (Nat.le_of_ble_eq_true rfl) dL_law_940 ⟨by show _ ≤ 1200130; omega, by show _ ≤ 5501080; omega⟩ (fun _u H locs hP hD hS hE => ?_)
                                                                  have hP : va_P g.1 vwCl (wS g b z ++ wC g ad mc M sig z) H := hP
                                                                  have hD : va_D (q_n s.heap) (wS g b z ++ wC g ad mc M sig z) := hD
                                                                  refine lv_iload hx hb dL_law_943 (lv_at hl 11 rfl) ?_
                                                                  refine q_icmp_gt (tgt := 961) hx hb (by have := wwM_lt (k := k9) (s_ := tuS (wwM z k9) 8) hV; omega) (by omega) dL_law_945 (by decide) (fun c_86 => ?_) (fun c_86 => ?_)
                                                                  · exact absurd (wwM_tu hV hk9) (by omega)
                                                                  · refine lv_iload hx hb dL_law_948 (lv_at hl 0 rfl) ?_
                                                                    refine lv_iconst (v := nI 1) hx hb dL_law_950 (by decide) ?_
                                                                    refine q_icmp_lt (tgt := 961) hx hb (by omega) (by omega) dL_law_951 (by decide) (fun c_87 => ?_) (fun c_87 => ?_)
                                                                    · exact absurd ht9.1 (by omega)
                                                                    · refine lv_iload hx hb dL_law_954 (lv_at hl 0 rfl) ?_
                                                                      refine lv_bipush (v := nI 9) hx hb dL_law_956 (by decide) ?_
                                                                      refine q_icmp_le (tgt := 963) hx hb (by omega) (by omega) dL_law_958 (by decide) (fun c_88 => ?_) (fun c_88 => ?_)
                                                                      · refine lv_aload_n hx hb dL_law_963 rfl (lv_at hl 17 rfl) ?_
                                                                        refine q_roV (As := []) (rest := []) ⟨hx, hb, hml, hown, hts⟩ (k_digest hI) (cwV 0 hts gL_law_X3_digest rfl rfl rfl (by decide +kernel) ⟨Nat.le_of_ble_eq_true rfl, Nat.le_of_ble_eq_true rfl⟩) hE (fun q h => hA q (Nat.le_trans hS.1 h)) (q_snd hP) (va_recv hE.K (q_snd hP) (ci := 4) (q0 := 0) rfl rfl) rfl hl.1 rfl (Nat.le_of_ble_eq_true rfl) dL_law_964 ⟨by show _ ≤ 1200130; omega, by show _ ≤ 5501080; omega⟩ ?_
                                                                        refine lv_lload hx hb dL_law_967 (lv_at hl 7 rfl) ?_
                                                                        refine W.lcmp hx hb dL_law_969 ?_
                                                                        refine lv_if_eq (tgt := 975) hx hb dL_law_970 (by decide) (fun c_89 => ?_) (fun c_89 => ?_)
                                                                        · exact kk _ _ _ hP hD hS hE (lv_sub hl [15, 16, 17, 18] rfl)
                                                                        · exact absurd lg_self c_89
                                                                      · exact absurd ht9.2 (by omega)
                                                            · exact absurd c_83 hn9
                                                      · refine lv_iconst (v := nI 1) hx hb dL_law_864 (by decide) ?_
                                                        refine lv_goto (tgt := 869) hx hb dL_law_865 (by decide) ?_
                                                        refine q_icmp_ne (tgt := 886) hx hb (by omega) (by omega) dL_law_869 (by decide) (fun c_90 => ?_) (fun c_90 => ?_)
                                                        · exact absurd (hadv.1.mpr (show freeN z = 0 by omega)) c_n
                                                        · exact absurd c_90 (by decide)
                                                    · have c_n : (advS z s1 (sL z)).1 < 0 := Int32.not_le.mp c_v
                                                      refine lv_iconst (v := nI 1) hx hb dL_law_850 (by decide) ?_
                                                      refine lv_goto (tgt := 855) hx hb dL_law_851 (by decide) ?_
                                                      refine lv_aload_n hx hb dL_law_855 rfl (lv_at hl 14 rfl) ?_
                                                      refine lv_bipush (v := nI 6) hx hb dL_law_856 (by decide) ?_
                                                      refine q_roV (As := [.int (nI 6)]) (rest := [.int (nI 1)]) ⟨hx, hb, hml, hown, hts⟩ (k_count6 hI) (cwV 1 hts gL_law_X3_count rfl rfl rfl (by decide +kernel) ⟨Nat.le_of_ble_eq_true rfl, Nat.le_of_ble_eq_true rfl⟩) hE (fun q h => hA q (Nat.le_trans hS.1 h)) (q_snd hP) (va_recv hE.K (q_snd hP) (ci := 4) (q0 := 0) rfl rfl) rfl hl.1 rfl (Nat.le_of_ble_eq_true rfl) dL_law_858 ⟨by show _ ≤ 1200130; omega, by show _ ≤ 5501080; omega⟩ ?_
                                                      refine q_if_ne (tgt := 868) hx hb (by have := free_le (z := z); omega) dL_law_861 (by decide) (fun c_f => ?_) (fun c_f => ?_)
                                                      · refine lv_iconst (v := nI 0) hx hb dL_law_868 (by decide) ?_
                                                        refine q_icmp_ne (tgt := 886) hx hb (by omega) (by omega) dL_law_869 (by decide) (fun c_91 => ?_) (fun c_91 => ?_)
                                                        · exact absurd (hadv.1.mp c_n) (show ¬ freeN z = 0 by omega)
                                                        · exact absurd c_91 (by decide)
                                                      · refine lv_iconst (v := nI 1) hx hb dL_law_864 (by decide) ?_
                                                        refine lv_goto (tgt := 869) hx hb dL_law_865 (by decide) ?_
                                                        refine q_icmp_ne (tgt := 886) hx hb (by omega) (by omega) dL_law_869 (by decide) (fun c_92 => ?_) (fun c_92 => ?_)
                                                        · exact absurd rfl c_92
                                                        · refine lv_iload hx hb dL_law_872 (lv_at hl 0 rfl) ?_
                                                          refine lv_if_lt (tgt := 888) hx hb dL_law_874 (by decide) (fun c_93 => ?_) (fun c_93 => ?_)
                                                          · refine lv_iload hx hb dL_law_888 (lv_at hl 9 rfl) ?_
                                                            refine q_if_le (tgt := 963) hx hb (by omega) dL_law_890 (by decide) (fun c_h => ?_) (fun c_h => ?_)
                                                            · refine lv_aload_n hx hb dL_law_963 rfl (lv_at hl 14 rfl) ?_
                                                              refine q_roV (As := []) (rest := []) ⟨hx, hb, hml, hown, hts⟩ (k_digest hI) (cwV 0 hts gL_law_X3_digest rfl rfl rfl (by decide +kernel) ⟨Nat.le_of_ble_eq_true rfl, Nat.le_of_ble_eq_true rfl⟩) hE (fun q h => hA q (Nat.le_trans hS.1 h)) (q_snd hP) (va_recv hE.K (q_snd hP) (ci := 4) (q0 := 0) rfl rfl) rfl hl.1 rfl (Nat.le_of_ble_eq_true rfl) dL_law_964 ⟨by show _ ≤ 1200130; omega, by show _ ≤ 5501080; omega⟩ ?_
                                                              refine lv_lload hx hb dL_law_967 (lv_at hl 4 rfl) ?_
                                                              refine W.lcmp hx hb dL_law_969 ?_
                                                              refine lv_if_eq (tgt := 975) hx hb dL_law_970 (by decide) (fun c_94 => ?_) (fun c_94 => ?_)
                                                              · exact kk _ _ _ hP hD hS hE (lv_sub hl [12, 13, 14, 15] rfl)
                                                              · exact absurd lg_self c_94
                                                            · refine lv_iload hx hb dL_law_893 (lv_at hl 11 rfl) ?_
                                                              refine lv_bipush (v := nI 6) hx hb dL_law_895 (by decide) ?_
                                                              refine q_ishr (v := sh x 6) hx hb dL_law_897 rfl ?_
                                                              refine lv_iload hx hb dL_law_898 (lv_at hl 9 rfl) ?_
                                                              refine q_roS (As := [.int (sh x 6), .int (nI (sn z))]) (rest := []) ⟨hx, hb, hml, hown, hts⟩ (c_L_below (x := sh x 6) (n := sn z) c_h (by omega)) (va_cwS 2 hts gL_law_L_below rfl rfl rfl (by decide +kernel) ⟨Nat.le_of_ble_eq_true rfl, Nat.le_of_ble_eq_true rfl⟩) hE (fun q h => hA q (Nat.le_trans hS.1 h)) trivial rfl hl.1 rfl (Nat.le_of_ble_eq_true rfl) dL_law_900 ⟨by show _ ≤ 1200130; omega, by show _ ≤ 5501080; omega⟩ ?_
                                                              obtain ⟨k9, hk9, ek9⟩ : ∃ q, q < sn z ∧ bel (sh x 6) (sn z) = q := ⟨_, bel_lt c_h, rfl⟩
                                                              rw [ek9]
                                                              have hs9 := (hV.2.2.1 k9 hk9).2.1
                                                              have ht9 := tuS_in (wwM z k9) 8
                                                              refine lv_istore (lv' := [(21, .int (nI k9)), (20, .int ((advS z s1 (sL z)).1)), (19, .int (nI s1)), (18, .int (nI b1)), (17, .int (nI a1)), (15, .long (dgA z (kM z))), (13, .long (sumJ (fun k => (nI (sL z)).toInt64 * (kM z (fn + k)).toInt64 * (kM z (fn + k)).toInt64) (sL z) - sumJ (fun c => (hearF (sL z) (kM z) c fn).toInt64 * (hearF (sL z) (kM z) c fn).toInt64) (sL z))), (12, .int (nI fn)), (10, .int (nI (endA z (sn z)))), (9, .int (nI (allW z (kM z) (sn z)))), (6, .int (nI (sn z))), (5, .int (nI (sL z))), (4, .int x), (3, .int (nI tt)), (2, .ref (b 0)), (1, .ref (ad 0)), (0, .ref (gB g))]) hx hb dL_law_903 hl (by decide) rfl (fun ls hl => ?_)
                                                              refine lv_aload_n hx hb dL_law_905 rfl (lv_at hl 15 rfl) ?_
                                                              refine lv_iload hx hb dL_law_906 (lv_at hl 0 rfl) ?_
                                                              refine lv_iconst (v := nI 1) hx hb dL_law_908 (by decide) ?_
                                                              refine q_roV (As := [.int (nI k9), .int (nI 1)]) (rest := []) ⟨hx, hb, hml, hown, hts⟩ (k_about1 hI hk9) (cwV 2 hts gL_law_X3_about rfl rfl rfl (by decide +kernel) ⟨Nat.le_of_ble_eq_true rfl, Nat.le_of_ble_eq_true rfl⟩) hE (fun q h => hA q (Nat.le_trans hS.1 h)) (q_snd hP) (va_recv hE.K (q_snd hP) (ci := 4) (q0 := 0) rfl rfl) rfl hl.1 rfl (Nat.le_of_ble_eq_true rfl) dL_law_909 ⟨by show _ ≤ 1200130; omega, by show _ ≤ 5501080; omega⟩ ?_
                                                              refine lv_istore (lv' := [(22, .int (nI (ssr z k9))), (21, .int (nI k9)), (20, .int ((advS z s1 (sL z)).1)), (19, .int (nI s1)), (18, .int (nI b1)), (17, .int (nI a1)), (15, .long (dgA z (kM z))), (13, .long (sumJ (fun k => (nI (sL z)).toInt64 * (kM z (fn + k)).toInt64 * (kM z (fn + k)).toInt64) (sL z) - sumJ (fun c => (hearF (sL z) (kM z) c fn).toInt64 * (hearF (sL z) (kM z) c fn).toInt64) (sL z))), (12, .int (nI fn)), (10, .int (nI (endA z (sn z)))), (9, .int (nI (allW z (kM z) (sn z)))), (6, .int (nI (sn z))), (5, .int (nI (sL z))), (4, .int x), (3, .int (nI tt)), (2, .ref (b 0)), (1, .ref (ad 0)), (0, .ref (gB g))]) hx hb dL_law_912 hl (by decide) rfl (fun ls hl => ?_)
                                                              refine lv_aload_n hx hb dL_law_914 rfl (lv_at hl 16 rfl) ?_
                                                              refine lv_iload hx hb dL_law_915 (lv_at hl 1 rfl) ?_
                                                              refine q_wrV (wr := wS g b z) (As := [.int (nI k9)]) (rest := []) ⟨hx, hb, hml, hown, hts⟩ (k_tune hI hk9) (cwV 1 hts gL_law_X3_tune rfl rfl rfl (by decide +kernel) ⟨Nat.le_of_ble_eq_true rfl, Nat.le_of_ble_eq_true rfl⟩) hE hP hD hS hA (va_recv hE.K (q_snd hP) (ci := 4) (q0 := 0) rfl rfl) rfl hl.1 rfl (Nat.le_of_ble_eq_true rfl) dL_law_917 ⟨by show _ ≤ 1200130; omega, by show _ ≤ 5501080; omega⟩ (fun _u H locs hP hD hS hE => ?_)
                                                              have hP : va_P g.1 vwCl (wS g b z ++ wC g ad mc M sig z) H := hP
                                                              have hD : va_D (q_n s.heap) (wS g b z ++ wC g ad mc M sig z) := hD
                                                              refine lv_istore (lv' := [(23, .int (nI (tuS (wwM z k9) 8))), (22, .int (nI (ssr z k9))), (21, .int (nI k9)), (20, .int ((advS z s1 (sL z)).1)), (19, .int (nI s1)), (18, .int (nI b1)), (17, .int (nI a1)), (15, .long (dgA z (kM z))), (13, .long (sumJ (fun k => (nI (sL z)).toInt64 * (kM z (fn + k)).toInt64 * (kM z (fn + k)).toInt64) (sL z) - sumJ (fun c => (hearF (sL z) (kM z) c fn).toInt64 * (hearF (sL z) (kM z) c fn).toInt64) (sL z))), (12, .int (nI fn)), (10, .int (nI (endA z (sn z)))), (9, .int (nI (allW z (kM z) (sn z)))), (6, .int (nI (sn z))), (5, .int (nI (sL z))), (4, .int x), (3, .int (nI tt)), (2, .ref (b 0)), (1, .ref (ad 0)), (0, .ref (gB g))]) hx hb dL_law_920 hl (by decide) rfl (fun ls hl => ?_)
                                                              refine lv_aload_n hx hb dL_law_922 rfl (lv_at hl 17 rfl) ?_
                                                              refine lv_iload hx hb dL_law_923 (lv_at hl 2 rfl) ?_
                                                              refine lv_iload hx hb dL_law_925 (lv_at hl 1 rfl) ?_
                                                              refine q_wrV (wr := wS g b z) (As := [.int (nI k9), .int (nI (ssr z k9))]) (rest := []) ⟨hx, hb, hml, hown, hts⟩ (k_would hI hk9 hs9.1 hs9.2) (cwV 2 hts gL_law_X3_would rfl rfl rfl (by decide +kernel) ⟨Nat.le_of_ble_eq_true rfl, Nat.le_of_ble_eq_true rfl⟩) hE hP hD hS hA (va_recv hE.K (q_snd hP) (ci := 4) (q0 := 0) rfl rfl) rfl hl.1 rfl (Nat.le_of_ble_eq_true rfl) dL_law_927 ⟨by show _ ≤ 1200130; omega, by show _ ≤ 5501080; omega⟩ (fun _u H locs hP hD hS hE => ?_)
                                                              have hP : va_P g.1 vwCl (wS g b z ++ wC g ad mc M sig z) H := hP
                                                              have hD : va_D (q_n s.heap) (wS g b z ++ wC g ad mc M sig z) := hD
                                                              refine lv_iload hx hb dL_law_930 (lv_at hl 11 rfl) ?_
                                                              refine lv_icmp_ne (tgt := 961) hx hb dL_law_932 (by decide) (fun c_95 => ?_) (fun c_95 => ?_)
                                                              · exact absurd (congrArg nI wwM_own) c_95
                                                              · refine lv_aload_n hx hb dL_law_935 rfl (lv_at hl 17 rfl) ?_
                                                                refine lv_iload hx hb dL_law_936 (lv_at hl 2 rfl) ?_
                                                                refine lv_iload hx hb dL_law_938 (lv_at hl 0 rfl) ?_
                                                                refine q_wrV (wr := wS g b z) (As := [.int (nI k9), .int (nI (tuS (wwM z k9) 8))]) (rest := []) ⟨hx, hb, hml, hown, hts⟩ (k_would hI hk9 ht9.1 (by omega)) (cwV 2 hts gL_law_X3_would rfl rfl rfl (by decide +kernel) ⟨Nat.le_of_ble_eq_true rfl, Nat.le_of_ble_eq_true rfl⟩) hE hP hD hS hA (va_recv hE.K (q_snd hP) (ci := 4) (q0 := 0) rfl rfl) rfl hl.1 rfl (Nat.le_of_ble_eq_true rfl) dL_law_940 ⟨by show _ ≤ 1200130; omega, by show _ ≤ 5501080; omega⟩ (fun _u H locs hP hD hS hE => ?_)
                                                                have hP : va_P g.1 vwCl (wS g b z ++ wC g ad mc M sig z) H := hP
                                                                have hD : va_D (q_n s.heap) (wS g b z ++ wC g ad mc M sig z) := hD
                                                                refine lv_iload hx hb dL_law_943 (lv_at hl 11 rfl) ?_
                                                                refine q_icmp_gt (tgt := 961) hx hb (by have := wwM_lt (k := k9) (s_ := tuS (wwM z k9) 8) hV; omega) (by omega) dL_law_945 (by decide) (fun c_96 => ?_) (fun c_96 => ?_)
                                                                · exact absurd (wwM_tu hV hk9) (by omega)
                                                                · refine lv_iload hx hb dL_law_948 (lv_at hl 0 rfl) ?_
                                                                  refine lv_iconst (v := nI 1) hx hb dL_law_950 (by decide) ?_
                                                                  refine q_icmp_lt (tgt := 961) hx hb (by omega) (by omega) dL_law_951 (by decide) (fun c_97 => ?_) (fun c_97 => ?_)
                                                                  · exact absurd ht9.1 (by omega)
                                                                  · refine lv_iload hx hb dL_law_954 (lv_at hl 0 rfl) ?_
                                                                    refine lv_bipush (v := nI 9) hx hb dL_law_956 (by decide) ?_
                                                                    refine q_icmp_le (tgt := 963) hx hb (by omega) (by omega) dL_law_958 (by decide) (fun c_98 => ?_) (fun c_98 => ?_)
                                                                    · refine lv_aload_n hx hb dL_law_963 rfl (lv_at hl 17 rfl) ?_
                                                                      refine q_roV (As := []) (rest := []) ⟨hx, hb, hml, hown, hts⟩ (k_digest hI) (cwV 0 hts gL_law_X3_digest rfl rfl rfl (by decide +kernel) ⟨Nat.le_of_ble_eq_true rfl, Nat.le_of_ble_eq_true rfl⟩) hE (fun q h => hA q (Nat.le_trans hS.1 h)) (q_snd hP) (va_recv hE.K (q_snd hP) (ci := 4) (q0 := 0) rfl rfl) rfl hl.1 rfl (Nat.le_of_ble_eq_true rfl) dL_law_964 ⟨by show _ ≤ 1200130; omega, by show _ ≤ 5501080; omega⟩ ?_
                                                                      refine lv_lload hx hb dL_law_967 (lv_at hl 7 rfl) ?_
                                                                      refine W.lcmp hx hb dL_law_969 ?_
                                                                      refine lv_if_eq (tgt := 975) hx hb dL_law_970 (by decide) (fun c_99 => ?_) (fun c_99 => ?_)
                                                                      · exact kk _ _ _ hP hD hS hE (lv_sub hl [15, 16, 17, 18] rfl)
                                                                      · exact absurd lg_self c_99
                                                                    · exact absurd ht9.2 (by omega)
                                                          · exact absurd c_n c_93
                                                  · exact absurd (lik_le (a := a1) (b := b1) (s := s1) hL.2) c_80
                                        · exact absurd (lg_sq hV) c_54
                                      · refine lv_lload hx hb dL_law_661 (lv_at hl 1 rfl) ?_
                                        refine lv_aload_n hx hb dL_law_663 rfl (lv_at hl 10 rfl) ?_
                                        refine lv_iload hx hb dL_law_664 (lv_at hl 0 rfl) ?_
                                        refine lv_iload hx hb dL_law_666 (lv_at hl 2 rfl) ?_
                                        refine q_roV (As := [.int (nI q), .int (nI fn)]) (rest := [.long (sumJ (fun k => (nI (sL z)).toInt64 * (kM z (fn + k)).toInt64 * (kM z (fn + k)).toInt64) (sL z) - sumJ (fun c => (hearF (sL z) (kM z) c fn).toInt64 * (hearF (sL z) (kM z) c fn).toInt64) q)]) ⟨hx, hb, hml, hown, hts⟩ (k_hear hI (a := q) (t := fn) c_r (by omega)) (cwV 2 hts gL_law_X3_hear rfl rfl rfl (by decide +kernel) ⟨Nat.le_of_ble_eq_true rfl, Nat.le_of_ble_eq_true rfl⟩) hE (fun q h => hA q (Nat.le_trans hS.1 h)) (q_snd hP) (va_recv hE.K (q_snd hP) (ci := 4) (q0 := 0) rfl rfl) rfl hl.1 rfl (Nat.le_of_ble_eq_true rfl) dL_law_668 ⟨by show _ ≤ 1200130; omega, by show _ ≤ 5501080; omega⟩ ?_
                                        refine lv_i2l (v := (hearF (sL z) (kM z) q fn).toInt64) hx hb dL_law_671 rfl ?_
                                        refine lv_aload_n hx hb dL_law_672 rfl (lv_at hl 10 rfl) ?_
                                        refine lv_iload hx hb dL_law_673 (lv_at hl 0 rfl) ?_
                                        refine lv_iload hx hb dL_law_675 (lv_at hl 2 rfl) ?_
                                        refine q_roV (As := [.int (nI q), .int (nI fn)]) (rest := [.long ((hearF (sL z) (kM z) q fn).toInt64), .long (sumJ (fun k => (nI (sL z)).toInt64 * (kM z (fn + k)).toInt64 * (kM z (fn + k)).toInt64) (sL z) - sumJ (fun c => (hearF (sL z) (kM z) c fn).toInt64 * (hearF (sL z) (kM z) c fn).toInt64) q)]) ⟨hx, hb, hml, hown, hts⟩ (k_hear hI (a := q) (t := fn) c_r (by omega)) (cwV 2 hts gL_law_X3_hear rfl rfl rfl (by decide +kernel) ⟨Nat.le_of_ble_eq_true rfl, Nat.le_of_ble_eq_true rfl⟩) hE (fun q h => hA q (Nat.le_trans hS.1 h)) (q_snd hP) (va_recv hE.K (q_snd hP) (ci := 4) (q0 := 0) rfl rfl) rfl hl.1 rfl (Nat.le_of_ble_eq_true rfl) dL_law_677 ⟨by show _ ≤ 1200130; omega, by show _ ≤ 5501080; omega⟩ ?_
                                        refine lv_i2l (v := (hearF (sL z) (kM z) q fn).toInt64) hx hb dL_law_680 rfl ?_
                                        refine q_lmul (v := ((hearF (sL z) (kM z) q fn).toInt64) * ((hearF (sL z) (kM z) q fn).toInt64)) hx hb dL_law_681 rfl ?_
                                        refine q_lsub (v := sumJ (fun k => (nI (sL z)).toInt64 * (kM z (fn + k)).toInt64 * (kM z (fn + k)).toInt64) (sL z) - sumJ (fun c => (hearF (sL z) (kM z) c fn).toInt64 * (hearF (sL z) (kM z) c fn).toInt64) (q + 1)) hx hb dL_law_682 (by show _ = _ - (_ + _); grind) ?_
                                        refine lv_lstore (lv' := [(13, .long (sumJ (fun k => (nI (sL z)).toInt64 * (kM z (fn + k)).toInt64 * (kM z (fn + k)).toInt64) (sL z) - sumJ (fun c => (hearF (sL z) (kM z) c fn).toInt64 * (hearF (sL z) (kM z) c fn).toInt64) (q + 1))), (15, .int (nI q)), (12, .int (nI fn)), (10, .int (nI (endA z (sn z)))), (9, .int (nI (allW z (kM z) (sn z)))), (6, .int (nI (sn z))), (5, .int (nI (sL z))), (4, .int x), (3, .int (nI tt)), (2, .ref (b 0)), (1, .ref (ad 0)), (0, .ref (gB g))]) hx hb dL_law_683 hl (by decide) rfl (fun ls hl => ?_)
                                        refine lv_iinc (v := nI (q + 1)) (lv' := [(15, .int (nI (q + 1))), (13, .long (sumJ (fun k => (nI (sL z)).toInt64 * (kM z (fn + k)).toInt64 * (kM z (fn + k)).toInt64) (sL z) - sumJ (fun c => (hearF (sL z) (kM z) c fn).toInt64 * (hearF (sL z) (kM z) c fn).toInt64) (q + 1))), (12, .int (nI fn)), (10, .int (nI (endA z (sn z)))), (9, .int (nI (allW z (kM z) (sn z)))), (6, .int (nI (sn z))), (5, .int (nI (sL z))), (4, .int x), (3, .int (nI tt)), (2, .ref (b 0)), (1, .ref (ad 0)), (0, .ref (gB g))]) hx hb dL_law_685 hl (k := 1) rfl (nI_1 _) (by decide) rfl (fun ls hl => ?_)
                                        refine lv_goto (tgt := 654) hx hb dL_law_688 (by decide) ?_
                                        exact ih_654 (q + 1)  (by omega) (by omega)  _ _ hP hD hS hE _ (lv_sub hl [0, 1, 2, 3, 4, 5, 6, 7, 8, 9, 10, 11] rfl)
                                  
                                  exact lp_654 (sL z + 1) 0  (Nat.zero_le _) (by omega)  _ _ hP hD hS hE _ (lv_sub hl [0, 1, 2, 3, 4, 5, 6, 7, 8, 9, 10, 11] rfl)
                                · refine lv_lload hx hb dL_law_615 (lv_at hl 1 rfl) ?_
                                  refine lv_iload hx hb dL_law_617 (lv_at hl 6 rfl) ?_
                                  refine lv_i2l (v := (nI (sL z)).toInt64) hx hb dL_law_619 rfl ?_
                                  refine lv_aload_n hx hb dL_law_620 rfl (lv_at hl 10 rfl) ?_
                                  refine lv_iload hx hb dL_law_621 (lv_at hl 2 rfl) ?_
                                  refine lv_iload hx hb dL_law_623 (lv_at hl 0 rfl) ?_
                                  refine q_iadd (v := nI (fn + q)) hx hb dL_law_625 (nI_add _ _) ?_
                                  refine q_roV (As := [.int (nI (fn + q))]) (rest := [.long ((nI (sL z)).toInt64), .long (sumJ (fun k => (nI (sL z)).toInt64 * (kM z (fn + k)).toInt64 * (kM z (fn + k)).toInt64) q)]) ⟨hx, hb, hml, hown, hts⟩ (k_sky hI (t := fn + q) (by omega)) (cwV 1 hts gL_law_X3_sky rfl rfl rfl (by decide +kernel) ⟨Nat.le_of_ble_eq_true rfl, Nat.le_of_ble_eq_true rfl⟩) hE (fun q h => hA q (Nat.le_trans hS.1 h)) (q_snd hP) (va_recv hE.K (q_snd hP) (ci := 4) (q0 := 0) rfl rfl) rfl hl.1 rfl (Nat.le_of_ble_eq_true rfl) dL_law_626 ⟨by show _ ≤ 1200130; omega, by show _ ≤ 5501080; omega⟩ ?_
                                  refine lv_i2l (v := (kM z (fn + q)).toInt64) hx hb dL_law_629 rfl ?_
                                  refine q_lmul (v := ((nI (sL z)).toInt64) * ((kM z (fn + q)).toInt64)) hx hb dL_law_630 rfl ?_
                                  refine lv_aload_n hx hb dL_law_631 rfl (lv_at hl 10 rfl) ?_
                                  refine lv_iload hx hb dL_law_632 (lv_at hl 2 rfl) ?_
                                  refine lv_iload hx hb dL_law_634 (lv_at hl 0 rfl) ?_
                                  refine q_iadd (v := nI (fn + q)) hx hb dL_law_636 (nI_add _ _) ?_
                                  refine q_roV (As := [.int (nI (fn + q))]) (rest := [.long (((nI (sL z)).toInt64) * ((kM z (fn + q)).toInt64)), .long (sumJ (fun k => (nI (sL z)).toInt64 * (kM z (fn + k)).toInt64 * (kM z (fn + k)).toInt64) q)]) ⟨hx, hb, hml, hown, hts⟩ (k_sky hI (t := fn + q) (by omega)) (cwV 1 hts gL_law_X3_sky rfl rfl rfl (by decide +kernel) ⟨Nat.le_of_ble_eq_true rfl, Nat.le_of_ble_eq_true rfl⟩) hE (fun q h => hA q (Nat.le_trans hS.1 h)) (q_snd hP) (va_recv hE.K (q_snd hP) (ci := 4) (q0 := 0) rfl rfl) rfl hl.1 rfl (Nat.le_of_ble_eq_true rfl) dL_law_637 ⟨by show _ ≤ 1200130; omega, by show _ ≤ 5501080; omega⟩ ?_
                                  refine lv_i2l (v := (kM z (fn + q)).toInt64) hx hb dL_law_640 rfl ?_
                                  refine q_lmul (v := (((nI (sL z)).toInt64) * ((kM z (fn + q)).toInt64)) * ((kM z (fn + q)).toInt64)) hx hb dL_law_641 rfl ?_
                                  refine q_ladd (v := sumJ (fun k => (nI (sL z)).toInt64 * (kM z (fn + k)).toInt64 * (kM z (fn + k)).toInt64) (q + 1)) hx hb dL_law_642 rfl ?_
                                  refine lv_lstore (lv' := [(13, .long (sumJ (fun k => (nI (sL z)).toInt64 * (kM z (fn + k)).toInt64 * (kM z (fn + k)).toInt64) (q + 1))), (15, .int (nI q)), (12, .int (nI fn)), (10, .int (nI (endA z (sn z)))), (9, .int (nI (allW z (kM z) (sn z)))), (6, .int (nI (sn z))), (5, .int (nI (sL z))), (4, .int x), (3, .int (nI tt)), (2, .ref (b 0)), (1, .ref (ad 0)), (0, .ref (gB g))]) hx hb dL_law_643 hl (by decide) rfl (fun ls hl => ?_)
                                  refine lv_iinc (v := nI (q + 1)) (lv' := [(15, .int (nI (q + 1))), (13, .long (sumJ (fun k => (nI (sL z)).toInt64 * (kM z (fn + k)).toInt64 * (kM z (fn + k)).toInt64) (q + 1))), (12, .int (nI fn)), (10, .int (nI (endA z (sn z)))), (9, .int (nI (allW z (kM z) (sn z)))), (6, .int (nI (sn z))), (5, .int (nI (sL z))), (4, .int x), (3, .int (nI tt)), (2, .ref (b 0)), (1, .ref (ad 0)), (0, .ref (gB g))]) hx hb dL_law_645 hl (k := 1) rfl (nI_1 _) (by decide) rfl (fun ls hl => ?_)
                                  refine lv_goto (tgt := 608) hx hb dL_law_648 (by decide) ?_
                                  exact ih_608 (q + 1)  (by omega) (by omega)  _ _ hP hD hS hE _ (lv_sub hl [0, 1, 2, 3, 4, 5, 6, 7, 8, 9, 10, 11] rfl)
                            
                            exact lp_608 (sL z + 1) 0  (Nat.zero_le _) (by omega)  _ _ hP hD hS hE _ (lv_sub hl [0, 1, 2, 4, 5, 7, 8, 9, 10, 11, 12, 13] rfl)
                        · exact absurd rfl c_6
                      · refine lv_aload_n hx hb dL_law_476 rfl (lv_at hl 10 rfl) ?_
                        refine lv_iload hx hb dL_law_477 (lv_at hl 0 rfl) ?_
                        refine q_roV (As := [.int (nI t)]) (rest := []) ⟨hx, hb, hml, hown, hts⟩ (k_sky hI (t := t) (by omega)) (cwV 1 hts gL_law_X3_sky rfl rfl rfl (by decide +kernel) ⟨Nat.le_of_ble_eq_true rfl, Nat.le_of_ble_eq_true rfl⟩) hE (fun q h => hA q (Nat.le_trans hS.1 h)) (q_snd hP) (va_recv hE.K (q_snd hP) (ci := 4) (q0 := 0) rfl rfl) rfl hl.1 rfl (Nat.le_of_ble_eq_true rfl) dL_law_479 ⟨by show _ ≤ 1200130; omega, by show _ ≤ 5501080; omega⟩ ?_
                        refine lv_istore (lv' := [(13, .int (kM z t)), (12, .int (nI t)), (11, .int (hiF (kM z) (min t (endA z (sn z))))), (10, .int (nI (endA z (sn z)))), (9, .int (nI (allW z (kM z) (sn z)))), (7, .int (nI (sumN (ssr z) (sn z)))), (6, .int (nI (sn z))), (5, .int (nI (sL z))), (4, .int x), (3, .int (nI tt)), (2, .ref (b 0)), (1, .ref (ad 0)), (0, .ref (gB g))]) hx hb dL_law_482 hl (by decide) rfl (fun ls hl => ?_)
                        refine lv_iload hx hb dL_law_484 (lv_at hl 0 rfl) ?_
                        refine lv_aload_n hx hb dL_law_486 rfl (lv_at hl 10 rfl) ?_
                        refine va_get (v := .ref (b 1)) (C := RX4) (T := TX4) (N := 4) hx hb hts (q_sub wsX40 483 rfl) hown hE.K hP 0 rfl rfl 3 (by decide) (hts _ (List.mem_of_getElem? (i := 10) rfl)) (fun _ h9 => h9) rfl dL_law_487 ?_
                        refine lv_iload hx hb dL_law_490 (lv_at hl 1 rfl) ?_
                        refine lv_bipush (v := nI 20) hx hb dL_law_492 (by decide) ?_
                        refine q_irem (v := nI (t % 20)) hx hb dL_law_494 (q_ne0 (by omega) (by omega)) (q_rem (by omega) (by omega) (by omega)) ?_
                        refine q_iald (v := (sst z) (t % 20)) hx hb hE (hP 1 _ rfl) (by omega) (by omega) dL_law_495 rfl ?_
                        refine q_isub (v := kM z t - sst z (t % 20)) hx hb dL_law_496 rfl ?_
                        refine q_mabs (v := ab (kM z t - sst z (t % 20))) hx hb (hml.trans hl.1.symm) hown (hts _ (List.mem_of_getElem? (i := 3) rfl)) (hts _ (List.mem_of_getElem? (i := 4) rfl)) (hts _ (List.mem_of_getElem? (i := 5) rfl)) (hts _ (List.mem_of_getElem? (i := 6) rfl)) (Nat.le_of_ble_eq_true rfl) (Nat.le_of_ble_eq_true rfl) (by show _ ≤ 1200130; omega) (by show _ ≤ 5501080; omega) dL_law_497 rfl ?_
                        refine lv_iload hx hb dL_law_500 (lv_at hl 5 rfl) ?_
                        refine lv_icmp_gt (tgt := 527) hx hb dL_law_502 (by decide) (fun c_100 => ?_) (fun c_100 => ?_)
                        · exact absurd (far_ab hV) (Int32.not_le.mpr c_100)
                        · refine lv_iload hx hb dL_law_505 (lv_at hl 1 rfl) ?_
                          refine lv_iload hx hb dL_law_507 (lv_at hl 3 rfl) ?_
                          refine q_icmp_lt (tgt := 529) hx hb (by omega) (by omega) dL_law_509 (by decide) (fun c_e => ?_) (fun c_e => ?_)
                          · refine lv_iload hx hb dL_law_529 (lv_at hl 1 rfl) ?_
                            refine lv_iload hx hb dL_law_531 (lv_at hl 3 rfl) ?_
                            refine q_icmp_ge (tgt := 548) hx hb (by omega) (by omega) dL_law_533 (by decide) (fun c_101 => ?_) (fun c_101 => ?_)
                            · exact absurd c_e (by omega)
                            · have e9 : hiF (kM z) (min (t + 1) (endA z (sn z))) = hiF (kM z) (t + 1) := by rw [Nat.min_eq_left (by omega)]
                              refine lv_iload hx hb dL_law_536 (lv_at hl 2 rfl) ?_
                              refine lv_iload hx hb dL_law_538 (lv_at hl 0 rfl) ?_
                              refine q_mabs (v := ab (kM z t)) hx hb (hml.trans hl.1.symm) hown (hts _ (List.mem_of_getElem? (i := 3) rfl)) (hts _ (List.mem_of_getElem? (i := 4) rfl)) (hts _ (List.mem_of_getElem? (i := 5) rfl)) (hts _ (List.mem_of_getElem? (i := 6) rfl)) (Nat.le_of_ble_eq_true rfl) (Nat.le_of_ble_eq_true rfl) (by show _ ≤ 1200130; omega) (by show _ ≤ 5501080; omega) dL_law_540 rfl ?_
                              refine q_mmax (v := hiF (kM z) (t + 1)) hx hb (hml.trans hl.1.symm) hown (hts _ (List.mem_of_getElem? (i := 7) rfl)) (hts _ (List.mem_of_getElem? (i := 8) rfl)) (hts _ (List.mem_of_getElem? (i := 5) rfl)) (hts _ (List.mem_of_getElem? (i := 9) rfl)) (Nat.le_of_ble_eq_true rfl) (Nat.le_of_ble_eq_true rfl) (by show _ ≤ 1200130; omega) (by show _ ≤ 5501080; omega) dL_law_543 (by rw [Nat.min_eq_left (by omega)]; rfl) ?_
                              refine lv_istore (lv' := [(11, .int (hiF (kM z) (t + 1))), (13, .int (kM z t)), (12, .int (nI t)), (10, .int (nI (endA z (sn z)))), (9, .int (nI (allW z (kM z) (sn z)))), (7, .int (nI (sumN (ssr z) (sn z)))), (6, .int (nI (sn z))), (5, .int (nI (sL z))), (4, .int x), (3, .int (nI tt)), (2, .ref (b 0)), (1, .ref (ad 0)), (0, .ref (gB g))]) hx hb dL_law_546 hl (by decide) rfl (fun ls hl => ?_)
                              refine lv_iinc (v := nI (t + 1)) (lv' := [(12, .int (nI (t + 1))), (11, .int (hiF (kM z) (t + 1))), (13, .int (kM z t)), (10, .int (nI (endA z (sn z)))), (9, .int (nI (allW z (kM z) (sn z)))), (7, .int (nI (sumN (ssr z) (sn z)))), (6, .int (nI (sn z))), (5, .int (nI (sL z))), (4, .int x), (3, .int (nI tt)), (2, .ref (b 0)), (1, .ref (ad 0)), (0, .ref (gB g))]) hx hb dL_law_548 hl (k := 2) rfl (nI_1 _) (by decide) rfl (fun ls hl => ?_)
                              refine lv_goto (tgt := 466) hx hb dL_law_551 (by decide) ?_
                              exact ih_466 (t + 1)  (by omega) (by omega)  _ _ hP hD hS hE _ (by rw [e9]; exact lv_sub hl [0, 1, 3, 4, 5, 6, 7, 8, 9, 10, 11, 12] rfl)
                          · refine lv_iload hx hb dL_law_512 (lv_at hl 0 rfl) ?_
                            refine lv_aload_n hx hb dL_law_514 rfl (lv_at hl 10 rfl) ?_
                            refine va_get (v := .ref (b 1)) (C := RX4) (T := TX4) (N := 4) hx hb hts (q_sub wsX40 483 rfl) hown hE.K hP 0 rfl rfl 3 (by decide) (hts _ (List.mem_of_getElem? (i := 10) rfl)) (fun _ h9 => h9) rfl dL_law_515 ?_
                            refine lv_iload hx hb dL_law_518 (lv_at hl 1 rfl) ?_
                            refine lv_bipush (v := nI 20) hx hb dL_law_520 (by decide) ?_
                            refine q_irem (v := nI (t % 20)) hx hb dL_law_522 (q_ne0 (by omega) (by omega)) (q_rem (by omega) (by omega) (by omega)) ?_
                            refine q_iald (v := (sst z) (t % 20)) hx hb hE (hP 1 _ rfl) (by omega) (by omega) dL_law_523 rfl ?_
                            refine lv_icmp_eq (tgt := 529) hx hb dL_law_524 (by decide) (fun c_102 => ?_) (fun c_102 => ?_)
                            · refine lv_iload hx hb dL_law_529 (lv_at hl 1 rfl) ?_
                              refine lv_iload hx hb dL_law_531 (lv_at hl 3 rfl) ?_
                              refine q_icmp_ge (tgt := 548) hx hb (by omega) (by omega) dL_law_533 (by decide) (fun c_103 => ?_) (fun c_103 => ?_)
                              · have e9 : hiF (kM z) (min (t + 1) (endA z (sn z))) = hiF (kM z) (min t (endA z (sn z))) := by rw [Nat.min_eq_right (by omega), Nat.min_eq_right (by omega)]
                                refine lv_iinc (v := nI (t + 1)) (lv' := [(12, .int (nI (t + 1))), (13, .int (kM z t)), (11, .int (hiF (kM z) (min t (endA z (sn z))))), (10, .int (nI (endA z (sn z)))), (9, .int (nI (allW z (kM z) (sn z)))), (7, .int (nI (sumN (ssr z) (sn z)))), (6, .int (nI (sn z))), (5, .int (nI (sL z))), (4, .int x), (3, .int (nI tt)), (2, .ref (b 0)), (1, .ref (ad 0)), (0, .ref (gB g))]) hx hb dL_law_548 hl (k := 1) rfl (nI_1 _) (by decide) rfl (fun ls hl => ?_)
                                refine lv_goto (tgt := 466) hx hb dL_law_551 (by decide) ?_
                                exact ih_466 (t + 1)  (by omega) (by omega)  _ _ hP hD hS hE _ (by rw [e9]; exact lv_sub hl [0, 2, 3, 4, 5, 6, 7, 8, 9, 10, 11, 12] rfl)
                              · exact absurd c_e (by omega)
                            · exact absurd (kM_end c_e) c_102
                  have e11 : nI 0 = hiF (kM z) (min 0 (endA z (sn z))) := by rw [Nat.zero_min]; rfl
                  rw [e11] at hl
                  exact lp_466 ((endA z (sn z) + 20) + 1) 0  (Nat.zero_le _) (by omega)  _ _ hP hD hS hE _ (lv_sub hl [0, 1, 2, 3, 5, 6, 7, 8, 9, 10, 11, 12] rfl)
                · exact absurd (fr_ok hV) c_5
      · have hb_ := hV.h c_k
        have hd_ := hV.hL c_k
        have hef := endF_le hV c_k
        have hwr := wrF_le (sL z) (kM z) (scd z k) (sdl z k) (swd z k) (ssd z k)
        refine lv_iload hx hb dL_law_88 (lv_at hl 4 rfl) ?_
        refine lv_aload_n hx hb dL_law_90 rfl (lv_at hl 10 rfl) ?_
        refine lv_iload hx hb dL_law_91 (lv_at hl 0 rfl) ?_
        refine lv_iconst (v := nI 1) hx hb dL_law_93 (by decide) ?_
        refine q_roV (As := [.int (nI k), .int (nI 1)]) (rest := [.int (nI (sumN (ssr z) k))]) ⟨hx, hb, hml, hown, hts⟩ (k_about1 hI c_k) (cwV 2 hts gL_law_X3_about rfl rfl rfl (by decide +kernel) ⟨Nat.le_of_ble_eq_true rfl, Nat.le_of_ble_eq_true rfl⟩) hE (fun q h => hA q (Nat.le_trans hS.1 h)) (q_snd hP) (va_recv hE.K (q_snd hP) (ci := 4) (q0 := 0) rfl rfl) rfl hl.1 rfl (Nat.le_of_ble_eq_true rfl) dL_law_94 ⟨by show _ ≤ 1200130; omega, by show _ ≤ 5501080; omega⟩ ?_
        refine q_iadd (v := nI (sumN (ssr z) (k + 1))) hx hb dL_law_97 (nI_add _ _) ?_
        refine lv_istore (lv' := [(7, .int (nI (sumN (ssr z) (k + 1)))), (11, .int (nI k)), (10, .int (nI (endA z k))), (9, .int (nI (allW z (kM z) k))), (8, .int (nI (sumN (ssd z) k))), (6, .int (nI (sn z))), (5, .int (nI (sL z))), (4, .int x), (3, .int (nI tt)), (2, .ref (b 0)), (1, .ref (ad 0)), (0, .ref (gB g))]) hx hb dL_law_98 hl (by decide) rfl (fun ls hl => ?_)
        refine lv_aload_n hx hb dL_law_100 rfl (lv_at hl 10 rfl) ?_
        refine lv_iload hx hb dL_law_101 (lv_at hl 1 rfl) ?_
        refine lv_iconst (v := nI 3) hx hb dL_law_103 (by decide) ?_
        refine q_roV (As := [.int (nI k), .int (nI 3)]) (rest := []) ⟨hx, hb, hml, hown, hts⟩ (k_about3 hI c_k) (cwV 2 hts gL_law_X3_about rfl rfl rfl (by decide +kernel) ⟨Nat.le_of_ble_eq_true rfl, Nat.le_of_ble_eq_true rfl⟩) hE (fun q h => hA q (Nat.le_trans hS.1 h)) (q_snd hP) (va_recv hE.K (q_snd hP) (ci := 4) (q0 := 0) rfl rfl) rfl hl.1 rfl (Nat.le_of_ble_eq_true rfl) dL_law_104 ⟨by show _ ≤ 1200130; omega, by show _ ≤ 5501080; omega⟩ ?_
        refine lv_istore (lv' := [(12, .int (nI (ssd z k))), (7, .int (nI (sumN (ssr z) (k + 1)))), (11, .int (nI k)), (10, .int (nI (endA z k))), (9, .int (nI (allW z (kM z) k))), (8, .int (nI (sumN (ssd z) k))), (6, .int (nI (sn z))), (5, .int (nI (sL z))), (4, .int x), (3, .int (nI tt)), (2, .ref (b 0)), (1, .ref (ad 0)), (0, .ref (gB g))]) hx hb dL_law_107 hl (by decide) rfl (fun ls hl => ?_)
        refine lv_iconst (v := nI 0) hx hb dL_law_109 (by decide) ?_
        refine lv_istore (lv' := [(13, .int (nI 0)), (12, .int (nI (ssd z k))), (7, .int (nI (sumN (ssr z) (k + 1)))), (11, .int (nI k)), (10, .int (nI (endA z k))), (9, .int (nI (allW z (kM z) k))), (8, .int (nI (sumN (ssd z) k))), (6, .int (nI (sn z))), (5, .int (nI (sL z))), (4, .int x), (3, .int (nI tt)), (2, .ref (b 0)), (1, .ref (ad 0)), (0, .ref (gB g))]) hx hb dL_law_110 hl (by decide) rfl (fun ls hl => ?_)
        refine lv_aload_n hx hb dL_law_112 rfl (lv_at hl 12 rfl) ?_
        refine lv_iload hx hb dL_law_113 (lv_at hl 3 rfl) ?_
        refine lv_bipush (v := nI 6) hx hb dL_law_115 (by decide) ?_
        refine q_roV (As := [.int (nI k), .int (nI 6)]) (rest := []) ⟨hx, hb, hml, hown, hts⟩ (k_about6 hI c_k) (cwV 2 hts gL_law_X3_about rfl rfl rfl (by decide +kernel) ⟨Nat.le_of_ble_eq_true rfl, Nat.le_of_ble_eq_true rfl⟩) hE (fun q h => hA q (Nat.le_trans hS.1 h)) (q_snd hP) (va_recv hE.K (q_snd hP) (ci := 4) (q0 := 0) rfl rfl) rfl hl.1 rfl (Nat.le_of_ble_eq_true rfl) dL_law_117 ⟨by show _ ≤ 1200130; omega, by show _ ≤ 5501080; omega⟩ ?_
        refine lv_istore (lv' := [(14, .int (fnF (fun w => hearF (sL z) (kM z) (scd z k) (w * sL z + sdl z k)) (ssd z k))), (13, .int (nI 0)), (12, .int (nI (ssd z k))), (7, .int (nI (sumN (ssr z) (k + 1)))), (11, .int (nI k)), (10, .int (nI (endA z k))), (9, .int (nI (allW z (kM z) k))), (8, .int (nI (sumN (ssd z) k))), (6, .int (nI (sn z))), (5, .int (nI (sL z))), (4, .int x), (3, .int (nI tt)), (2, .ref (b 0)), (1, .ref (ad 0)), (0, .ref (gB g))]) hx hb dL_law_120 hl (by decide) rfl (fun ls hl => ?_)
        refine lv_iload hx hb dL_law_122 (lv_at hl 2 rfl) ?_
        refine q_if_ne (tgt := 136) hx hb (by omega) dL_law_124 (by decide) (fun c_s => ?_) (fun c_s => ?_)
        · refine lv_iconst (v := nI 0) hx hb dL_law_136 (by decide) ?_
          have e15 : nI 0 = bI (lsB (fun w => hearF (sL z) (kM z) (scd z k) (w * sL z + sdl z k)) (fnF (fun w => hearF (sL z) (kM z) (scd z k) (w * sL z + sdl z k)) (ssd z k)) (ssd z k) 0 = true) := (bI_f (by show ¬ decide (ssd z k = 0) = true; rw [decide_eq_true_iff]; omega))
          refine W.eq (g2 := F0 m 137 ls [.int (bI (lsB (fun w => hearF (sL z) (kM z) (scd z k) (w * sL z + sdl z k)) (fnF (fun w => hearF (sL z) (kM z) (scd z k) (w * sL z + sdl z k)) (ssd z k)) (ssd z k) 0 = true))]) (by rw [← e15]; rfl) ?_
          refine lv_istore (lv' := [(15, .int (bI (lsB (fun w => hearF (sL z) (kM z) (scd z k) (w * sL z + sdl z k)) (fnF (fun w => hearF (sL z) (kM z) (scd z k) (w * sL z + sdl z k)) (ssd z k)) (ssd z k) 0 = true))), (14, .int (fnF (fun w => hearF (sL z) (kM z) (scd z k) (w * sL z + sdl z k)) (ssd z k))), (13, .int (nI 0)), (12, .int (nI (ssd z k))), (7, .int (nI (sumN (ssr z) (k + 1)))), (11, .int (nI k)), (10, .int (nI (endA z k))), (9, .int (nI (allW z (kM z) k))), (8, .int (nI (sumN (ssd z) k))), (6, .int (nI (sn z))), (5, .int (nI (sL z))), (4, .int x), (3, .int (nI tt)), (2, .ref (b 0)), (1, .ref (ad 0)), (0, .ref (gB g))]) hx hb dL_law_137 hl (by decide) rfl (fun ls hl => ?_)
          refine lv_iconst (v := nI 0) hx hb dL_law_139 (by decide) ?_
          refine lv_istore (lv' := [(16, .int (nI 0)), (15, .int (bI (lsB (fun w => hearF (sL z) (kM z) (scd z k) (w * sL z + sdl z k)) (fnF (fun w => hearF (sL z) (kM z) (scd z k) (w * sL z + sdl z k)) (ssd z k)) (ssd z k) 0 = true))), (14, .int (fnF (fun w => hearF (sL z) (kM z) (scd z k) (w * sL z + sdl z k)) (ssd z k))), (13, .int (nI 0)), (12, .int (nI (ssd z k))), (7, .int (nI (sumN (ssr z) (k + 1)))), (11, .int (nI k)), (10, .int (nI (endA z k))), (9, .int (nI (allW z (kM z) k))), (8, .int (nI (sumN (ssd z) k))), (6, .int (nI (sn z))), (5, .int (nI (sL z))), (4, .int x), (3, .int (nI tt)), (2, .ref (b 0)), (1, .ref (ad 0)), (0, .ref (gB g))]) hx hb dL_law_140 hl (by decide) rfl (fun ls hl => ?_)
          have lp_142 : ∀ (n_ j : Nat) , j ≤ ssd z k → ssd z k + 1 ≤ j + n_ → ∀ (H : Heap) (locs : List Loc), va_P g.1 vwCl (wS g b z ++ wC g ad mc M sig z) H → va_D (q_n s.heap) (wS g b z ++ wC g ad mc M sig z) → va_S (q_n s.heap) s.heap H locs → Ev g (q_n s.heap) s H → ∀ (ls : Array Slot), lv_has ls 24 [(16, .int (nI j)), (15, .int (bI (lsB (fun w => hearF (sL z) (kM z) (scd z k) (w * sL z + sdl z k)) (fnF (fun w => hearF (sL z) (kM z) (scd z k) (w * sL z + sdl z k)) (ssd z k)) (ssd z k) j = true))), (13, .int (nI (wrF (sL z) (kM z) (scd z k) (sdl z k) (swd z k) j))), (14, .int (fnF (fun w => hearF (sL z) (kM z) (scd z k) (w * sL z + sdl z k)) (ssd z k))), (12, .int (nI (ssd z k))), (11, .int (nI k)), (10, .int (nI (endA z k))), (9, .int (nI (allW z (kM z) k))), (8, .int (nI (sumN (ssd z) k))), (7, .int (nI (sumN (ssr z) (k + 1)))), (6, .int (nI (sn z))), (5, .int (nI (sL z))), (4, .int x), (3, .int (nI tt)), (2, .ref (b 0)), (1, .ref (ad 0)), (0, .ref (gB g))] → W p l e room_1 s m #[Value.ref (gB g)] below meth c H locs cells slots (Q) (F0 m 142 ls []) := by
            intro n_
            induction n_ with
            | zero => intro j  hi_ hn_; exact absurd hn_ (by omega)
            | succ n_ ih_142 =>
              intro j  hi_j hn_j  H locs hP hD hS hE ls hl
              refine lv_iload hx hb dL_law_142 (lv_at hl 0 rfl) ?_
              refine lv_iload hx hb dL_law_144 (lv_at hl 4 rfl) ?_
              refine q_icmp_ge (tgt := 318) hx hb (by omega) (by omega) dL_law_146 (by decide) (fun c_w => ?_) (fun c_w => ?_)
              · have ej : j = ssd z k := by omega
                rw [ej] at hl
                refine lv_iload hx hb dL_law_318 (lv_at hl 1 rfl) ?_
                refine q_ifb_eq (tgt := 367) hx hb dL_law_320 (by decide) (fun c_104 => ?_) (fun c_104 => ?_)
                · exact absurd lsB_all c_104
                · refine lv_iload hx hb dL_law_323 (lv_at hl 2 rfl) ?_
                  refine lv_aload_n hx hb dL_law_325 rfl (lv_at hl 15 rfl) ?_
                  refine lv_iload hx hb dL_law_326 (lv_at hl 5 rfl) ?_
                  refine lv_iconst (v := nI 4) hx hb dL_law_328 (by decide) ?_
                  refine q_roV (As := [.int (nI k), .int (nI 4)]) (rest := [.int (nI (wrF (sL z) (kM z) (scd z k) (sdl z k) (swd z k) (ssd z k)))]) ⟨hx, hb, hml, hown, hts⟩ (k_about4 hI c_k) (cwV 2 hts gL_law_X3_about rfl rfl rfl (by decide +kernel) ⟨Nat.le_of_ble_eq_true rfl, Nat.le_of_ble_eq_true rfl⟩) hE (fun q h => hA q (Nat.le_trans hS.1 h)) (q_snd hP) (va_recv hE.K (q_snd hP) (ci := 4) (q0 := 0) rfl rfl) rfl hl.1 rfl (Nat.le_of_ble_eq_true rfl) dL_law_329 ⟨by show _ ≤ 1200130; omega, by show _ ≤ 5501080; omega⟩ ?_
                  refine q_icmp_ne (tgt := 367) hx hb (by omega) (by omega) dL_law_332 (by decide) (fun c_105 => ?_) (fun c_105 => ?_)
                  · exact absurd rfl c_105
                  · refine lv_aload_n hx hb dL_law_335 rfl (lv_at hl 15 rfl) ?_
                    refine lv_iload hx hb dL_law_336 (lv_at hl 5 rfl) ?_
                    refine lv_iconst (v := nI 5) hx hb dL_law_338 (by decide) ?_
                    refine q_roV (As := [.int (nI k), .int (nI 5)]) (rest := []) ⟨hx, hb, hml, hown, hts⟩ (k_about5 hI c_k) (cwV 2 hts gL_law_X3_about rfl rfl rfl (by decide +kernel) ⟨Nat.le_of_ble_eq_true rfl, Nat.le_of_ble_eq_true rfl⟩) hE (fun q h => hA q (Nat.le_trans hS.1 h)) (q_snd hP) (va_recv hE.K (q_snd hP) (ci := 4) (q0 := 0) rfl rfl) rfl hl.1 rfl (Nat.le_of_ble_eq_true rfl) dL_law_339 ⟨by show _ ≤ 1200130; omega, by show _ ≤ 5501080; omega⟩ ?_
                    refine lv_iload hx hb dL_law_342 (lv_at hl 4 rfl) ?_
                    refine q_if_ne (tgt := 351) hx hb (by omega) dL_law_344 (by decide) (fun c_z => ?_) (fun c_z => ?_)
                    · refine lv_aload_n hx hb dL_law_351 rfl (lv_at hl 15 rfl) ?_
                      refine lv_iload hx hb dL_law_352 (lv_at hl 5 rfl) ?_
                      refine lv_iconst (v := nI 2) hx hb dL_law_354 (by decide) ?_
                      refine q_roV (As := [.int (nI k), .int (nI 2)]) (rest := [.int (nI (endF (sL z) (ssd z k) (sdl z k)))]) ⟨hx, hb, hml, hown, hts⟩ (k_about2 hI c_k) (cwV 2 hts gL_law_X3_about rfl rfl rfl (by decide +kernel) ⟨Nat.le_of_ble_eq_true rfl, Nat.le_of_ble_eq_true rfl⟩) hE (fun q h => hA q (Nat.le_trans hS.1 h)) (q_snd hP) (va_recv hE.K (q_snd hP) (ci := 4) (q0 := 0) rfl rfl) rfl hl.1 rfl (Nat.le_of_ble_eq_true rfl) dL_law_355 ⟨by show _ ≤ 1200130; omega, by show _ ≤ 5501080; omega⟩ ?_
                      refine lv_iload hx hb dL_law_358 (lv_at hl 11 rfl) ?_
                      refine lv_iload hx hb dL_law_360 (lv_at hl 4 rfl) ?_
                      refine q_imul (v := nI ((sL z) * (ssd z k))) hx hb dL_law_362 (pk_mul _ _) ?_
                      refine q_iadd (v := nI (endF (sL z) (ssd z k) (sdl z k))) hx hb dL_law_363 (endF_e c_z) ?_
                      refine q_icmp_eq (tgt := 369) hx hb (by omega) (by omega) dL_law_364 (by decide) (fun c_106 => ?_) (fun c_106 => ?_)
                      · refine lv_iload hx hb dL_law_369 (lv_at hl 8 rfl) ?_
                        refine lv_iload hx hb dL_law_371 (lv_at hl 4 rfl) ?_
                        refine q_iadd (v := nI (sumN (ssd z) (k + 1))) hx hb dL_law_373 (nI_add _ _) ?_
                        refine lv_istore (lv' := [(8, .int (nI (sumN (ssd z) (k + 1)))), (16, .int (nI (ssd z k))), (15, .int (bI (lsB (fun w => hearF (sL z) (kM z) (scd z k) (w * sL z + sdl z k)) (fnF (fun w => hearF (sL z) (kM z) (scd z k) (w * sL z + sdl z k)) (ssd z k)) (ssd z k) (ssd z k) = true))), (13, .int (nI (wrF (sL z) (kM z) (scd z k) (sdl z k) (swd z k) (ssd z k)))), (14, .int (fnF (fun w => hearF (sL z) (kM z) (scd z k) (w * sL z + sdl z k)) (ssd z k))), (12, .int (nI (ssd z k))), (11, .int (nI k)), (10, .int (nI (endA z k))), (9, .int (nI (allW z (kM z) k))), (7, .int (nI (sumN (ssr z) (k + 1)))), (6, .int (nI (sn z))), (5, .int (nI (sL z))), (4, .int x), (3, .int (nI tt)), (2, .ref (b 0)), (1, .ref (ad 0)), (0, .ref (gB g))]) hx hb dL_law_374 hl (by decide) rfl (fun ls hl => ?_)
                        refine lv_iload hx hb dL_law_376 (lv_at hl 8 rfl) ?_
                        refine lv_iload hx hb dL_law_378 (lv_at hl 3 rfl) ?_
                        refine q_iadd (v := nI (allW z (kM z) (k + 1))) hx hb dL_law_380 (nI_add _ _) ?_
                        refine lv_istore (lv' := [(9, .int (nI (allW z (kM z) (k + 1)))), (8, .int (nI (sumN (ssd z) (k + 1)))), (16, .int (nI (ssd z k))), (15, .int (bI (lsB (fun w => hearF (sL z) (kM z) (scd z k) (w * sL z + sdl z k)) (fnF (fun w => hearF (sL z) (kM z) (scd z k) (w * sL z + sdl z k)) (ssd z k)) (ssd z k) (ssd z k) = true))), (13, .int (nI (wrF (sL z) (kM z) (scd z k) (sdl z k) (swd z k) (ssd z k)))), (14, .int (fnF (fun w => hearF (sL z) (kM z) (scd z k) (w * sL z + sdl z k)) (ssd z k))), (12, .int (nI (ssd z k))), (11, .int (nI k)), (10, .int (nI (endA z k))), (7, .int (nI (sumN (ssr z) (k + 1)))), (6, .int (nI (sn z))), (5, .int (nI (sL z))), (4, .int x), (3, .int (nI tt)), (2, .ref (b 0)), (1, .ref (ad 0)), (0, .ref (gB g))]) hx hb dL_law_381 hl (by decide) rfl (fun ls hl => ?_)
                        refine lv_iload hx hb dL_law_383 (lv_at hl 8 rfl) ?_
                        refine lv_aload_n hx hb dL_law_385 rfl (lv_at hl 15 rfl) ?_
                        refine lv_iload hx hb dL_law_386 (lv_at hl 7 rfl) ?_
                        refine lv_iconst (v := nI 5) hx hb dL_law_388 (by decide) ?_
                        refine q_roV (As := [.int (nI k), .int (nI 5)]) (rest := [.int (nI (endA z k))]) ⟨hx, hb, hml, hown, hts⟩ (k_about5 hI c_k) (cwV 2 hts gL_law_X3_about rfl rfl rfl (by decide +kernel) ⟨Nat.le_of_ble_eq_true rfl, Nat.le_of_ble_eq_true rfl⟩) hE (fun q h => hA q (Nat.le_trans hS.1 h)) (q_snd hP) (va_recv hE.K (q_snd hP) (ci := 4) (q0 := 0) rfl rfl) rfl hl.1 rfl (Nat.le_of_ble_eq_true rfl) dL_law_389 ⟨by show _ ≤ 1200130; omega, by show _ ≤ 5501080; omega⟩ ?_
                        refine q_mmax (v := nI (endA z (k + 1))) hx hb (hml.trans hl.1.symm) hown (hts _ (List.mem_of_getElem? (i := 7) rfl)) (hts _ (List.mem_of_getElem? (i := 8) rfl)) (hts _ (List.mem_of_getElem? (i := 5) rfl)) (hts _ (List.mem_of_getElem? (i := 9) rfl)) (Nat.le_of_ble_eq_true rfl) (Nat.le_of_ble_eq_true rfl) (by show _ ≤ 1200130; omega) (by show _ ≤ 5501080; omega) dL_law_392 (q_maxN (by have := endA_le hV (show k ≤ sn z by omega); omega) (by omega)) ?_
                        refine lv_istore (lv' := [(10, .int (nI (endA z (k + 1)))), (9, .int (nI (allW z (kM z) (k + 1)))), (8, .int (nI (sumN (ssd z) (k + 1)))), (16, .int (nI (ssd z k))), (15, .int (bI (lsB (fun w => hearF (sL z) (kM z) (scd z k) (w * sL z + sdl z k)) (fnF (fun w => hearF (sL z) (kM z) (scd z k) (w * sL z + sdl z k)) (ssd z k)) (ssd z k) (ssd z k) = true))), (13, .int (nI (wrF (sL z) (kM z) (scd z k) (sdl z k) (swd z k) (ssd z k)))), (14, .int (fnF (fun w => hearF (sL z) (kM z) (scd z k) (w * sL z + sdl z k)) (ssd z k))), (12, .int (nI (ssd z k))), (11, .int (nI k)), (7, .int (nI (sumN (ssr z) (k + 1)))), (6, .int (nI (sn z))), (5, .int (nI (sL z))), (4, .int x), (3, .int (nI tt)), (2, .ref (b 0)), (1, .ref (ad 0)), (0, .ref (gB g))]) hx hb dL_law_395 hl (by decide) rfl (fun ls hl => ?_)
                        refine lv_iinc (v := nI (k + 1)) (lv' := [(11, .int (nI (k + 1))), (10, .int (nI (endA z (k + 1)))), (9, .int (nI (allW z (kM z) (k + 1)))), (8, .int (nI (sumN (ssd z) (k + 1)))), (16, .int (nI (ssd z k))), (15, .int (bI (lsB (fun w => hearF (sL z) (kM z) (scd z k) (w * sL z + sdl z k)) (fnF (fun w => hearF (sL z) (kM z) (scd z k) (w * sL z + sdl z k)) (ssd z k)) (ssd z k) (ssd z k) = true))), (13, .int (nI (wrF (sL z) (kM z) (scd z k) (sdl z k) (swd z k) (ssd z k)))), (14, .int (fnF (fun w => hearF (sL z) (kM z) (scd z k) (w * sL z + sdl z k)) (ssd z k))), (12, .int (nI (ssd z k))), (7, .int (nI (sumN (ssr z) (k + 1)))), (6, .int (nI (sn z))), (5, .int (nI (sL z))), (4, .int x), (3, .int (nI tt)), (2, .ref (b 0)), (1, .ref (ad 0)), (0, .ref (gB g))]) hx hb dL_law_397 hl (k := 8) rfl (nI_1 _) (by decide) rfl (fun ls hl => ?_)
                        refine lv_goto (tgt := 81) hx hb dL_law_400 (by decide) ?_
                        exact ih_81 (k + 1)  (by omega) (by omega)  _ _ hP hD hS hE _ (lv_sub hl [0, 1, 2, 3, 9, 10, 11, 12, 13, 14, 15, 16] rfl)
                      · exact absurd rfl c_106
                    · refine lv_iconst (v := nI 0) hx hb dL_law_347 (by decide) ?_
                      refine lv_goto (tgt := 364) hx hb dL_law_348 (by decide) ?_
                      refine q_icmp_eq (tgt := 369) hx hb (by omega) (by omega) dL_law_364 (by decide) (fun c_107 => ?_) (fun c_107 => ?_)
                      · refine lv_iload hx hb dL_law_369 (lv_at hl 8 rfl) ?_
                        refine lv_iload hx hb dL_law_371 (lv_at hl 4 rfl) ?_
                        refine q_iadd (v := nI (sumN (ssd z) (k + 1))) hx hb dL_law_373 (nI_add _ _) ?_
                        refine lv_istore (lv' := [(8, .int (nI (sumN (ssd z) (k + 1)))), (16, .int (nI (ssd z k))), (15, .int (bI (lsB (fun w => hearF (sL z) (kM z) (scd z k) (w * sL z + sdl z k)) (fnF (fun w => hearF (sL z) (kM z) (scd z k) (w * sL z + sdl z k)) (ssd z k)) (ssd z k) (ssd z k) = true))), (13, .int (nI (wrF (sL z) (kM z) (scd z k) (sdl z k) (swd z k) (ssd z k)))), (14, .int (fnF (fun w => hearF (sL z) (kM z) (scd z k) (w * sL z + sdl z k)) (ssd z k))), (12, .int (nI (ssd z k))), (11, .int (nI k)), (10, .int (nI (endA z k))), (9, .int (nI (allW z (kM z) k))), (7, .int (nI (sumN (ssr z) (k + 1)))), (6, .int (nI (sn z))), (5, .int (nI (sL z))), (4, .int x), (3, .int (nI tt)), (2, .ref (b 0)), (1, .ref (ad 0)), (0, .ref (gB g))]) hx hb dL_law_374 hl (by decide) rfl (fun ls hl => ?_)
                        refine lv_iload hx hb dL_law_376 (lv_at hl 8 rfl) ?_
                        refine lv_iload hx hb dL_law_378 (lv_at hl 3 rfl) ?_
                        refine q_iadd (v := nI (allW z (kM z) (k + 1))) hx hb dL_law_380 (nI_add _ _) ?_
                        refine lv_istore (lv' := [(9, .int (nI (allW z (kM z) (k + 1)))), (8, .int (nI (sumN (ssd z) (k + 1)))), (16, .int (nI (ssd z k))), (15, .int (bI (lsB (fun w => hearF (sL z) (kM z) (scd z k) (w * sL z + sdl z k)) (fnF (fun w => hearF (sL z) (kM z) (scd z k) (w * sL z + sdl z k)) (ssd z k)) (ssd z k) (ssd z k) = true))), (13, .int (nI (wrF (sL z) (kM z) (scd z k) (sdl z k) (swd z k) (ssd z k)))), (14, .int (fnF (fun w => hearF (sL z) (kM z) (scd z k) (w * sL z + sdl z k)) (ssd z k))), (12, .int (nI (ssd z k))), (11, .int (nI k)), (10, .int (nI (endA z k))), (7, .int (nI (sumN (ssr z) (k + 1)))), (6, .int (nI (sn z))), (5, .int (nI (sL z))), (4, .int x), (3, .int (nI tt)), (2, .ref (b 0)), (1, .ref (ad 0)), (0, .ref (gB g))]) hx hb dL_law_381 hl (by decide) rfl (fun ls hl => ?_)
                        refine lv_iload hx hb dL_law_383 (lv_at hl 8 rfl) ?_
                        refine lv_aload_n hx hb dL_law_385 rfl (lv_at hl 15 rfl) ?_
                        refine lv_iload hx hb dL_law_386 (lv_at hl 7 rfl) ?_
                        refine lv_iconst (v := nI 5) hx hb dL_law_388 (by decide) ?_
                        refine q_roV (As := [.int (nI k), .int (nI 5)]) (rest := [.int (nI (endA z k))]) ⟨hx, hb, hml, hown, hts⟩ (k_about5 hI c_k) (cwV 2 hts gL_law_X3_about rfl rfl rfl (by decide +kernel) ⟨Nat.le_of_ble_eq_true rfl, Nat.le_of_ble_eq_true rfl⟩) hE (fun q h => hA q (Nat.le_trans hS.1 h)) (q_snd hP) (va_recv hE.K (q_snd hP) (ci := 4) (q0 := 0) rfl rfl) rfl hl.1 rfl (Nat.le_of_ble_eq_true rfl) dL_law_389 ⟨by show _ ≤ 1200130; omega, by show _ ≤ 5501080; omega⟩ ?_
                        refine q_mmax (v := nI (endA z (k + 1))) hx hb (hml.trans hl.1.symm) hown (hts _ (List.mem_of_getElem? (i := 7) rfl)) (hts _ (List.mem_of_getElem? (i := 8) rfl)) (hts _ (List.mem_of_getElem? (i := 5) rfl)) (hts _ (List.mem_of_getElem? (i := 9) rfl)) (Nat.le_of_ble_eq_true rfl) (Nat.le_of_ble_eq_true rfl) (by show _ ≤ 1200130; omega) (by show _ ≤ 5501080; omega) dL_law_392 (q_maxN (by have := endA_le hV (show k ≤ sn z by omega); omega) (by omega)) ?_
                        refine lv_istore (lv' := [(10, .int (nI (endA z (k + 1)))), (9, .int (nI (allW z (kM z) (k + 1)))), (8, .int (nI (sumN (ssd z) (k + 1)))), (16, .int (nI (ssd z k))), (15, .int (bI (lsB (fun w => hearF (sL z) (kM z) (scd z k) (w * sL z + sdl z k)) (fnF (fun w => hearF (sL z) (kM z) (scd z k) (w * sL z + sdl z k)) (ssd z k)) (ssd z k) (ssd z k) = true))), (13, .int (nI (wrF (sL z) (kM z) (scd z k) (sdl z k) (swd z k) (ssd z k)))), (14, .int (fnF (fun w => hearF (sL z) (kM z) (scd z k) (w * sL z + sdl z k)) (ssd z k))), (12, .int (nI (ssd z k))), (11, .int (nI k)), (7, .int (nI (sumN (ssr z) (k + 1)))), (6, .int (nI (sn z))), (5, .int (nI (sL z))), (4, .int x), (3, .int (nI tt)), (2, .ref (b 0)), (1, .ref (ad 0)), (0, .ref (gB g))]) hx hb dL_law_395 hl (by decide) rfl (fun ls hl => ?_)
                        refine lv_iinc (v := nI (k + 1)) (lv' := [(11, .int (nI (k + 1))), (10, .int (nI (endA z (k + 1)))), (9, .int (nI (allW z (kM z) (k + 1)))), (8, .int (nI (sumN (ssd z) (k + 1)))), (16, .int (nI (ssd z k))), (15, .int (bI (lsB (fun w => hearF (sL z) (kM z) (scd z k) (w * sL z + sdl z k)) (fnF (fun w => hearF (sL z) (kM z) (scd z k) (w * sL z + sdl z k)) (ssd z k)) (ssd z k) (ssd z k) = true))), (13, .int (nI (wrF (sL z) (kM z) (scd z k) (sdl z k) (swd z k) (ssd z k)))), (14, .int (fnF (fun w => hearF (sL z) (kM z) (scd z k) (w * sL z + sdl z k)) (ssd z k))), (12, .int (nI (ssd z k))), (7, .int (nI (sumN (ssr z) (k + 1)))), (6, .int (nI (sn z))), (5, .int (nI (sL z))), (4, .int x), (3, .int (nI tt)), (2, .ref (b 0)), (1, .ref (ad 0)), (0, .ref (gB g))]) hx hb dL_law_397 hl (k := 8) rfl (nI_1 _) (by decide) rfl (fun ls hl => ?_)
                        refine lv_goto (tgt := 81) hx hb dL_law_400 (by decide) ?_
                        exact ih_81 (k + 1)  (by omega) (by omega)  _ _ hP hD hS hE _ (lv_sub hl [0, 1, 2, 3, 9, 10, 11, 12, 13, 14, 15, 16] rfl)
                      · exact absurd (show endF (sL z) (ssd z k) (sdl z k) = 0 by unfold endF; rw [if_pos c_z]) c_107
              · have hw_ := (hV.2.2.1 k c_k).2.2.2.2 j c_w
                have hX_ := bd_hear hV (scd z k) (j * sL z + sdl z k)
                refine lv_aload_n hx hb dL_law_149 rfl (lv_at hl 15 rfl) ?_
                refine lv_iload hx hb dL_law_150 (lv_at hl 5 rfl) ?_
                refine lv_iload hx hb dL_law_152 (lv_at hl 0 rfl) ?_
                refine lv_iconst (v := nI 0) hx hb dL_law_154 (by decide) ?_
                refine q_roV (As := [.int (nI k), .int (nI j), .int (nI 0)]) (rest := []) ⟨hx, hb, hml, hown, hts⟩ (k_word0 hI (k := k) (w := j) c_k c_w) (cwV 3 hts gL_law_X3_word rfl rfl rfl (by decide +kernel) ⟨Nat.le_of_ble_eq_true rfl, Nat.le_of_ble_eq_true rfl⟩) hE (fun q h => hA q (Nat.le_trans hS.1 h)) (q_snd hP) (va_recv hE.K (q_snd hP) (ci := 4) (q0 := 0) rfl rfl) rfl hl.1 rfl (Nat.le_of_ble_eq_true rfl) dL_law_155 ⟨by show _ ≤ 1200130; omega, by show _ ≤ 5501080; omega⟩ ?_
                refine lv_istore (lv' := [(17, .int (swd z k j)), (16, .int (nI j)), (15, .int (bI (lsB (fun w => hearF (sL z) (kM z) (scd z k) (w * sL z + sdl z k)) (fnF (fun w => hearF (sL z) (kM z) (scd z k) (w * sL z + sdl z k)) (ssd z k)) (ssd z k) j = true))), (13, .int (nI (wrF (sL z) (kM z) (scd z k) (sdl z k) (swd z k) j))), (14, .int (fnF (fun w => hearF (sL z) (kM z) (scd z k) (w * sL z + sdl z k)) (ssd z k))), (12, .int (nI (ssd z k))), (11, .int (nI k)), (10, .int (nI (endA z k))), (9, .int (nI (allW z (kM z) k))), (8, .int (nI (sumN (ssd z) k))), (7, .int (nI (sumN (ssr z) (k + 1)))), (6, .int (nI (sn z))), (5, .int (nI (sL z))), (4, .int x), (3, .int (nI tt)), (2, .ref (b 0)), (1, .ref (ad 0)), (0, .ref (gB g))]) hx hb dL_law_158 hl (by decide) rfl (fun ls hl => ?_)
                refine lv_aload_n hx hb dL_law_160 rfl (lv_at hl 16 rfl) ?_
                refine lv_iload hx hb dL_law_161 (lv_at hl 6 rfl) ?_
                refine lv_iload hx hb dL_law_163 (lv_at hl 1 rfl) ?_
                refine lv_iconst (v := nI 1) hx hb dL_law_165 (by decide) ?_
                refine q_roV (As := [.int (nI k), .int (nI j), .int (nI 1)]) (rest := []) ⟨hx, hb, hml, hown, hts⟩ (k_word1 hI (k := k) (w := j) c_k c_w) (cwV 3 hts gL_law_X3_word rfl rfl rfl (by decide +kernel) ⟨Nat.le_of_ble_eq_true rfl, Nat.le_of_ble_eq_true rfl⟩) hE (fun q h => hA q (Nat.le_trans hS.1 h)) (q_snd hP) (va_recv hE.K (q_snd hP) (ci := 4) (q0 := 0) rfl rfl) rfl hl.1 rfl (Nat.le_of_ble_eq_true rfl) dL_law_166 ⟨by show _ ≤ 1200130; omega, by show _ ≤ 5501080; omega⟩ ?_
                refine lv_istore (lv' := [(18, .int (hearF (sL z) (kM z) (scd z k) (j * sL z + sdl z k))), (17, .int (swd z k j)), (16, .int (nI j)), (15, .int (bI (lsB (fun w => hearF (sL z) (kM z) (scd z k) (w * sL z + sdl z k)) (fnF (fun w => hearF (sL z) (kM z) (scd z k) (w * sL z + sdl z k)) (ssd z k)) (ssd z k) j = true))), (13, .int (nI (wrF (sL z) (kM z) (scd z k) (sdl z k) (swd z k) j))), (14, .int (fnF (fun w => hearF (sL z) (kM z) (scd z k) (w * sL z + sdl z k)) (ssd z k))), (12, .int (nI (ssd z k))), (11, .int (nI k)), (10, .int (nI (endA z k))), (9, .int (nI (allW z (kM z) k))), (8, .int (nI (sumN (ssd z) k))), (7, .int (nI (sumN (ssr z) (k + 1)))), (6, .int (nI (sn z))), (5, .int (nI (sL z))), (4, .int x), (3, .int (nI tt)), (2, .ref (b 0)), (1, .ref (ad 0)), (0, .ref (gB g))]) hx hb dL_law_169 hl (by decide) rfl (fun ls hl => ?_)
                refine lv_iload hx hb dL_law_171 (lv_at hl 4 rfl) ?_
                refine lv_aload_n hx hb dL_law_173 rfl (lv_at hl 17 rfl) ?_
                refine lv_iload hx hb dL_law_174 (lv_at hl 7 rfl) ?_
                refine lv_iload hx hb dL_law_176 (lv_at hl 2 rfl) ?_
                refine lv_iconst (v := nI 2) hx hb dL_law_178 (by decide) ?_
                refine q_roV (As := [.int (nI k), .int (nI j), .int (nI 2)]) (rest := [.int (nI (wrF (sL z) (kM z) (scd z k) (sdl z k) (swd z k) j))]) ⟨hx, hb, hml, hown, hts⟩ (k_word2 hI (k := k) (w := j) c_k c_w) (cwV 3 hts gL_law_X3_word rfl rfl rfl (by decide +kernel) ⟨Nat.le_of_ble_eq_true rfl, Nat.le_of_ble_eq_true rfl⟩) hE (fun q h => hA q (Nat.le_trans hS.1 h)) (q_snd hP) (va_recv hE.K (q_snd hP) (ci := 4) (q0 := 0) rfl rfl) rfl hl.1 rfl (Nat.le_of_ble_eq_true rfl) dL_law_179 ⟨by show _ ≤ 1200130; omega, by show _ ≤ 5501080; omega⟩ ?_
                refine q_iadd (v := nI (wrF (sL z) (kM z) (scd z k) (sdl z k) (swd z k) (j + 1))) hx hb dL_law_182 (nI_add _ _) ?_
                refine lv_istore (lv' := [(13, .int (nI (wrF (sL z) (kM z) (scd z k) (sdl z k) (swd z k) (j + 1)))), (18, .int (hearF (sL z) (kM z) (scd z k) (j * sL z + sdl z k))), (17, .int (swd z k j)), (16, .int (nI j)), (15, .int (bI (lsB (fun w => hearF (sL z) (kM z) (scd z k) (w * sL z + sdl z k)) (fnF (fun w => hearF (sL z) (kM z) (scd z k) (w * sL z + sdl z k)) (ssd z k)) (ssd z k) j = true))), (14, .int (fnF (fun w => hearF (sL z) (kM z) (scd z k) (w * sL z + sdl z k)) (ssd z k))), (12, .int (nI (ssd z k))), (11, .int (nI k)), (10, .int (nI (endA z k))), (9, .int (nI (allW z (kM z) k))), (8, .int (nI (sumN (ssd z) k))), (7, .int (nI (sumN (ssr z) (k + 1)))), (6, .int (nI (sn z))), (5, .int (nI (sL z))), (4, .int x), (3, .int (nI tt)), (2, .ref (b 0)), (1, .ref (ad 0)), (0, .ref (gB g))]) hx hb dL_law_183 hl (by decide) rfl (fun ls hl => ?_)
                refine lv_iload hx hb dL_law_185 (lv_at hl 2 rfl) ?_
                refine lv_iconst (v := nI 1) hx hb dL_law_187 (by decide) ?_
                refine lv_icmp_eq (tgt := 197) hx hb dL_law_188 (by decide) (fun c_1 => ?_) (fun c_1 => ?_)
                · refine lv_aload_n hx hb dL_law_197 rfl (lv_at hl 17 rfl) ?_
                  refine lv_iload hx hb dL_law_198 (lv_at hl 7 rfl) ?_
                  refine lv_iload hx hb dL_law_200 (lv_at hl 3 rfl) ?_
                  refine lv_iconst (v := nI 2) hx hb dL_law_202 (by decide) ?_
                  refine q_roV (As := [.int (nI k), .int (nI j), .int (nI 2)]) (rest := []) ⟨hx, hb, hml, hown, hts⟩ (k_word2 hI (k := k) (w := j) c_k c_w) (cwV 3 hts gL_law_X3_word rfl rfl rfl (by decide +kernel) ⟨Nat.le_of_ble_eq_true rfl, Nat.le_of_ble_eq_true rfl⟩) hE (fun q h => hA q (Nat.le_trans hS.1 h)) (q_snd hP) (va_recv hE.K (q_snd hP) (ci := 4) (q0 := 0) rfl rfl) rfl hl.1 rfl (Nat.le_of_ble_eq_true rfl) dL_law_203 ⟨by show _ ≤ 1200130; omega, by show _ ≤ 5501080; omega⟩ ?_
                  refine lv_iconst (v := nI 1) hx hb dL_law_206 (by decide) ?_
                  refine q_icmp_ne (tgt := 214) hx hb (by have := wrC_le (hearF (sL z) (kM z) (scd z k) (j * sL z + sdl z k)) (swd z k j); omega) (by omega) dL_law_207 (by decide) (fun c_3 => ?_) (fun c_3 => ?_)
                  · refine lv_iconst (v := nI 0) hx hb dL_law_214 (by decide) ?_
                    refine lv_iload hx hb dL_law_215 (lv_at hl 1 rfl) ?_
                    refine lv_if_eq (tgt := 243) hx hb dL_law_217 (by decide) (fun c_x => ?_) (fun c_x => ?_)
                    · refine lv_iconst (v := nI 1) hx hb dL_law_243 (by decide) ?_
                      refine lv_goto (tgt := 248) hx hb dL_law_244 (by decide) ?_
                      refine q_icmp_ne (tgt := 290) hx hb (by omega) (by omega) dL_law_248 (by decide) (fun c_108 => ?_) (fun c_108 => ?_)
                      · exact (wr_a hX_ hw_ c_3 c_x).elim
                      · exact absurd c_108 (by decide)
                    · refine lv_iload hx hb dL_law_220 (lv_at hl 1 rfl) ?_
                      refine lv_if_le (tgt := 229) hx hb dL_law_222 (by decide) (fun c_p => ?_) (fun c_p => ?_)
                      · refine lv_iconst (v := nI 0) hx hb dL_law_229 (by decide) ?_
                        refine lv_iload hx hb dL_law_230 (lv_at hl 2 rfl) ?_
                        refine lv_if_le (tgt := 239) hx hb dL_law_232 (by decide) (fun c_q => ?_) (fun c_q => ?_)
                        · refine lv_iconst (v := nI 0) hx hb dL_law_239 (by decide) ?_
                          refine q_icmp_eq (tgt := 247) hx hb (by omega) (by omega) dL_law_240 (by decide) (fun c_109 => ?_) (fun c_109 => ?_)
                          · refine lv_iconst (v := nI 0) hx hb dL_law_247 (by decide) ?_
                            refine q_icmp_ne (tgt := 290) hx hb (by omega) (by omega) dL_law_248 (by decide) (fun c_110 => ?_) (fun c_110 => ?_)
                            · exact absurd rfl c_110
                            · refine lv_iload hx hb dL_law_251 (lv_at hl 1 rfl) ?_
                              refine lv_aload_n hx hb dL_law_253 rfl (lv_at hl 17 rfl) ?_
                              refine lv_aload_n hx hb dL_law_254 rfl (lv_at hl 17 rfl) ?_
                              refine lv_iload hx hb dL_law_255 (lv_at hl 7 rfl) ?_
                              refine lv_iconst (v := nI 0) hx hb dL_law_257 (by decide) ?_
                              refine q_roV (As := [.int (nI k), .int (nI 0)]) (rest := [.ref (ad 0), .int (hearF (sL z) (kM z) (scd z k) (j * sL z + sdl z k))]) ⟨hx, hb, hml, hown, hts⟩ (k_about0 hI c_k) (cwV 2 hts gL_law_X3_about rfl rfl rfl (by decide +kernel) ⟨Nat.le_of_ble_eq_true rfl, Nat.le_of_ble_eq_true rfl⟩) hE (fun q h => hA q (Nat.le_trans hS.1 h)) (q_snd hP) (va_recv hE.K (q_snd hP) (ci := 4) (q0 := 0) rfl rfl) rfl hl.1 rfl (Nat.le_of_ble_eq_true rfl) dL_law_258 ⟨by show _ ≤ 1200130; omega, by show _ ≤ 5501080; omega⟩ ?_
                              refine lv_aload_n hx hb dL_law_261 rfl (lv_at hl 17 rfl) ?_
                              refine lv_iload hx hb dL_law_262 (lv_at hl 7 rfl) ?_
                              refine lv_iconst (v := nI 2) hx hb dL_law_264 (by decide) ?_
                              refine q_roV (As := [.int (nI k), .int (nI 2)]) (rest := [.int (nI (scd z k)), .ref (ad 0), .int (hearF (sL z) (kM z) (scd z k) (j * sL z + sdl z k))]) ⟨hx, hb, hml, hown, hts⟩ (k_about2 hI c_k) (cwV 2 hts gL_law_X3_about rfl rfl rfl (by decide +kernel) ⟨Nat.le_of_ble_eq_true rfl, Nat.le_of_ble_eq_true rfl⟩) hE (fun q h => hA q (Nat.le_trans hS.1 h)) (q_snd hP) (va_recv hE.K (q_snd hP) (ci := 4) (q0 := 0) rfl rfl) rfl hl.1 rfl (Nat.le_of_ble_eq_true rfl) dL_law_265 ⟨by show _ ≤ 1200130; omega, by show _ ≤ 5501080; omega⟩ ?_
                              refine lv_iload hx hb dL_law_268 (lv_at hl 13 rfl) ?_
                              refine lv_iload hx hb dL_law_270 (lv_at hl 3 rfl) ?_
                              refine q_imul (v := nI ((sL z) * j)) hx hb dL_law_272 (pk_mul _ _) ?_
                              refine q_iadd (v := nI (j * sL z + sdl z k)) hx hb dL_law_273 (by rw [nI_add, Nat.add_comm, Nat.mul_comm]) ?_
                              refine q_roV (As := [.int (nI (scd z k)), .int (nI (j * sL z + sdl z k))]) (rest := [.int (hearF (sL z) (kM z) (scd z k) (j * sL z + sdl z k))]) ⟨hx, hb, hml, hown, hts⟩ (k_hear hI (a := scd z k) (t := j * sL z + sdl z k) hd_.1 (by have := mul16 (a := j) hL.2; omega)) (cwV 2 hts gL_law_X3_hear rfl rfl rfl (by decide +kernel) ⟨Nat.le_of_ble_eq_true rfl, Nat.le_of_ble_eq_true rfl⟩) hE (fun q h => hA q (Nat.le_trans hS.1 h)) (q_snd hP) (va_recv hE.K (q_snd hP) (ci := 4) (q0 := 0) rfl rfl) rfl hl.1 rfl (Nat.le_of_ble_eq_true rfl) dL_law_274 ⟨by show _ ≤ 1200130; omega, by show _ ≤ 5501080; omega⟩ ?_
                              refine lv_icmp_ne (tgt := 290) hx hb dL_law_277 (by decide) (fun c_111 => ?_) (fun c_111 => ?_)
                              · exact absurd rfl c_111
                              · refine lv_iload hx hb dL_law_280 (lv_at hl 1 rfl) ?_
                                refine q_mabs (v := ab (hearF (sL z) (kM z) (scd z k) (j * sL z + sdl z k))) hx hb (hml.trans hl.1.symm) hown (hts _ (List.mem_of_getElem? (i := 3) rfl)) (hts _ (List.mem_of_getElem? (i := 4) rfl)) (hts _ (List.mem_of_getElem? (i := 5) rfl)) (hts _ (List.mem_of_getElem? (i := 6) rfl)) (Nat.le_of_ble_eq_true rfl) (Nat.le_of_ble_eq_true rfl) (by show _ ≤ 1200130; omega) (by show _ ≤ 5501080; omega) dL_law_282 rfl ?_
                                refine lv_iload hx hb dL_law_285 (lv_at hl 5 rfl) ?_
                                refine lv_icmp_ge (tgt := 292) hx hb dL_law_287 (by decide) (fun c_112 => ?_) (fun c_112 => ?_)
                                · refine lv_iload hx hb dL_law_292 (lv_at hl 4 rfl) ?_
                                  refine lv_iload hx hb dL_law_294 (lv_at hl 1 rfl) ?_
                                  refine q_mabs (v := ab (hearF (sL z) (kM z) (scd z k) (j * sL z + sdl z k))) hx hb (hml.trans hl.1.symm) hown (hts _ (List.mem_of_getElem? (i := 3) rfl)) (hts _ (List.mem_of_getElem? (i := 4) rfl)) (hts _ (List.mem_of_getElem? (i := 5) rfl)) (hts _ (List.mem_of_getElem? (i := 6) rfl)) (Nat.le_of_ble_eq_true rfl) (Nat.le_of_ble_eq_true rfl) (by show _ ≤ 1200130; omega) (by show _ ≤ 5501080; omega) dL_law_296 rfl ?_
                                  refine lv_iload hx hb dL_law_299 (lv_at hl 5 rfl) ?_
                                  refine lv_icmp_ne (tgt := 308) hx hb dL_law_301 (by decide) (fun c_l => ?_) (fun c_l => ?_)
                                  · refine lv_iconst (v := nI 0) hx hb dL_law_308 (by decide) ?_
                                    refine q_ior (v := bI (lsB (fun w => hearF (sL z) (kM z) (scd z k) (w * sL z + sdl z k)) (fnF (fun w => hearF (sL z) (kM z) (scd z k) (w * sL z + sdl z k)) (ssd z k)) (ssd z k) (j + 1) = true)) hx hb dL_law_309 ((congrArg (fun q => bI (lsB (fun w => hearF (sL z) (kM z) (scd z k) (w * sL z + sdl z k)) (fnF (fun w => hearF (sL z) (kM z) (scd z k) (w * sL z + sdl z k)) (ssd z k)) (ssd z k) j = true) ||| q) (show nI 0 = bI (ab (hearF (sL z) (kM z) (scd z k) (j * sL z + sdl z k)) = fnF (fun w => hearF (sL z) (kM z) (scd z k) (w * sL z + sdl z k)) (ssd z k)) from (bI_f c_l))).trans (lsB_s (x := (fun w => hearF (sL z) (kM z) (scd z k) (w * sL z + sdl z k))))) ?_
                                    refine lv_istore (lv' := [(15, .int (bI (lsB (fun w => hearF (sL z) (kM z) (scd z k) (w * sL z + sdl z k)) (fnF (fun w => hearF (sL z) (kM z) (scd z k) (w * sL z + sdl z k)) (ssd z k)) (ssd z k) (j + 1) = true))), (13, .int (nI (wrF (sL z) (kM z) (scd z k) (sdl z k) (swd z k) (j + 1)))), (18, .int (hearF (sL z) (kM z) (scd z k) (j * sL z + sdl z k))), (17, .int (swd z k j)), (16, .int (nI j)), (14, .int (fnF (fun w => hearF (sL z) (kM z) (scd z k) (w * sL z + sdl z k)) (ssd z k))), (12, .int (nI (ssd z k))), (11, .int (nI k)), (10, .int (nI (endA z k))), (9, .int (nI (allW z (kM z) k))), (8, .int (nI (sumN (ssd z) k))), (7, .int (nI (sumN (ssr z) (k + 1)))), (6, .int (nI (sn z))), (5, .int (nI (sL z))), (4, .int x), (3, .int (nI tt)), (2, .ref (b 0)), (1, .ref (ad 0)), (0, .ref (gB g))]) hx hb dL_law_310 hl (by decide) rfl (fun ls hl => ?_)
                                    refine lv_iinc (v := nI (j + 1)) (lv' := [(16, .int (nI (j + 1))), (15, .int (bI (lsB (fun w => hearF (sL z) (kM z) (scd z k) (w * sL z + sdl z k)) (fnF (fun w => hearF (sL z) (kM z) (scd z k) (w * sL z + sdl z k)) (ssd z k)) (ssd z k) (j + 1) = true))), (13, .int (nI (wrF (sL z) (kM z) (scd z k) (sdl z k) (swd z k) (j + 1)))), (18, .int (hearF (sL z) (kM z) (scd z k) (j * sL z + sdl z k))), (17, .int (swd z k j)), (14, .int (fnF (fun w => hearF (sL z) (kM z) (scd z k) (w * sL z + sdl z k)) (ssd z k))), (12, .int (nI (ssd z k))), (11, .int (nI k)), (10, .int (nI (endA z k))), (9, .int (nI (allW z (kM z) k))), (8, .int (nI (sumN (ssd z) k))), (7, .int (nI (sumN (ssr z) (k + 1)))), (6, .int (nI (sn z))), (5, .int (nI (sL z))), (4, .int x), (3, .int (nI tt)), (2, .ref (b 0)), (1, .ref (ad 0)), (0, .ref (gB g))]) hx hb dL_law_312 hl (k := 4) rfl (nI_1 _) (by decide) rfl (fun ls hl => ?_)
                                    refine lv_goto (tgt := 142) hx hb dL_law_315 (by decide) ?_
                                    exact ih_142 (j + 1)  (by omega) (by omega)  _ _ hP hD hS hE _ (lv_sub hl [0, 1, 2, 5, 6, 7, 8, 9, 10, 11, 12, 13, 14, 15, 16, 17, 18] rfl)
                                  · refine lv_iconst (v := nI 1) hx hb dL_law_304 (by decide) ?_
                                    refine lv_goto (tgt := 309) hx hb dL_law_305 (by decide) ?_
                                    refine q_ior (v := bI (lsB (fun w => hearF (sL z) (kM z) (scd z k) (w * sL z + sdl z k)) (fnF (fun w => hearF (sL z) (kM z) (scd z k) (w * sL z + sdl z k)) (ssd z k)) (ssd z k) (j + 1) = true)) hx hb dL_law_309 ((congrArg (fun q => bI (lsB (fun w => hearF (sL z) (kM z) (scd z k) (w * sL z + sdl z k)) (fnF (fun w => hearF (sL z) (kM z) (scd z k) (w * sL z + sdl z k)) (ssd z k)) (ssd z k) j = true) ||| q) (show nI 1 = bI (ab (hearF (sL z) (kM z) (scd z k) (j * sL z + sdl z k)) = fnF (fun w => hearF (sL z) (kM z) (scd z k) (w * sL z + sdl z k)) (ssd z k)) from (bI_t c_l))).trans (lsB_s (x := (fun w => hearF (sL z) (kM z) (scd z k) (w * sL z + sdl z k))))) ?_
                                    refine lv_istore (lv' := [(15, .int (bI (lsB (fun w => hearF (sL z) (kM z) (scd z k) (w * sL z + sdl z k)) (fnF (fun w => hearF (sL z) (kM z) (scd z k) (w * sL z + sdl z k)) (ssd z k)) (ssd z k) (j + 1) = true))), (13, .int (nI (wrF (sL z) (kM z) (scd z k) (sdl z k) (swd z k) (j + 1)))), (18, .int (hearF (sL z) (kM z) (scd z k) (j * sL z + sdl z k))), (17, .int (swd z k j)), (16, .int (nI j)), (14, .int (fnF (fun w => hearF (sL z) (kM z) (scd z k) (w * sL z + sdl z k)) (ssd z k))), (12, .int (nI (ssd z k))), (11, .int (nI k)), (10, .int (nI (endA z k))), (9, .int (nI (allW z (kM z) k))), (8, .int (nI (sumN (ssd z) k))), (7, .int (nI (sumN (ssr z) (k + 1)))), (6, .int (nI (sn z))), (5, .int (nI (sL z))), (4, .int x), (3, .int (nI tt)), (2, .ref (b 0)), (1, .ref (ad 0)), (0, .ref (gB g))]) hx hb dL_law_310 hl (by decide) rfl (fun ls hl => ?_)
                                    refine lv_iinc (v := nI (j + 1)) (lv' := [(16, .int (nI (j + 1))), (15, .int (bI (lsB (fun w => hearF (sL z) (kM z) (scd z k) (w * sL z + sdl z k)) (fnF (fun w => hearF (sL z) (kM z) (scd z k) (w * sL z + sdl z k)) (ssd z k)) (ssd z k) (j + 1) = true))), (13, .int (nI (wrF (sL z) (kM z) (scd z k) (sdl z k) (swd z k) (j + 1)))), (18, .int (hearF (sL z) (kM z) (scd z k) (j * sL z + sdl z k))), (17, .int (swd z k j)), (14, .int (fnF (fun w => hearF (sL z) (kM z) (scd z k) (w * sL z + sdl z k)) (ssd z k))), (12, .int (nI (ssd z k))), (11, .int (nI k)), (10, .int (nI (endA z k))), (9, .int (nI (allW z (kM z) k))), (8, .int (nI (sumN (ssd z) k))), (7, .int (nI (sumN (ssr z) (k + 1)))), (6, .int (nI (sn z))), (5, .int (nI (sL z))), (4, .int x), (3, .int (nI tt)), (2, .ref (b 0)), (1, .ref (ad 0)), (0, .ref (gB g))]) hx hb dL_law_312 hl (k := 4) rfl (nI_1 _) (by decide) rfl (fun ls hl => ?_)
                                    refine lv_goto (tgt := 142) hx hb dL_law_315 (by decide) ?_
                                    exact ih_142 (j + 1)  (by omega) (by omega)  _ _ hP hD hS hE _ (lv_sub hl [0, 1, 2, 5, 6, 7, 8, 9, 10, 11, 12, 13, 14, 15, 16, 17, 18] rfl)
                                · exact absurd (fnF_le (x := (fun w => hearF (sL z) (kM z) (scd z k) (w * sL z + sdl z k))) c_w) c_112
                          · exact absurd rfl c_109
                        · refine lv_iconst (v := nI 1) hx hb dL_law_235 (by decide) ?_
                          refine lv_goto (tgt := 240) hx hb dL_law_236 (by decide) ?_
                          refine q_icmp_eq (tgt := 247) hx hb (by omega) (by omega) dL_law_240 (by decide) (fun c_113 => ?_) (fun c_113 => ?_)
                          · exact absurd c_113 (by decide)
                          · refine lv_iconst (v := nI 1) hx hb dL_law_243 (by decide) ?_
                            refine lv_goto (tgt := 248) hx hb dL_law_244 (by decide) ?_
                            refine q_icmp_ne (tgt := 290) hx hb (by omega) (by omega) dL_law_248 (by decide) (fun c_114 => ?_) (fun c_114 => ?_)
                            · exact (wr_c hX_ hw_ c_3 c_p c_q).elim
                            · exact absurd c_114 (by decide)
                      · refine lv_iconst (v := nI 1) hx hb dL_law_225 (by decide) ?_
                        refine lv_goto (tgt := 230) hx hb dL_law_226 (by decide) ?_
                        refine lv_iload hx hb dL_law_230 (lv_at hl 2 rfl) ?_
                        refine lv_if_le (tgt := 239) hx hb dL_law_232 (by decide) (fun c_q => ?_) (fun c_q => ?_)
                        · refine lv_iconst (v := nI 0) hx hb dL_law_239 (by decide) ?_
                          refine q_icmp_eq (tgt := 247) hx hb (by omega) (by omega) dL_law_240 (by decide) (fun c_115 => ?_) (fun c_115 => ?_)
                          · exact absurd c_115 (by decide)
                          · refine lv_iconst (v := nI 1) hx hb dL_law_243 (by decide) ?_
                            refine lv_goto (tgt := 248) hx hb dL_law_244 (by decide) ?_
                            refine q_icmp_ne (tgt := 290) hx hb (by omega) (by omega) dL_law_248 (by decide) (fun c_116 => ?_) (fun c_116 => ?_)
                            · exact (wr_b hX_ hw_ c_3 c_p c_q).elim
                            · exact absurd c_116 (by decide)
                        · refine lv_iconst (v := nI 1) hx hb dL_law_235 (by decide) ?_
                          refine lv_goto (tgt := 240) hx hb dL_law_236 (by decide) ?_
                          refine q_icmp_eq (tgt := 247) hx hb (by omega) (by omega) dL_law_240 (by decide) (fun c_117 => ?_) (fun c_117 => ?_)
                          · refine lv_iconst (v := nI 0) hx hb dL_law_247 (by decide) ?_
                            refine q_icmp_ne (tgt := 290) hx hb (by omega) (by omega) dL_law_248 (by decide) (fun c_118 => ?_) (fun c_118 => ?_)
                            · exact absurd rfl c_118
                            · refine lv_iload hx hb dL_law_251 (lv_at hl 1 rfl) ?_
                              refine lv_aload_n hx hb dL_law_253 rfl (lv_at hl 17 rfl) ?_
                              refine lv_aload_n hx hb dL_law_254 rfl (lv_at hl 17 rfl) ?_
                              refine lv_iload hx hb dL_law_255 (lv_at hl 7 rfl) ?_
                              refine lv_iconst (v := nI 0) hx hb dL_law_257 (by decide) ?_
                              refine q_roV (As := [.int (nI k), .int (nI 0)]) (rest := [.ref (ad 0), .int (hearF (sL z) (kM z) (scd z k) (j * sL z + sdl z k))]) ⟨hx, hb, hml, hown, hts⟩ (k_about0 hI c_k) (cwV 2 hts gL_law_X3_about rfl rfl rfl (by decide +kernel) ⟨Nat.le_of_ble_eq_true rfl, Nat.le_of_ble_eq_true rfl⟩) hE (fun q h => hA q (Nat.le_trans hS.1 h)) (q_snd hP) (va_recv hE.K (q_snd hP) (ci := 4) (q0 := 0) rfl rfl) rfl hl.1 rfl (Nat.le_of_ble_eq_true rfl) dL_law_258 ⟨by show _ ≤ 1200130; omega, by show _ ≤ 5501080; omega⟩ ?_
                              refine lv_aload_n hx hb dL_law_261 rfl (lv_at hl 17 rfl) ?_
                              refine lv_iload hx hb dL_law_262 (lv_at hl 7 rfl) ?_
                              refine lv_iconst (v := nI 2) hx hb dL_law_264 (by decide) ?_
                              refine q_roV (As := [.int (nI k), .int (nI 2)]) (rest := [.int (nI (scd z k)), .ref (ad 0), .int (hearF (sL z) (kM z) (scd z k) (j * sL z + sdl z k))]) ⟨hx, hb, hml, hown, hts⟩ (k_about2 hI c_k) (cwV 2 hts gL_law_X3_about rfl rfl rfl (by decide +kernel) ⟨Nat.le_of_ble_eq_true rfl, Nat.le_of_ble_eq_true rfl⟩) hE (fun q h => hA q (Nat.le_trans hS.1 h)) (q_snd hP) (va_recv hE.K (q_snd hP) (ci := 4) (q0 := 0) rfl rfl) rfl hl.1 rfl (Nat.le_of_ble_eq_true rfl) dL_law_265 ⟨by show _ ≤ 1200130; omega, by show _ ≤ 5501080; omega⟩ ?_
                              refine lv_iload hx hb dL_law_268 (lv_at hl 13 rfl) ?_
                              refine lv_iload hx hb dL_law_270 (lv_at hl 3 rfl) ?_
                              refine q_imul (v := nI ((sL z) * j)) hx hb dL_law_272 (pk_mul _ _) ?_
                              refine q_iadd (v := nI (j * sL z + sdl z k)) hx hb dL_law_273 (by rw [nI_add, Nat.add_comm, Nat.mul_comm]) ?_
                              refine q_roV (As := [.int (nI (scd z k)), .int (nI (j * sL z + sdl z k))]) (rest := [.int (hearF (sL z) (kM z) (scd z k) (j * sL z + sdl z k))]) ⟨hx, hb, hml, hown, hts⟩ (k_hear hI (a := scd z k) (t := j * sL z + sdl z k) hd_.1 (by have := mul16 (a := j) hL.2; omega)) (cwV 2 hts gL_law_X3_hear rfl rfl rfl (by decide +kernel) ⟨Nat.le_of_ble_eq_true rfl, Nat.le_of_ble_eq_true rfl⟩) hE (fun q h => hA q (Nat.le_trans hS.1 h)) (q_snd hP) (va_recv hE.K (q_snd hP) (ci := 4) (q0 := 0) rfl rfl) rfl hl.1 rfl (Nat.le_of_ble_eq_true rfl) dL_law_274 ⟨by show _ ≤ 1200130; omega, by show _ ≤ 5501080; omega⟩ ?_
                              refine lv_icmp_ne (tgt := 290) hx hb dL_law_277 (by decide) (fun c_119 => ?_) (fun c_119 => ?_)
                              · exact absurd rfl c_119
                              · refine lv_iload hx hb dL_law_280 (lv_at hl 1 rfl) ?_
                                refine q_mabs (v := ab (hearF (sL z) (kM z) (scd z k) (j * sL z + sdl z k))) hx hb (hml.trans hl.1.symm) hown (hts _ (List.mem_of_getElem? (i := 3) rfl)) (hts _ (List.mem_of_getElem? (i := 4) rfl)) (hts _ (List.mem_of_getElem? (i := 5) rfl)) (hts _ (List.mem_of_getElem? (i := 6) rfl)) (Nat.le_of_ble_eq_true rfl) (Nat.le_of_ble_eq_true rfl) (by show _ ≤ 1200130; omega) (by show _ ≤ 5501080; omega) dL_law_282 rfl ?_
                                refine lv_iload hx hb dL_law_285 (lv_at hl 5 rfl) ?_
                                refine lv_icmp_ge (tgt := 292) hx hb dL_law_287 (by decide) (fun c_120 => ?_) (fun c_120 => ?_)
                                · refine lv_iload hx hb dL_law_292 (lv_at hl 4 rfl) ?_
                                  refine lv_iload hx hb dL_law_294 (lv_at hl 1 rfl) ?_
                                  refine q_mabs (v := ab (hearF (sL z) (kM z) (scd z k) (j * sL z + sdl z k))) hx hb (hml.trans hl.1.symm) hown (hts _ (List.mem_of_getElem? (i := 3) rfl)) (hts _ (List.mem_of_getElem? (i := 4) rfl)) (hts _ (List.mem_of_getElem? (i := 5) rfl)) (hts _ (List.mem_of_getElem? (i := 6) rfl)) (Nat.le_of_ble_eq_true rfl) (Nat.le_of_ble_eq_true rfl) (by show _ ≤ 1200130; omega) (by show _ ≤ 5501080; omega) dL_law_296 rfl ?_
                                  refine lv_iload hx hb dL_law_299 (lv_at hl 5 rfl) ?_
                                  refine lv_icmp_ne (tgt := 308) hx hb dL_law_301 (by decide) (fun c_l => ?_) (fun c_l => ?_)
                                  · refine lv_iconst (v := nI 0) hx hb dL_law_308 (by decide) ?_
                                    refine q_ior (v := bI (lsB (fun w => hearF (sL z) (kM z) (scd z k) (w * sL z + sdl z k)) (fnF (fun w => hearF (sL z) (kM z) (scd z k) (w * sL z + sdl z k)) (ssd z k)) (ssd z k) (j + 1) = true)) hx hb dL_law_309 ((congrArg (fun q => bI (lsB (fun w => hearF (sL z) (kM z) (scd z k) (w * sL z + sdl z k)) (fnF (fun w => hearF (sL z) (kM z) (scd z k) (w * sL z + sdl z k)) (ssd z k)) (ssd z k) j = true) ||| q) (show nI 0 = bI (ab (hearF (sL z) (kM z) (scd z k) (j * sL z + sdl z k)) = fnF (fun w => hearF (sL z) (kM z) (scd z k) (w * sL z + sdl z k)) (ssd z k)) from (bI_f c_l))).trans (lsB_s (x := (fun w => hearF (sL z) (kM z) (scd z k) (w * sL z + sdl z k))))) ?_
                                    refine lv_istore (lv' := [(15, .int (bI (lsB (fun w => hearF (sL z) (kM z) (scd z k) (w * sL z + sdl z k)) (fnF (fun w => hearF (sL z) (kM z) (scd z k) (w * sL z + sdl z k)) (ssd z k)) (ssd z k) (j + 1) = true))), (13, .int (nI (wrF (sL z) (kM z) (scd z k) (sdl z k) (swd z k) (j + 1)))), (18, .int (hearF (sL z) (kM z) (scd z k) (j * sL z + sdl z k))), (17, .int (swd z k j)), (16, .int (nI j)), (14, .int (fnF (fun w => hearF (sL z) (kM z) (scd z k) (w * sL z + sdl z k)) (ssd z k))), (12, .int (nI (ssd z k))), (11, .int (nI k)), (10, .int (nI (endA z k))), (9, .int (nI (allW z (kM z) k))), (8, .int (nI (sumN (ssd z) k))), (7, .int (nI (sumN (ssr z) (k + 1)))), (6, .int (nI (sn z))), (5, .int (nI (sL z))), (4, .int x), (3, .int (nI tt)), (2, .ref (b 0)), (1, .ref (ad 0)), (0, .ref (gB g))]) hx hb dL_law_310 hl (by decide) rfl (fun ls hl => ?_)
                                    refine lv_iinc (v := nI (j + 1)) (lv' := [(16, .int (nI (j + 1))), (15, .int (bI (lsB (fun w => hearF (sL z) (kM z) (scd z k) (w * sL z + sdl z k)) (fnF (fun w => hearF (sL z) (kM z) (scd z k) (w * sL z + sdl z k)) (ssd z k)) (ssd z k) (j + 1) = true))), (13, .int (nI (wrF (sL z) (kM z) (scd z k) (sdl z k) (swd z k) (j + 1)))), (18, .int (hearF (sL z) (kM z) (scd z k) (j * sL z + sdl z k))), (17, .int (swd z k j)), (14, .int (fnF (fun w => hearF (sL z) (kM z) (scd z k) (w * sL z + sdl z k)) (ssd z k))), (12, .int (nI (ssd z k))), (11, .int (nI k)), (10, .int (nI (endA z k))), (9, .int (nI (allW z (kM z) k))), (8, .int (nI (sumN (ssd z) k))), (7, .int (nI (sumN (ssr z) (k + 1)))), (6, .int (nI (sn z))), (5, .int (nI (sL z))), (4, .int x), (3, .int (nI tt)), (2, .ref (b 0)), (1, .ref (ad 0)), (0, .ref (gB g))]) hx hb dL_law_312 hl (k := 4) rfl (nI_1 _) (by decide) rfl (fun ls hl => ?_)
                                    refine lv_goto (tgt := 142) hx hb dL_law_315 (by decide) ?_
                                    exact ih_142 (j + 1)  (by omega) (by omega)  _ _ hP hD hS hE _ (lv_sub hl [0, 1, 2, 5, 6, 7, 8, 9, 10, 11, 12, 13, 14, 15, 16, 17, 18] rfl)
                                  · refine lv_iconst (v := nI 1) hx hb dL_law_304 (by decide) ?_
                                    refine lv_goto (tgt := 309) hx hb dL_law_305 (by decide) ?_
                                    refine q_ior (v := bI (lsB (fun w => hearF (sL z) (kM z) (scd z k) (w * sL z + sdl z k)) (fnF (fun w => hearF (sL z) (kM z) (scd z k) (w * sL z + sdl z k)) (ssd z k)) (ssd z k) (j + 1) = true)) hx hb dL_law_309 ((congrArg (fun q => bI (lsB (fun w => hearF (sL z) (kM z) (scd z k) (w * sL z + sdl z k)) (fnF (fun w => hearF (sL z) (kM z) (scd z k) (w * sL z + sdl z k)) (ssd z k)) (ssd z k) j = true) ||| q) (show nI 1 = bI (ab (hearF (sL z) (kM z) (scd z k) (j * sL z + sdl z k)) = fnF (fun w => hearF (sL z) (kM z) (scd z k) (w * sL z + sdl z k)) (ssd z k)) from (bI_t c_l))).trans (lsB_s (x := (fun w => hearF (sL z) (kM z) (scd z k) (w * sL z + sdl z k))))) ?_
                                    refine lv_istore (lv' := [(15, .int (bI (lsB (fun w => hearF (sL z) (kM z) (scd z k) (w * sL z + sdl z k)) (fnF (fun w => hearF (sL z) (kM z) (scd z k) (w * sL z + sdl z k)) (ssd z k)) (ssd z k) (j + 1) = true))), (13, .int (nI (wrF (sL z) (kM z) (scd z k) (sdl z k) (swd z k) (j + 1)))), (18, .int (hearF (sL z) (kM z) (scd z k) (j * sL z + sdl z k))), (17, .int (swd z k j)), (16, .int (nI j)), (14, .int (fnF (fun w => hearF (sL z) (kM z) (scd z k) (w * sL z + sdl z k)) (ssd z k))), (12, .int (nI (ssd z k))), (11, .int (nI k)), (10, .int (nI (endA z k))), (9, .int (nI (allW z (kM z) k))), (8, .int (nI (sumN (ssd z) k))), (7, .int (nI (sumN (ssr z) (k + 1)))), (6, .int (nI (sn z))), (5, .int (nI (sL z))), (4, .int x), (3, .int (nI tt)), (2, .ref (b 0)), (1, .ref (ad 0)), (0, .ref (gB g))]) hx hb dL_law_310 hl (by decide) rfl (fun ls hl => ?_)
                                    refine lv_iinc (v := nI (j + 1)) (lv' := [(16, .int (nI (j + 1))), (15, .int (bI (lsB (fun w => hearF (sL z) (kM z) (scd z k) (w * sL z + sdl z k)) (fnF (fun w => hearF (sL z) (kM z) (scd z k) (w * sL z + sdl z k)) (ssd z k)) (ssd z k) (j + 1) = true))), (13, .int (nI (wrF (sL z) (kM z) (scd z k) (sdl z k) (swd z k) (j + 1)))), (18, .int (hearF (sL z) (kM z) (scd z k) (j * sL z + sdl z k))), (17, .int (swd z k j)), (14, .int (fnF (fun w => hearF (sL z) (kM z) (scd z k) (w * sL z + sdl z k)) (ssd z k))), (12, .int (nI (ssd z k))), (11, .int (nI k)), (10, .int (nI (endA z k))), (9, .int (nI (allW z (kM z) k))), (8, .int (nI (sumN (ssd z) k))), (7, .int (nI (sumN (ssr z) (k + 1)))), (6, .int (nI (sn z))), (5, .int (nI (sL z))), (4, .int x), (3, .int (nI tt)), (2, .ref (b 0)), (1, .ref (ad 0)), (0, .ref (gB g))]) hx hb dL_law_312 hl (k := 4) rfl (nI_1 _) (by decide) rfl (fun ls hl => ?_)
                                    refine lv_goto (tgt := 142) hx hb dL_law_315 (by decide) ?_
                                    exact ih_142 (j + 1)  (by omega) (by omega)  _ _ hP hD hS hE _ (lv_sub hl [0, 1, 2, 5, 6, 7, 8, 9, 10, 11, 12, 13, 14, 15, 16, 17, 18] rfl)
                                · exact absurd (fnF_le (x := (fun w => hearF (sL z) (kM z) (scd z k) (w * sL z + sdl z k))) c_w) c_120
                          · exact absurd rfl c_117
                  · refine lv_iconst (v := nI 1) hx hb dL_law_210 (by decide) ?_
                    refine lv_goto (tgt := 215) hx hb dL_law_211 (by decide) ?_
                    refine lv_iload hx hb dL_law_215 (lv_at hl 1 rfl) ?_
                    refine lv_if_eq (tgt := 243) hx hb dL_law_217 (by decide) (fun c_x => ?_) (fun c_x => ?_)
                    · refine lv_iconst (v := nI 1) hx hb dL_law_243 (by decide) ?_
                      refine lv_goto (tgt := 248) hx hb dL_law_244 (by decide) ?_
                      refine q_icmp_ne (tgt := 290) hx hb (by omega) (by omega) dL_law_248 (by decide) (fun c_121 => ?_) (fun c_121 => ?_)
                      · exact absurd rfl c_121
                      · refine lv_iload hx hb dL_law_251 (lv_at hl 1 rfl) ?_
                        refine lv_aload_n hx hb dL_law_253 rfl (lv_at hl 17 rfl) ?_
                        refine lv_aload_n hx hb dL_law_254 rfl (lv_at hl 17 rfl) ?_
                        refine lv_iload hx hb dL_law_255 (lv_at hl 7 rfl) ?_
                        refine lv_iconst (v := nI 0) hx hb dL_law_257 (by decide) ?_
                        refine q_roV (As := [.int (nI k), .int (nI 0)]) (rest := [.ref (ad 0), .int (hearF (sL z) (kM z) (scd z k) (j * sL z + sdl z k))]) ⟨hx, hb, hml, hown, hts⟩ (k_about0 hI c_k) (cwV 2 hts gL_law_X3_about rfl rfl rfl (by decide +kernel) ⟨Nat.le_of_ble_eq_true rfl, Nat.le_of_ble_eq_true rfl⟩) hE (fun q h => hA q (Nat.le_trans hS.1 h)) (q_snd hP) (va_recv hE.K (q_snd hP) (ci := 4) (q0 := 0) rfl rfl) rfl hl.1 rfl (Nat.le_of_ble_eq_true rfl) dL_law_258 ⟨by show _ ≤ 1200130; omega, by show _ ≤ 5501080; omega⟩ ?_
                        refine lv_aload_n hx hb dL_law_261 rfl (lv_at hl 17 rfl) ?_
                        refine lv_iload hx hb dL_law_262 (lv_at hl 7 rfl) ?_
                        refine lv_iconst (v := nI 2) hx hb dL_law_264 (by decide) ?_
                        refine q_roV (As := [.int (nI k), .int (nI 2)]) (rest := [.int (nI (scd z k)), .ref (ad 0), .int (hearF (sL z) (kM z) (scd z k) (j * sL z + sdl z k))]) ⟨hx, hb, hml, hown, hts⟩ (k_about2 hI c_k) (cwV 2 hts gL_law_X3_about rfl rfl rfl (by decide +kernel) ⟨Nat.le_of_ble_eq_true rfl, Nat.le_of_ble_eq_true rfl⟩) hE (fun q h => hA q (Nat.le_trans hS.1 h)) (q_snd hP) (va_recv hE.K (q_snd hP) (ci := 4) (q0 := 0) rfl rfl) rfl hl.1 rfl (Nat.le_of_ble_eq_true rfl) dL_law_265 ⟨by show _ ≤ 1200130; omega, by show _ ≤ 5501080; omega⟩ ?_
                        refine lv_iload hx hb dL_law_268 (lv_at hl 13 rfl) ?_
                        refine lv_iload hx hb dL_law_270 (lv_at hl 3 rfl) ?_
                        refine q_imul (v := nI ((sL z) * j)) hx hb dL_law_272 (pk_mul _ _) ?_
                        refine q_iadd (v := nI (j * sL z + sdl z k)) hx hb dL_law_273 (by rw [nI_add, Nat.add_comm, Nat.mul_comm]) ?_
                        refine q_roV (As := [.int (nI (scd z k)), .int (nI (j * sL z + sdl z k))]) (rest := [.int (hearF (sL z) (kM z) (scd z k) (j * sL z + sdl z k))]) ⟨hx, hb, hml, hown, hts⟩ (k_hear hI (a := scd z k) (t := j * sL z + sdl z k) hd_.1 (by have := mul16 (a := j) hL.2; omega)) (cwV 2 hts gL_law_X3_hear rfl rfl rfl (by decide +kernel) ⟨Nat.le_of_ble_eq_true rfl, Nat.le_of_ble_eq_true rfl⟩) hE (fun q h => hA q (Nat.le_trans hS.1 h)) (q_snd hP) (va_recv hE.K (q_snd hP) (ci := 4) (q0 := 0) rfl rfl) rfl hl.1 rfl (Nat.le_of_ble_eq_true rfl) dL_law_274 ⟨by show _ ≤ 1200130; omega, by show _ ≤ 5501080; omega⟩ ?_
                        refine lv_icmp_ne (tgt := 290) hx hb dL_law_277 (by decide) (fun c_122 => ?_) (fun c_122 => ?_)
                        · exact absurd rfl c_122
                        · refine lv_iload hx hb dL_law_280 (lv_at hl 1 rfl) ?_
                          refine q_mabs (v := ab (hearF (sL z) (kM z) (scd z k) (j * sL z + sdl z k))) hx hb (hml.trans hl.1.symm) hown (hts _ (List.mem_of_getElem? (i := 3) rfl)) (hts _ (List.mem_of_getElem? (i := 4) rfl)) (hts _ (List.mem_of_getElem? (i := 5) rfl)) (hts _ (List.mem_of_getElem? (i := 6) rfl)) (Nat.le_of_ble_eq_true rfl) (Nat.le_of_ble_eq_true rfl) (by show _ ≤ 1200130; omega) (by show _ ≤ 5501080; omega) dL_law_282 rfl ?_
                          refine lv_iload hx hb dL_law_285 (lv_at hl 5 rfl) ?_
                          refine lv_icmp_ge (tgt := 292) hx hb dL_law_287 (by decide) (fun c_123 => ?_) (fun c_123 => ?_)
                          · refine lv_iload hx hb dL_law_292 (lv_at hl 4 rfl) ?_
                            refine lv_iload hx hb dL_law_294 (lv_at hl 1 rfl) ?_
                            refine q_mabs (v := ab (hearF (sL z) (kM z) (scd z k) (j * sL z + sdl z k))) hx hb (hml.trans hl.1.symm) hown (hts _ (List.mem_of_getElem? (i := 3) rfl)) (hts _ (List.mem_of_getElem? (i := 4) rfl)) (hts _ (List.mem_of_getElem? (i := 5) rfl)) (hts _ (List.mem_of_getElem? (i := 6) rfl)) (Nat.le_of_ble_eq_true rfl) (Nat.le_of_ble_eq_true rfl) (by show _ ≤ 1200130; omega) (by show _ ≤ 5501080; omega) dL_law_296 rfl ?_
                            refine lv_iload hx hb dL_law_299 (lv_at hl 5 rfl) ?_
                            refine lv_icmp_ne (tgt := 308) hx hb dL_law_301 (by decide) (fun c_l => ?_) (fun c_l => ?_)
                            · refine lv_iconst (v := nI 0) hx hb dL_law_308 (by decide) ?_
                              refine q_ior (v := bI (lsB (fun w => hearF (sL z) (kM z) (scd z k) (w * sL z + sdl z k)) (fnF (fun w => hearF (sL z) (kM z) (scd z k) (w * sL z + sdl z k)) (ssd z k)) (ssd z k) (j + 1) = true)) hx hb dL_law_309 ((congrArg (fun q => bI (lsB (fun w => hearF (sL z) (kM z) (scd z k) (w * sL z + sdl z k)) (fnF (fun w => hearF (sL z) (kM z) (scd z k) (w * sL z + sdl z k)) (ssd z k)) (ssd z k) j = true) ||| q) (show nI 0 = bI (ab (hearF (sL z) (kM z) (scd z k) (j * sL z + sdl z k)) = fnF (fun w => hearF (sL z) (kM z) (scd z k) (w * sL z + sdl z k)) (ssd z k)) from (bI_f c_l))).trans (lsB_s (x := (fun w => hearF (sL z) (kM z) (scd z k) (w * sL z + sdl z k))))) ?_
                              refine lv_istore (lv' := [(15, .int (bI (lsB (fun w => hearF (sL z) (kM z) (scd z k) (w * sL z + sdl z k)) (fnF (fun w => hearF (sL z) (kM z) (scd z k) (w * sL z + sdl z k)) (ssd z k)) (ssd z k) (j + 1) = true))), (13, .int (nI (wrF (sL z) (kM z) (scd z k) (sdl z k) (swd z k) (j + 1)))), (18, .int (hearF (sL z) (kM z) (scd z k) (j * sL z + sdl z k))), (17, .int (swd z k j)), (16, .int (nI j)), (14, .int (fnF (fun w => hearF (sL z) (kM z) (scd z k) (w * sL z + sdl z k)) (ssd z k))), (12, .int (nI (ssd z k))), (11, .int (nI k)), (10, .int (nI (endA z k))), (9, .int (nI (allW z (kM z) k))), (8, .int (nI (sumN (ssd z) k))), (7, .int (nI (sumN (ssr z) (k + 1)))), (6, .int (nI (sn z))), (5, .int (nI (sL z))), (4, .int x), (3, .int (nI tt)), (2, .ref (b 0)), (1, .ref (ad 0)), (0, .ref (gB g))]) hx hb dL_law_310 hl (by decide) rfl (fun ls hl => ?_)
                              refine lv_iinc (v := nI (j + 1)) (lv' := [(16, .int (nI (j + 1))), (15, .int (bI (lsB (fun w => hearF (sL z) (kM z) (scd z k) (w * sL z + sdl z k)) (fnF (fun w => hearF (sL z) (kM z) (scd z k) (w * sL z + sdl z k)) (ssd z k)) (ssd z k) (j + 1) = true))), (13, .int (nI (wrF (sL z) (kM z) (scd z k) (sdl z k) (swd z k) (j + 1)))), (18, .int (hearF (sL z) (kM z) (scd z k) (j * sL z + sdl z k))), (17, .int (swd z k j)), (14, .int (fnF (fun w => hearF (sL z) (kM z) (scd z k) (w * sL z + sdl z k)) (ssd z k))), (12, .int (nI (ssd z k))), (11, .int (nI k)), (10, .int (nI (endA z k))), (9, .int (nI (allW z (kM z) k))), (8, .int (nI (sumN (ssd z) k))), (7, .int (nI (sumN (ssr z) (k + 1)))), (6, .int (nI (sn z))), (5, .int (nI (sL z))), (4, .int x), (3, .int (nI tt)), (2, .ref (b 0)), (1, .ref (ad 0)), (0, .ref (gB g))]) hx hb dL_law_312 hl (k := 4) rfl (nI_1 _) (by decide) rfl (fun ls hl => ?_)
                              refine lv_goto (tgt := 142) hx hb dL_law_315 (by decide) ?_
                              exact ih_142 (j + 1)  (by omega) (by omega)  _ _ hP hD hS hE _ (lv_sub hl [0, 1, 2, 5, 6, 7, 8, 9, 10, 11, 12, 13, 14, 15, 16, 17, 18] rfl)
                            · refine lv_iconst (v := nI 1) hx hb dL_law_304 (by decide) ?_
                              refine lv_goto (tgt := 309) hx hb dL_law_305 (by decide) ?_
                              refine q_ior (v := bI (lsB (fun w => hearF (sL z) (kM z) (scd z k) (w * sL z + sdl z k)) (fnF (fun w => hearF (sL z) (kM z) (scd z k) (w * sL z + sdl z k)) (ssd z k)) (ssd z k) (j + 1) = true)) hx hb dL_law_309 ((congrArg (fun q => bI (lsB (fun w => hearF (sL z) (kM z) (scd z k) (w * sL z + sdl z k)) (fnF (fun w => hearF (sL z) (kM z) (scd z k) (w * sL z + sdl z k)) (ssd z k)) (ssd z k) j = true) ||| q) (show nI 1 = bI (ab (hearF (sL z) (kM z) (scd z k) (j * sL z + sdl z k)) = fnF (fun w => hearF (sL z) (kM z) (scd z k) (w * sL z + sdl z k)) (ssd z k)) from (bI_t c_l))).trans (lsB_s (x := (fun w => hearF (sL z) (kM z) (scd z k) (w * sL z + sdl z k))))) ?_
                              refine lv_istore (lv' := [(15, .int (bI (lsB (fun w => hearF (sL z) (kM z) (scd z k) (w * sL z + sdl z k)) (fnF (fun w => hearF (sL z) (kM z) (scd z k) (w * sL z + sdl z k)) (ssd z k)) (ssd z k) (j + 1) = true))), (13, .int (nI (wrF (sL z) (kM z) (scd z k) (sdl z k) (swd z k) (j + 1)))), (18, .int (hearF (sL z) (kM z) (scd z k) (j * sL z + sdl z k))), (17, .int (swd z k j)), (16, .int (nI j)), (14, .int (fnF (fun w => hearF (sL z) (kM z) (scd z k) (w * sL z + sdl z k)) (ssd z k))), (12, .int (nI (ssd z k))), (11, .int (nI k)), (10, .int (nI (endA z k))), (9, .int (nI (allW z (kM z) k))), (8, .int (nI (sumN (ssd z) k))), (7, .int (nI (sumN (ssr z) (k + 1)))), (6, .int (nI (sn z))), (5, .int (nI (sL z))), (4, .int x), (3, .int (nI tt)), (2, .ref (b 0)), (1, .ref (ad 0)), (0, .ref (gB g))]) hx hb dL_law_310 hl (by decide) rfl (fun ls hl => ?_)
                              refine lv_iinc (v := nI (j + 1)) (lv' := [(16, .int (nI (j + 1))), (15, .int (bI (lsB (fun w => hearF (sL z) (kM z) (scd z k) (w * sL z + sdl z k)) (fnF (fun w => hearF (sL z) (kM z) (scd z k) (w * sL z + sdl z k)) (ssd z k)) (ssd z k) (j + 1) = true))), (13, .int (nI (wrF (sL z) (kM z) (scd z k) (sdl z k) (swd z k) (j + 1)))), (18, .int (hearF (sL z) (kM z) (scd z k) (j * sL z + sdl z k))), (17, .int (swd z k j)), (14, .int (fnF (fun w => hearF (sL z) (kM z) (scd z k) (w * sL z + sdl z k)) (ssd z k))), (12, .int (nI (ssd z k))), (11, .int (nI k)), (10, .int (nI (endA z k))), (9, .int (nI (allW z (kM z) k))), (8, .int (nI (sumN (ssd z) k))), (7, .int (nI (sumN (ssr z) (k + 1)))), (6, .int (nI (sn z))), (5, .int (nI (sL z))), (4, .int x), (3, .int (nI tt)), (2, .ref (b 0)), (1, .ref (ad 0)), (0, .ref (gB g))]) hx hb dL_law_312 hl (k := 4) rfl (nI_1 _) (by decide) rfl (fun ls hl => ?_)
                              refine lv_goto (tgt := 142) hx hb dL_law_315 (by decide) ?_
                              exact ih_142 (j + 1)  (by omega) (by omega)  _ _ hP hD hS hE _ (lv_sub hl [0, 1, 2, 5, 6, 7, 8, 9, 10, 11, 12, 13, 14, 15, 16, 17, 18] rfl)
                          · exact absurd (fnF_le (x := (fun w => hearF (sL z) (kM z) (scd z k) (w * sL z + sdl z k))) c_w) c_123
                    · refine lv_iload hx hb dL_law_220 (lv_at hl 1 rfl) ?_
                      refine lv_if_le (tgt := 229) hx hb dL_law_222 (by decide) (fun c_p => ?_) (fun c_p => ?_)
                      · refine lv_iconst (v := nI 0) hx hb dL_law_229 (by decide) ?_
                        refine lv_iload hx hb dL_law_230 (lv_at hl 2 rfl) ?_
                        refine lv_if_le (tgt := 239) hx hb dL_law_232 (by decide) (fun c_q => ?_) (fun c_q => ?_)
                        · refine lv_iconst (v := nI 0) hx hb dL_law_239 (by decide) ?_
                          refine q_icmp_eq (tgt := 247) hx hb (by omega) (by omega) dL_law_240 (by decide) (fun c_124 => ?_) (fun c_124 => ?_)
                          · refine lv_iconst (v := nI 0) hx hb dL_law_247 (by decide) ?_
                            refine q_icmp_ne (tgt := 290) hx hb (by omega) (by omega) dL_law_248 (by decide) (fun c_125 => ?_) (fun c_125 => ?_)
                            · exact (wr_e hX_ hw_ c_3 c_x c_p c_q).elim
                            · exact absurd c_125 (by decide)
                          · exact absurd rfl c_124
                        · refine lv_iconst (v := nI 1) hx hb dL_law_235 (by decide) ?_
                          refine lv_goto (tgt := 240) hx hb dL_law_236 (by decide) ?_
                          refine q_icmp_eq (tgt := 247) hx hb (by omega) (by omega) dL_law_240 (by decide) (fun c_126 => ?_) (fun c_126 => ?_)
                          · exact absurd c_126 (by decide)
                          · refine lv_iconst (v := nI 1) hx hb dL_law_243 (by decide) ?_
                            refine lv_goto (tgt := 248) hx hb dL_law_244 (by decide) ?_
                            refine q_icmp_ne (tgt := 290) hx hb (by omega) (by omega) dL_law_248 (by decide) (fun c_127 => ?_) (fun c_127 => ?_)
                            · exact absurd rfl c_127
                            · refine lv_iload hx hb dL_law_251 (lv_at hl 1 rfl) ?_
                              refine lv_aload_n hx hb dL_law_253 rfl (lv_at hl 17 rfl) ?_
                              refine lv_aload_n hx hb dL_law_254 rfl (lv_at hl 17 rfl) ?_
                              refine lv_iload hx hb dL_law_255 (lv_at hl 7 rfl) ?_
                              refine lv_iconst (v := nI 0) hx hb dL_law_257 (by decide) ?_
                              refine q_roV (As := [.int (nI k), .int (nI 0)]) (rest := [.ref (ad 0), .int (hearF (sL z) (kM z) (scd z k) (j * sL z + sdl z k))]) ⟨hx, hb, hml, hown, hts⟩ (k_about0 hI c_k) (cwV 2 hts gL_law_X3_about rfl rfl rfl (by decide +kernel) ⟨Nat.le_of_ble_eq_true rfl, Nat.le_of_ble_eq_true rfl⟩) hE (fun q h => hA q (Nat.le_trans hS.1 h)) (q_snd hP) (va_recv hE.K (q_snd hP) (ci := 4) (q0 := 0) rfl rfl) rfl hl.1 rfl (Nat.le_of_ble_eq_true rfl) dL_law_258 ⟨by show _ ≤ 1200130; omega, by show _ ≤ 5501080; omega⟩ ?_
                              refine lv_aload_n hx hb dL_law_261 rfl (lv_at hl 17 rfl) ?_
                              refine lv_iload hx hb dL_law_262 (lv_at hl 7 rfl) ?_
                              refine lv_iconst (v := nI 2) hx hb dL_law_264 (by decide) ?_
                              refine q_roV (As := [.int (nI k), .int (nI 2)]) (rest := [.int (nI (scd z k)), .ref (ad 0), .int (hearF (sL z) (kM z) (scd z k) (j * sL z + sdl z k))]) ⟨hx, hb, hml, hown, hts⟩ (k_about2 hI c_k) (cwV 2 hts gL_law_X3_about rfl rfl rfl (by decide +kernel) ⟨Nat.le_of_ble_eq_true rfl, Nat.le_of_ble_eq_true rfl⟩) hE (fun q h => hA q (Nat.le_trans hS.1 h)) (q_snd hP) (va_recv hE.K (q_snd hP) (ci := 4) (q0 := 0) rfl rfl) rfl hl.1 rfl (Nat.le_of_ble_eq_true rfl) dL_law_265 ⟨by show _ ≤ 1200130; omega, by show _ ≤ 5501080; omega⟩ ?_
                              refine lv_iload hx hb dL_law_268 (lv_at hl 13 rfl) ?_
                              refine lv_iload hx hb dL_law_270 (lv_at hl 3 rfl) ?_
                              refine q_imul (v := nI ((sL z) * j)) hx hb dL_law_272 (pk_mul _ _) ?_
                              refine q_iadd (v := nI (j * sL z + sdl z k)) hx hb dL_law_273 (by rw [nI_add, Nat.add_comm, Nat.mul_comm]) ?_
                              refine q_roV (As := [.int (nI (scd z k)), .int (nI (j * sL z + sdl z k))]) (rest := [.int (hearF (sL z) (kM z) (scd z k) (j * sL z + sdl z k))]) ⟨hx, hb, hml, hown, hts⟩ (k_hear hI (a := scd z k) (t := j * sL z + sdl z k) hd_.1 (by have := mul16 (a := j) hL.2; omega)) (cwV 2 hts gL_law_X3_hear rfl rfl rfl (by decide +kernel) ⟨Nat.le_of_ble_eq_true rfl, Nat.le_of_ble_eq_true rfl⟩) hE (fun q h => hA q (Nat.le_trans hS.1 h)) (q_snd hP) (va_recv hE.K (q_snd hP) (ci := 4) (q0 := 0) rfl rfl) rfl hl.1 rfl (Nat.le_of_ble_eq_true rfl) dL_law_274 ⟨by show _ ≤ 1200130; omega, by show _ ≤ 5501080; omega⟩ ?_
                              refine lv_icmp_ne (tgt := 290) hx hb dL_law_277 (by decide) (fun c_128 => ?_) (fun c_128 => ?_)
                              · exact absurd rfl c_128
                              · refine lv_iload hx hb dL_law_280 (lv_at hl 1 rfl) ?_
                                refine q_mabs (v := ab (hearF (sL z) (kM z) (scd z k) (j * sL z + sdl z k))) hx hb (hml.trans hl.1.symm) hown (hts _ (List.mem_of_getElem? (i := 3) rfl)) (hts _ (List.mem_of_getElem? (i := 4) rfl)) (hts _ (List.mem_of_getElem? (i := 5) rfl)) (hts _ (List.mem_of_getElem? (i := 6) rfl)) (Nat.le_of_ble_eq_true rfl) (Nat.le_of_ble_eq_true rfl) (by show _ ≤ 1200130; omega) (by show _ ≤ 5501080; omega) dL_law_282 rfl ?_
                                refine lv_iload hx hb dL_law_285 (lv_at hl 5 rfl) ?_
                                refine lv_icmp_ge (tgt := 292) hx hb dL_law_287 (by decide) (fun c_129 => ?_) (fun c_129 => ?_)
                                · refine lv_iload hx hb dL_law_292 (lv_at hl 4 rfl) ?_
                                  refine lv_iload hx hb dL_law_294 (lv_at hl 1 rfl) ?_
                                  refine q_mabs (v := ab (hearF (sL z) (kM z) (scd z k) (j * sL z + sdl z k))) hx hb (hml.trans hl.1.symm) hown (hts _ (List.mem_of_getElem? (i := 3) rfl)) (hts _ (List.mem_of_getElem? (i := 4) rfl)) (hts _ (List.mem_of_getElem? (i := 5) rfl)) (hts _ (List.mem_of_getElem? (i := 6) rfl)) (Nat.le_of_ble_eq_true rfl) (Nat.le_of_ble_eq_true rfl) (by show _ ≤ 1200130; omega) (by show _ ≤ 5501080; omega) dL_law_296 rfl ?_
                                  refine lv_iload hx hb dL_law_299 (lv_at hl 5 rfl) ?_
                                  refine lv_icmp_ne (tgt := 308) hx hb dL_law_301 (by decide) (fun c_l => ?_) (fun c_l => ?_)
                                  · refine lv_iconst (v := nI 0) hx hb dL_law_308 (by decide) ?_
                                    refine q_ior (v := bI (lsB (fun w => hearF (sL z) (kM z) (scd z k) (w * sL z + sdl z k)) (fnF (fun w => hearF (sL z) (kM z) (scd z k) (w * sL z + sdl z k)) (ssd z k)) (ssd z k) (j + 1) = true)) hx hb dL_law_309 ((congrArg (fun q => bI (lsB (fun w => hearF (sL z) (kM z) (scd z k) (w * sL z + sdl z k)) (fnF (fun w => hearF (sL z) (kM z) (scd z k) (w * sL z + sdl z k)) (ssd z k)) (ssd z k) j = true) ||| q) (show nI 0 = bI (ab (hearF (sL z) (kM z) (scd z k) (j * sL z + sdl z k)) = fnF (fun w => hearF (sL z) (kM z) (scd z k) (w * sL z + sdl z k)) (ssd z k)) from (bI_f c_l))).trans (lsB_s (x := (fun w => hearF (sL z) (kM z) (scd z k) (w * sL z + sdl z k))))) ?_
                                    refine lv_istore (lv' := [(15, .int (bI (lsB (fun w => hearF (sL z) (kM z) (scd z k) (w * sL z + sdl z k)) (fnF (fun w => hearF (sL z) (kM z) (scd z k) (w * sL z + sdl z k)) (ssd z k)) (ssd z k) (j + 1) = true))), (13, .int (nI (wrF (sL z) (kM z) (scd z k) (sdl z k) (swd z k) (j + 1)))), (18, .int (hearF (sL z) (kM z) (scd z k) (j * sL z + sdl z k))), (17, .int (swd z k j)), (16, .int (nI j)), (14, .int (fnF (fun w => hearF (sL z) (kM z) (scd z k) (w * sL z + sdl z k)) (ssd z k))), (12, .int (nI (ssd z k))), (11, .int (nI k)), (10, .int (nI (endA z k))), (9, .int (nI (allW z (kM z) k))), (8, .int (nI (sumN (ssd z) k))), (7, .int (nI (sumN (ssr z) (k + 1)))), (6, .int (nI (sn z))), (5, .int (nI (sL z))), (4, .int x), (3, .int (nI tt)), (2, .ref (b 0)), (1, .ref (ad 0)), (0, .ref (gB g))]) hx hb dL_law_310 hl (by decide) rfl (fun ls hl => ?_)
                                    refine lv_iinc (v := nI (j + 1)) (lv' := [(16, .int (nI (j + 1))), (15, .int (bI (lsB (fun w => hearF (sL z) (kM z) (scd z k) (w * sL z + sdl z k)) (fnF (fun w => hearF (sL z) (kM z) (scd z k) (w * sL z + sdl z k)) (ssd z k)) (ssd z k) (j + 1) = true))), (13, .int (nI (wrF (sL z) (kM z) (scd z k) (sdl z k) (swd z k) (j + 1)))), (18, .int (hearF (sL z) (kM z) (scd z k) (j * sL z + sdl z k))), (17, .int (swd z k j)), (14, .int (fnF (fun w => hearF (sL z) (kM z) (scd z k) (w * sL z + sdl z k)) (ssd z k))), (12, .int (nI (ssd z k))), (11, .int (nI k)), (10, .int (nI (endA z k))), (9, .int (nI (allW z (kM z) k))), (8, .int (nI (sumN (ssd z) k))), (7, .int (nI (sumN (ssr z) (k + 1)))), (6, .int (nI (sn z))), (5, .int (nI (sL z))), (4, .int x), (3, .int (nI tt)), (2, .ref (b 0)), (1, .ref (ad 0)), (0, .ref (gB g))]) hx hb dL_law_312 hl (k := 4) rfl (nI_1 _) (by decide) rfl (fun ls hl => ?_)
                                    refine lv_goto (tgt := 142) hx hb dL_law_315 (by decide) ?_
                                    exact ih_142 (j + 1)  (by omega) (by omega)  _ _ hP hD hS hE _ (lv_sub hl [0, 1, 2, 5, 6, 7, 8, 9, 10, 11, 12, 13, 14, 15, 16, 17, 18] rfl)
                                  · refine lv_iconst (v := nI 1) hx hb dL_law_304 (by decide) ?_
                                    refine lv_goto (tgt := 309) hx hb dL_law_305 (by decide) ?_
                                    refine q_ior (v := bI (lsB (fun w => hearF (sL z) (kM z) (scd z k) (w * sL z + sdl z k)) (fnF (fun w => hearF (sL z) (kM z) (scd z k) (w * sL z + sdl z k)) (ssd z k)) (ssd z k) (j + 1) = true)) hx hb dL_law_309 ((congrArg (fun q => bI (lsB (fun w => hearF (sL z) (kM z) (scd z k) (w * sL z + sdl z k)) (fnF (fun w => hearF (sL z) (kM z) (scd z k) (w * sL z + sdl z k)) (ssd z k)) (ssd z k) j = true) ||| q) (show nI 1 = bI (ab (hearF (sL z) (kM z) (scd z k) (j * sL z + sdl z k)) = fnF (fun w => hearF (sL z) (kM z) (scd z k) (w * sL z + sdl z k)) (ssd z k)) from (bI_t c_l))).trans (lsB_s (x := (fun w => hearF (sL z) (kM z) (scd z k) (w * sL z + sdl z k))))) ?_
                                    refine lv_istore (lv' := [(15, .int (bI (lsB (fun w => hearF (sL z) (kM z) (scd z k) (w * sL z + sdl z k)) (fnF (fun w => hearF (sL z) (kM z) (scd z k) (w * sL z + sdl z k)) (ssd z k)) (ssd z k) (j + 1) = true))), (13, .int (nI (wrF (sL z) (kM z) (scd z k) (sdl z k) (swd z k) (j + 1)))), (18, .int (hearF (sL z) (kM z) (scd z k) (j * sL z + sdl z k))), (17, .int (swd z k j)), (16, .int (nI j)), (14, .int (fnF (fun w => hearF (sL z) (kM z) (scd z k) (w * sL z + sdl z k)) (ssd z k))), (12, .int (nI (ssd z k))), (11, .int (nI k)), (10, .int (nI (endA z k))), (9, .int (nI (allW z (kM z) k))), (8, .int (nI (sumN (ssd z) k))), (7, .int (nI (sumN (ssr z) (k + 1)))), (6, .int (nI (sn z))), (5, .int (nI (sL z))), (4, .int x), (3, .int (nI tt)), (2, .ref (b 0)), (1, .ref (ad 0)), (0, .ref (gB g))]) hx hb dL_law_310 hl (by decide) rfl (fun ls hl => ?_)
                                    refine lv_iinc (v := nI (j + 1)) (lv' := [(16, .int (nI (j + 1))), (15, .int (bI (lsB (fun w => hearF (sL z) (kM z) (scd z k) (w * sL z + sdl z k)) (fnF (fun w => hearF (sL z) (kM z) (scd z k) (w * sL z + sdl z k)) (ssd z k)) (ssd z k) (j + 1) = true))), (13, .int (nI (wrF (sL z) (kM z) (scd z k) (sdl z k) (swd z k) (j + 1)))), (18, .int (hearF (sL z) (kM z) (scd z k) (j * sL z + sdl z k))), (17, .int (swd z k j)), (14, .int (fnF (fun w => hearF (sL z) (kM z) (scd z k) (w * sL z + sdl z k)) (ssd z k))), (12, .int (nI (ssd z k))), (11, .int (nI k)), (10, .int (nI (endA z k))), (9, .int (nI (allW z (kM z) k))), (8, .int (nI (sumN (ssd z) k))), (7, .int (nI (sumN (ssr z) (k + 1)))), (6, .int (nI (sn z))), (5, .int (nI (sL z))), (4, .int x), (3, .int (nI tt)), (2, .ref (b 0)), (1, .ref (ad 0)), (0, .ref (gB g))]) hx hb dL_law_312 hl (k := 4) rfl (nI_1 _) (by decide) rfl (fun ls hl => ?_)
                                    refine lv_goto (tgt := 142) hx hb dL_law_315 (by decide) ?_
                                    exact ih_142 (j + 1)  (by omega) (by omega)  _ _ hP hD hS hE _ (lv_sub hl [0, 1, 2, 5, 6, 7, 8, 9, 10, 11, 12, 13, 14, 15, 16, 17, 18] rfl)
                                · exact absurd (fnF_le (x := (fun w => hearF (sL z) (kM z) (scd z k) (w * sL z + sdl z k))) c_w) c_129
                      · refine lv_iconst (v := nI 1) hx hb dL_law_225 (by decide) ?_
                        refine lv_goto (tgt := 230) hx hb dL_law_226 (by decide) ?_
                        refine lv_iload hx hb dL_law_230 (lv_at hl 2 rfl) ?_
                        refine lv_if_le (tgt := 239) hx hb dL_law_232 (by decide) (fun c_q => ?_) (fun c_q => ?_)
                        · refine lv_iconst (v := nI 0) hx hb dL_law_239 (by decide) ?_
                          refine q_icmp_eq (tgt := 247) hx hb (by omega) (by omega) dL_law_240 (by decide) (fun c_130 => ?_) (fun c_130 => ?_)
                          · exact absurd c_130 (by decide)
                          · refine lv_iconst (v := nI 1) hx hb dL_law_243 (by decide) ?_
                            refine lv_goto (tgt := 248) hx hb dL_law_244 (by decide) ?_
                            refine q_icmp_ne (tgt := 290) hx hb (by omega) (by omega) dL_law_248 (by decide) (fun c_131 => ?_) (fun c_131 => ?_)
                            · exact absurd rfl c_131
                            · refine lv_iload hx hb dL_law_251 (lv_at hl 1 rfl) ?_
                              refine lv_aload_n hx hb dL_law_253 rfl (lv_at hl 17 rfl) ?_
                              refine lv_aload_n hx hb dL_law_254 rfl (lv_at hl 17 rfl) ?_
                              refine lv_iload hx hb dL_law_255 (lv_at hl 7 rfl) ?_
                              refine lv_iconst (v := nI 0) hx hb dL_law_257 (by decide) ?_
                              refine q_roV (As := [.int (nI k), .int (nI 0)]) (rest := [.ref (ad 0), .int (hearF (sL z) (kM z) (scd z k) (j * sL z + sdl z k))]) ⟨hx, hb, hml, hown, hts⟩ (k_about0 hI c_k) (cwV 2 hts gL_law_X3_about rfl rfl rfl (by decide +kernel) ⟨Nat.le_of_ble_eq_true rfl, Nat.le_of_ble_eq_true rfl⟩) hE (fun q h => hA q (Nat.le_trans hS.1 h)) (q_snd hP) (va_recv hE.K (q_snd hP) (ci := 4) (q0 := 0) rfl rfl) rfl hl.1 rfl (Nat.le_of_ble_eq_true rfl) dL_law_258 ⟨by show _ ≤ 1200130; omega, by show _ ≤ 5501080; omega⟩ ?_
                              refine lv_aload_n hx hb dL_law_261 rfl (lv_at hl 17 rfl) ?_
                              refine lv_iload hx hb dL_law_262 (lv_at hl 7 rfl) ?_
                              refine lv_iconst (v := nI 2) hx hb dL_law_264 (by decide) ?_
                              refine q_roV (As := [.int (nI k), .int (nI 2)]) (rest := [.int (nI (scd z k)), .ref (ad 0), .int (hearF (sL z) (kM z) (scd z k) (j * sL z + sdl z k))]) ⟨hx, hb, hml, hown, hts⟩ (k_about2 hI c_k) (cwV 2 hts gL_law_X3_about rfl rfl rfl (by decide +kernel) ⟨Nat.le_of_ble_eq_true rfl, Nat.le_of_ble_eq_true rfl⟩) hE (fun q h => hA q (Nat.le_trans hS.1 h)) (q_snd hP) (va_recv hE.K (q_snd hP) (ci := 4) (q0 := 0) rfl rfl) rfl hl.1 rfl (Nat.le_of_ble_eq_true rfl) dL_law_265 ⟨by show _ ≤ 1200130; omega, by show _ ≤ 5501080; omega⟩ ?_
                              refine lv_iload hx hb dL_law_268 (lv_at hl 13 rfl) ?_
                              refine lv_iload hx hb dL_law_270 (lv_at hl 3 rfl) ?_
                              refine q_imul (v := nI ((sL z) * j)) hx hb dL_law_272 (pk_mul _ _) ?_
                              refine q_iadd (v := nI (j * sL z + sdl z k)) hx hb dL_law_273 (by rw [nI_add, Nat.add_comm, Nat.mul_comm]) ?_
                              refine q_roV (As := [.int (nI (scd z k)), .int (nI (j * sL z + sdl z k))]) (rest := [.int (hearF (sL z) (kM z) (scd z k) (j * sL z + sdl z k))]) ⟨hx, hb, hml, hown, hts⟩ (k_hear hI (a := scd z k) (t := j * sL z + sdl z k) hd_.1 (by have := mul16 (a := j) hL.2; omega)) (cwV 2 hts gL_law_X3_hear rfl rfl rfl (by decide +kernel) ⟨Nat.le_of_ble_eq_true rfl, Nat.le_of_ble_eq_true rfl⟩) hE (fun q h => hA q (Nat.le_trans hS.1 h)) (q_snd hP) (va_recv hE.K (q_snd hP) (ci := 4) (q0 := 0) rfl rfl) rfl hl.1 rfl (Nat.le_of_ble_eq_true rfl) dL_law_274 ⟨by show _ ≤ 1200130; omega, by show _ ≤ 5501080; omega⟩ ?_
                              refine lv_icmp_ne (tgt := 290) hx hb dL_law_277 (by decide) (fun c_132 => ?_) (fun c_132 => ?_)
                              · exact absurd rfl c_132
                              · refine lv_iload hx hb dL_law_280 (lv_at hl 1 rfl) ?_
                                refine q_mabs (v := ab (hearF (sL z) (kM z) (scd z k) (j * sL z + sdl z k))) hx hb (hml.trans hl.1.symm) hown (hts _ (List.mem_of_getElem? (i := 3) rfl)) (hts _ (List.mem_of_getElem? (i := 4) rfl)) (hts _ (List.mem_of_getElem? (i := 5) rfl)) (hts _ (List.mem_of_getElem? (i := 6) rfl)) (Nat.le_of_ble_eq_true rfl) (Nat.le_of_ble_eq_true rfl) (by show _ ≤ 1200130; omega) (by show _ ≤ 5501080; omega) dL_law_282 rfl ?_
                                refine lv_iload hx hb dL_law_285 (lv_at hl 5 rfl) ?_
                                refine lv_icmp_ge (tgt := 292) hx hb dL_law_287 (by decide) (fun c_133 => ?_) (fun c_133 => ?_)
                                · refine lv_iload hx hb dL_law_292 (lv_at hl 4 rfl) ?_
                                  refine lv_iload hx hb dL_law_294 (lv_at hl 1 rfl) ?_
                                  refine q_mabs (v := ab (hearF (sL z) (kM z) (scd z k) (j * sL z + sdl z k))) hx hb (hml.trans hl.1.symm) hown (hts _ (List.mem_of_getElem? (i := 3) rfl)) (hts _ (List.mem_of_getElem? (i := 4) rfl)) (hts _ (List.mem_of_getElem? (i := 5) rfl)) (hts _ (List.mem_of_getElem? (i := 6) rfl)) (Nat.le_of_ble_eq_true rfl) (Nat.le_of_ble_eq_true rfl) (by show _ ≤ 1200130; omega) (by show _ ≤ 5501080; omega) dL_law_296 rfl ?_
                                  refine lv_iload hx hb dL_law_299 (lv_at hl 5 rfl) ?_
                                  refine lv_icmp_ne (tgt := 308) hx hb dL_law_301 (by decide) (fun c_l => ?_) (fun c_l => ?_)
                                  · refine lv_iconst (v := nI 0) hx hb dL_law_308 (by decide) ?_
                                    refine q_ior (v := bI (lsB (fun w => hearF (sL z) (kM z) (scd z k) (w * sL z + sdl z k)) (fnF (fun w => hearF (sL z) (kM z) (scd z k) (w * sL z + sdl z k)) (ssd z k)) (ssd z k) (j + 1) = true)) hx hb dL_law_309 ((congrArg (fun q => bI (lsB (fun w => hearF (sL z) (kM z) (scd z k) (w * sL z + sdl z k)) (fnF (fun w => hearF (sL z) (kM z) (scd z k) (w * sL z + sdl z k)) (ssd z k)) (ssd z k) j = true) ||| q) (show nI 0 = bI (ab (hearF (sL z) (kM z) (scd z k) (j * sL z + sdl z k)) = fnF (fun w => hearF (sL z) (kM z) (scd z k) (w * sL z + sdl z k)) (ssd z k)) from (bI_f c_l))).trans (lsB_s (x := (fun w => hearF (sL z) (kM z) (scd z k) (w * sL z + sdl z k))))) ?_
                                    refine lv_istore (lv' := [(15, .int (bI (lsB (fun w => hearF (sL z) (kM z) (scd z k) (w * sL z + sdl z k)) (fnF (fun w => hearF (sL z) (kM z) (scd z k) (w * sL z + sdl z k)) (ssd z k)) (ssd z k) (j + 1) = true))), (13, .int (nI (wrF (sL z) (kM z) (scd z k) (sdl z k) (swd z k) (j + 1)))), (18, .int (hearF (sL z) (kM z) (scd z k) (j * sL z + sdl z k))), (17, .int (swd z k j)), (16, .int (nI j)), (14, .int (fnF (fun w => hearF (sL z) (kM z) (scd z k) (w * sL z + sdl z k)) (ssd z k))), (12, .int (nI (ssd z k))), (11, .int (nI k)), (10, .int (nI (endA z k))), (9, .int (nI (allW z (kM z) k))), (8, .int (nI (sumN (ssd z) k))), (7, .int (nI (sumN (ssr z) (k + 1)))), (6, .int (nI (sn z))), (5, .int (nI (sL z))), (4, .int x), (3, .int (nI tt)), (2, .ref (b 0)), (1, .ref (ad 0)), (0, .ref (gB g))]) hx hb dL_law_310 hl (by decide) rfl (fun ls hl => ?_)
                                    refine lv_iinc (v := nI (j + 1)) (lv' := [(16, .int (nI (j + 1))), (15, .int (bI (lsB (fun w => hearF (sL z) (kM z) (scd z k) (w * sL z + sdl z k)) (fnF (fun w => hearF (sL z) (kM z) (scd z k) (w * sL z + sdl z k)) (ssd z k)) (ssd z k) (j + 1) = true))), (13, .int (nI (wrF (sL z) (kM z) (scd z k) (sdl z k) (swd z k) (j + 1)))), (18, .int (hearF (sL z) (kM z) (scd z k) (j * sL z + sdl z k))), (17, .int (swd z k j)), (14, .int (fnF (fun w => hearF (sL z) (kM z) (scd z k) (w * sL z + sdl z k)) (ssd z k))), (12, .int (nI (ssd z k))), (11, .int (nI k)), (10, .int (nI (endA z k))), (9, .int (nI (allW z (kM z) k))), (8, .int (nI (sumN (ssd z) k))), (7, .int (nI (sumN (ssr z) (k + 1)))), (6, .int (nI (sn z))), (5, .int (nI (sL z))), (4, .int x), (3, .int (nI tt)), (2, .ref (b 0)), (1, .ref (ad 0)), (0, .ref (gB g))]) hx hb dL_law_312 hl (k := 4) rfl (nI_1 _) (by decide) rfl (fun ls hl => ?_)
                                    refine lv_goto (tgt := 142) hx hb dL_law_315 (by decide) ?_
                                    exact ih_142 (j + 1)  (by omega) (by omega)  _ _ hP hD hS hE _ (lv_sub hl [0, 1, 2, 5, 6, 7, 8, 9, 10, 11, 12, 13, 14, 15, 16, 17, 18] rfl)
                                  · refine lv_iconst (v := nI 1) hx hb dL_law_304 (by decide) ?_
                                    refine lv_goto (tgt := 309) hx hb dL_law_305 (by decide) ?_
                                    refine q_ior (v := bI (lsB (fun w => hearF (sL z) (kM z) (scd z k) (w * sL z + sdl z k)) (fnF (fun w => hearF (sL z) (kM z) (scd z k) (w * sL z + sdl z k)) (ssd z k)) (ssd z k) (j + 1) = true)) hx hb dL_law_309 ((congrArg (fun q => bI (lsB (fun w => hearF (sL z) (kM z) (scd z k) (w * sL z + sdl z k)) (fnF (fun w => hearF (sL z) (kM z) (scd z k) (w * sL z + sdl z k)) (ssd z k)) (ssd z k) j = true) ||| q) (show nI 1 = bI (ab (hearF (sL z) (kM z) (scd z k) (j * sL z + sdl z k)) = fnF (fun w => hearF (sL z) (kM z) (scd z k) (w * sL z + sdl z k)) (ssd z k)) from (bI_t c_l))).trans (lsB_s (x := (fun w => hearF (sL z) (kM z) (scd z k) (w * sL z + sdl z k))))) ?_
                                    refine lv_istore (lv' := [(15, .int (bI (lsB (fun w => hearF (sL z) (kM z) (scd z k) (w * sL z + sdl z k)) (fnF (fun w => hearF (sL z) (kM z) (scd z k) (w * sL z + sdl z k)) (ssd z k)) (ssd z k) (j + 1) = true))), (13, .int (nI (wrF (sL z) (kM z) (scd z k) (sdl z k) (swd z k) (j + 1)))), (18, .int (hearF (sL z) (kM z) (scd z k) (j * sL z + sdl z k))), (17, .int (swd z k j)), (16, .int (nI j)), (14, .int (fnF (fun w => hearF (sL z) (kM z) (scd z k) (w * sL z + sdl z k)) (ssd z k))), (12, .int (nI (ssd z k))), (11, .int (nI k)), (10, .int (nI (endA z k))), (9, .int (nI (allW z (kM z) k))), (8, .int (nI (sumN (ssd z) k))), (7, .int (nI (sumN (ssr z) (k + 1)))), (6, .int (nI (sn z))), (5, .int (nI (sL z))), (4, .int x), (3, .int (nI tt)), (2, .ref (b 0)), (1, .ref (ad 0)), (0, .ref (gB g))]) hx hb dL_law_310 hl (by decide) rfl (fun ls hl => ?_)
                                    refine lv_iinc (v := nI (j + 1)) (lv' := [(16, .int (nI (j + 1))), (15, .int (bI (lsB (fun w => hearF (sL z) (kM z) (scd z k) (w * sL z + sdl z k)) (fnF (fun w => hearF (sL z) (kM z) (scd z k) (w * sL z + sdl z k)) (ssd z k)) (ssd z k) (j + 1) = true))), (13, .int (nI (wrF (sL z) (kM z) (scd z k) (sdl z k) (swd z k) (j + 1)))), (18, .int (hearF (sL z) (kM z) (scd z k) (j * sL z + sdl z k))), (17, .int (swd z k j)), (14, .int (fnF (fun w => hearF (sL z) (kM z) (scd z k) (w * sL z + sdl z k)) (ssd z k))), (12, .int (nI (ssd z k))), (11, .int (nI k)), (10, .int (nI (endA z k))), (9, .int (nI (allW z (kM z) k))), (8, .int (nI (sumN (ssd z) k))), (7, .int (nI (sumN (ssr z) (k + 1)))), (6, .int (nI (sn z))), (5, .int (nI (sL z))), (4, .int x), (3, .int (nI tt)), (2, .ref (b 0)), (1, .ref (ad 0)), (0, .ref (gB g))]) hx hb dL_law_312 hl (k := 4) rfl (nI_1 _) (by decide) rfl (fun ls hl => ?_)
                                    refine lv_goto (tgt := 142) hx hb dL_law_315 (by decide) ?_
                                    exact ih_142 (j + 1)  (by omega) (by omega)  _ _ hP hD hS hE _ (lv_sub hl [0, 1, 2, 5, 6, 7, 8, 9, 10, 11, 12, 13, 14, 15, 16, 17, 18] rfl)
                                · exact absurd (fnF_le (x := (fun w => hearF (sL z) (kM z) (scd z k) (w * sL z + sdl z k))) c_w) c_133
                        · refine lv_iconst (v := nI 1) hx hb dL_law_235 (by decide) ?_
                          refine lv_goto (tgt := 240) hx hb dL_law_236 (by decide) ?_
                          refine q_icmp_eq (tgt := 247) hx hb (by omega) (by omega) dL_law_240 (by decide) (fun c_134 => ?_) (fun c_134 => ?_)
                          · refine lv_iconst (v := nI 0) hx hb dL_law_247 (by decide) ?_
                            refine q_icmp_ne (tgt := 290) hx hb (by omega) (by omega) dL_law_248 (by decide) (fun c_135 => ?_) (fun c_135 => ?_)
                            · exact (wr_d hX_ hw_ c_3 c_x c_p c_q).elim
                            · exact absurd c_135 (by decide)
                          · exact absurd rfl c_134
                · refine lv_iload hx hb dL_law_191 (lv_at hl 2 rfl) ?_
                  refine lv_iconst (v := (-1 : Int32)) hx hb dL_law_193 (by decide) ?_
                  refine lv_icmp_ne (tgt := 290) hx hb dL_law_194 (by decide) (fun c_136 => ?_) (fun c_136 => ?_)
                  · exact (hw_.elim (fun q => c_1 q) (fun q => c_136 q)).elim
                  · refine lv_aload_n hx hb dL_law_197 rfl (lv_at hl 17 rfl) ?_
                    refine lv_iload hx hb dL_law_198 (lv_at hl 7 rfl) ?_
                    refine lv_iload hx hb dL_law_200 (lv_at hl 3 rfl) ?_
                    refine lv_iconst (v := nI 2) hx hb dL_law_202 (by decide) ?_
                    refine q_roV (As := [.int (nI k), .int (nI j), .int (nI 2)]) (rest := []) ⟨hx, hb, hml, hown, hts⟩ (k_word2 hI (k := k) (w := j) c_k c_w) (cwV 3 hts gL_law_X3_word rfl rfl rfl (by decide +kernel) ⟨Nat.le_of_ble_eq_true rfl, Nat.le_of_ble_eq_true rfl⟩) hE (fun q h => hA q (Nat.le_trans hS.1 h)) (q_snd hP) (va_recv hE.K (q_snd hP) (ci := 4) (q0 := 0) rfl rfl) rfl hl.1 rfl (Nat.le_of_ble_eq_true rfl) dL_law_203 ⟨by show _ ≤ 1200130; omega, by show _ ≤ 5501080; omega⟩ ?_
                    refine lv_iconst (v := nI 1) hx hb dL_law_206 (by decide) ?_
                    refine q_icmp_ne (tgt := 214) hx hb (by have := wrC_le (hearF (sL z) (kM z) (scd z k) (j * sL z + sdl z k)) (swd z k j); omega) (by omega) dL_law_207 (by decide) (fun c_3 => ?_) (fun c_3 => ?_)
                    · refine lv_iconst (v := nI 0) hx hb dL_law_214 (by decide) ?_
                      refine lv_iload hx hb dL_law_215 (lv_at hl 1 rfl) ?_
                      refine lv_if_eq (tgt := 243) hx hb dL_law_217 (by decide) (fun c_x => ?_) (fun c_x => ?_)
                      · refine lv_iconst (v := nI 1) hx hb dL_law_243 (by decide) ?_
                        refine lv_goto (tgt := 248) hx hb dL_law_244 (by decide) ?_
                        refine q_icmp_ne (tgt := 290) hx hb (by omega) (by omega) dL_law_248 (by decide) (fun c_137 => ?_) (fun c_137 => ?_)
                        · exact (wr_a hX_ hw_ c_3 c_x).elim
                        · exact absurd c_137 (by decide)
                      · refine lv_iload hx hb dL_law_220 (lv_at hl 1 rfl) ?_
                        refine lv_if_le (tgt := 229) hx hb dL_law_222 (by decide) (fun c_p => ?_) (fun c_p => ?_)
                        · refine lv_iconst (v := nI 0) hx hb dL_law_229 (by decide) ?_
                          refine lv_iload hx hb dL_law_230 (lv_at hl 2 rfl) ?_
                          refine lv_if_le (tgt := 239) hx hb dL_law_232 (by decide) (fun c_q => ?_) (fun c_q => ?_)
                          · refine lv_iconst (v := nI 0) hx hb dL_law_239 (by decide) ?_
                            refine q_icmp_eq (tgt := 247) hx hb (by omega) (by omega) dL_law_240 (by decide) (fun c_138 => ?_) (fun c_138 => ?_)
                            · refine lv_iconst (v := nI 0) hx hb dL_law_247 (by decide) ?_
                              refine q_icmp_ne (tgt := 290) hx hb (by omega) (by omega) dL_law_248 (by decide) (fun c_139 => ?_) (fun c_139 => ?_)
                              · exact absurd rfl c_139
                              · refine lv_iload hx hb dL_law_251 (lv_at hl 1 rfl) ?_
                                refine lv_aload_n hx hb dL_law_253 rfl (lv_at hl 17 rfl) ?_
                                refine lv_aload_n hx hb dL_law_254 rfl (lv_at hl 17 rfl) ?_
                                refine lv_iload hx hb dL_law_255 (lv_at hl 7 rfl) ?_
                                refine lv_iconst (v := nI 0) hx hb dL_law_257 (by decide) ?_
                                refine q_roV (As := [.int (nI k), .int (nI 0)]) (rest := [.ref (ad 0), .int (hearF (sL z) (kM z) (scd z k) (j * sL z + sdl z k))]) ⟨hx, hb, hml, hown, hts⟩ (k_about0 hI c_k) (cwV 2 hts gL_law_X3_about rfl rfl rfl (by decide +kernel) ⟨Nat.le_of_ble_eq_true rfl, Nat.le_of_ble_eq_true rfl⟩) hE (fun q h => hA q (Nat.le_trans hS.1 h)) (q_snd hP) (va_recv hE.K (q_snd hP) (ci := 4) (q0 := 0) rfl rfl) rfl hl.1 rfl (Nat.le_of_ble_eq_true rfl) dL_law_258 ⟨by show _ ≤ 1200130; omega, by show _ ≤ 5501080; omega⟩ ?_
                                refine lv_aload_n hx hb dL_law_261 rfl (lv_at hl 17 rfl) ?_
                                refine lv_iload hx hb dL_law_262 (lv_at hl 7 rfl) ?_
                                refine lv_iconst (v := nI 2) hx hb dL_law_264 (by decide) ?_
                                refine q_roV (As := [.int (nI k), .int (nI 2)]) (rest := [.int (nI (scd z k)), .ref (ad 0), .int (hearF (sL z) (kM z) (scd z k) (j * sL z + sdl z k))]) ⟨hx, hb, hml, hown, hts⟩ (k_about2 hI c_k) (cwV 2 hts gL_law_X3_about rfl rfl rfl (by decide +kernel) ⟨Nat.le_of_ble_eq_true rfl, Nat.le_of_ble_eq_true rfl⟩) hE (fun q h => hA q (Nat.le_trans hS.1 h)) (q_snd hP) (va_recv hE.K (q_snd hP) (ci := 4) (q0 := 0) rfl rfl) rfl hl.1 rfl (Nat.le_of_ble_eq_true rfl) dL_law_265 ⟨by show _ ≤ 1200130; omega, by show _ ≤ 5501080; omega⟩ ?_
                                refine lv_iload hx hb dL_law_268 (lv_at hl 13 rfl) ?_
                                refine lv_iload hx hb dL_law_270 (lv_at hl 3 rfl) ?_
                                refine q_imul (v := nI ((sL z) * j)) hx hb dL_law_272 (pk_mul _ _) ?_
                                refine q_iadd (v := nI (j * sL z + sdl z k)) hx hb dL_law_273 (by rw [nI_add, Nat.add_comm, Nat.mul_comm]) ?_
                                refine q_roV (As := [.int (nI (scd z k)), .int (nI (j * sL z + sdl z k))]) (rest := [.int (hearF (sL z) (kM z) (scd z k) (j * sL z + sdl z k))]) ⟨hx, hb, hml, hown, hts⟩ (k_hear hI (a := scd z k) (t := j * sL z + sdl z k) hd_.1 (by have := mul16 (a := j) hL.2; omega)) (cwV 2 hts gL_law_X3_hear rfl rfl rfl (by decide +kernel) ⟨Nat.le_of_ble_eq_true rfl, Nat.le_of_ble_eq_true rfl⟩) hE (fun q h => hA q (Nat.le_trans hS.1 h)) (q_snd hP) (va_recv hE.K (q_snd hP) (ci := 4) (q0 := 0) rfl rfl) rfl hl.1 rfl (Nat.le_of_ble_eq_true rfl) dL_law_274 ⟨by show _ ≤ 1200130; omega, by show _ ≤ 5501080; omega⟩ ?_
                                refine lv_icmp_ne (tgt := 290) hx hb dL_law_277 (by decide) (fun c_140 => ?_) (fun c_140 => ?_)
                                · exact absurd rfl c_140
                                · refine lv_iload hx hb dL_law_280 (lv_at hl 1 rfl) ?_
                                  refine q_mabs (v := ab (hearF (sL z) (kM z) (scd z k) (j * sL z + sdl z k))) hx hb (hml.trans hl.1.symm) hown (hts _ (List.mem_of_getElem? (i := 3) rfl)) (hts _ (List.mem_of_getElem? (i := 4) rfl)) (hts _ (List.mem_of_getElem? (i := 5) rfl)) (hts _ (List.mem_of_getElem? (i := 6) rfl)) (Nat.le_of_ble_eq_true rfl) (Nat.le_of_ble_eq_true rfl) (by show _ ≤ 1200130; omega) (by show _ ≤ 5501080; omega) dL_law_282 rfl ?_
                                  refine lv_iload hx hb dL_law_285 (lv_at hl 5 rfl) ?_
                                  refine lv_icmp_ge (tgt := 292) hx hb dL_law_287 (by decide) (fun c_141 => ?_) (fun c_141 => ?_)
                                  · refine lv_iload hx hb dL_law_292 (lv_at hl 4 rfl) ?_
                                    refine lv_iload hx hb dL_law_294 (lv_at hl 1 rfl) ?_
                                    refine q_mabs (v := ab (hearF (sL z) (kM z) (scd z k) (j * sL z + sdl z k))) hx hb (hml.trans hl.1.symm) hown (hts _ (List.mem_of_getElem? (i := 3) rfl)) (hts _ (List.mem_of_getElem? (i := 4) rfl)) (hts _ (List.mem_of_getElem? (i := 5) rfl)) (hts _ (List.mem_of_getElem? (i := 6) rfl)) (Nat.le_of_ble_eq_true rfl) (Nat.le_of_ble_eq_true rfl) (by show _ ≤ 1200130; omega) (by show _ ≤ 5501080; omega) dL_law_296 rfl ?_
                                    refine lv_iload hx hb dL_law_299 (lv_at hl 5 rfl) ?_
                                    refine lv_icmp_ne (tgt := 308) hx hb dL_law_301 (by decide) (fun c_l => ?_) (fun c_l => ?_)
                                    · refine lv_iconst (v := nI 0) hx hb dL_law_308 (by decide) ?_
                                      refine q_ior (v := bI (lsB (fun w => hearF (sL z) (kM z) (scd z k) (w * sL z + sdl z k)) (fnF (fun w => hearF (sL z) (kM z) (scd z k) (w * sL z + sdl z k)) (ssd z k)) (ssd z k) (j + 1) = true)) hx hb dL_law_309 ((congrArg (fun q => bI (lsB (fun w => hearF (sL z) (kM z) (scd z k) (w * sL z + sdl z k)) (fnF (fun w => hearF (sL z) (kM z) (scd z k) (w * sL z + sdl z k)) (ssd z k)) (ssd z k) j = true) ||| q) (show nI 0 = bI (ab (hearF (sL z) (kM z) (scd z k) (j * sL z + sdl z k)) = fnF (fun w => hearF (sL z) (kM z) (scd z k) (w * sL z + sdl z k)) (ssd z k)) from (bI_f c_l))).trans (lsB_s (x := (fun w => hearF (sL z) (kM z) (scd z k) (w * sL z + sdl z k))))) ?_
                                      refine lv_istore (lv' := [(15, .int (bI (lsB (fun w => hearF (sL z) (kM z) (scd z k) (w * sL z + sdl z k)) (fnF (fun w => hearF (sL z) (kM z) (scd z k) (w * sL z + sdl z k)) (ssd z k)) (ssd z k) (j + 1) = true))), (13, .int (nI (wrF (sL z) (kM z) (scd z k) (sdl z k) (swd z k) (j + 1)))), (18, .int (hearF (sL z) (kM z) (scd z k) (j * sL z + sdl z k))), (17, .int (swd z k j)), (16, .int (nI j)), (14, .int (fnF (fun w => hearF (sL z) (kM z) (scd z k) (w * sL z + sdl z k)) (ssd z k))), (12, .int (nI (ssd z k))), (11, .int (nI k)), (10, .int (nI (endA z k))), (9, .int (nI (allW z (kM z) k))), (8, .int (nI (sumN (ssd z) k))), (7, .int (nI (sumN (ssr z) (k + 1)))), (6, .int (nI (sn z))), (5, .int (nI (sL z))), (4, .int x), (3, .int (nI tt)), (2, .ref (b 0)), (1, .ref (ad 0)), (0, .ref (gB g))]) hx hb dL_law_310 hl (by decide) rfl (fun ls hl => ?_)
                                      refine lv_iinc (v := nI (j + 1)) (lv' := [(16, .int (nI (j + 1))), (15, .int (bI (lsB (fun w => hearF (sL z) (kM z) (scd z k) (w * sL z + sdl z k)) (fnF (fun w => hearF (sL z) (kM z) (scd z k) (w * sL z + sdl z k)) (ssd z k)) (ssd z k) (j + 1) = true))), (13, .int (nI (wrF (sL z) (kM z) (scd z k) (sdl z k) (swd z k) (j + 1)))), (18, .int (hearF (sL z) (kM z) (scd z k) (j * sL z + sdl z k))), (17, .int (swd z k j)), (14, .int (fnF (fun w => hearF (sL z) (kM z) (scd z k) (w * sL z + sdl z k)) (ssd z k))), (12, .int (nI (ssd z k))), (11, .int (nI k)), (10, .int (nI (endA z k))), (9, .int (nI (allW z (kM z) k))), (8, .int (nI (sumN (ssd z) k))), (7, .int (nI (sumN (ssr z) (k + 1)))), (6, .int (nI (sn z))), (5, .int (nI (sL z))), (4, .int x), (3, .int (nI tt)), (2, .ref (b 0)), (1, .ref (ad 0)), (0, .ref (gB g))]) hx hb dL_law_312 hl (k := 4) rfl (nI_1 _) (by decide) rfl (fun ls hl => ?_)
                                      refine lv_goto (tgt := 142) hx hb dL_law_315 (by decide) ?_
                                      exact ih_142 (j + 1)  (by omega) (by omega)  _ _ hP hD hS hE _ (lv_sub hl [0, 1, 2, 5, 6, 7, 8, 9, 10, 11, 12, 13, 14, 15, 16, 17, 18] rfl)
                                    · refine lv_iconst (v := nI 1) hx hb dL_law_304 (by decide) ?_
                                      refine lv_goto (tgt := 309) hx hb dL_law_305 (by decide) ?_
                                      refine q_ior (v := bI (lsB (fun w => hearF (sL z) (kM z) (scd z k) (w * sL z + sdl z k)) (fnF (fun w => hearF (sL z) (kM z) (scd z k) (w * sL z + sdl z k)) (ssd z k)) (ssd z k) (j + 1) = true)) hx hb dL_law_309 ((congrArg (fun q => bI (lsB (fun w => hearF (sL z) (kM z) (scd z k) (w * sL z + sdl z k)) (fnF (fun w => hearF (sL z) (kM z) (scd z k) (w * sL z + sdl z k)) (ssd z k)) (ssd z k) j = true) ||| q) (show nI 1 = bI (ab (hearF (sL z) (kM z) (scd z k) (j * sL z + sdl z k)) = fnF (fun w => hearF (sL z) (kM z) (scd z k) (w * sL z + sdl z k)) (ssd z k)) from (bI_t c_l))).trans (lsB_s (x := (fun w => hearF (sL z) (kM z) (scd z k) (w * sL z + sdl z k))))) ?_
                                      refine lv_istore (lv' := [(15, .int (bI (lsB (fun w => hearF (sL z) (kM z) (scd z k) (w * sL z + sdl z k)) (fnF (fun w => hearF (sL z) (kM z) (scd z k) (w * sL z + sdl z k)) (ssd z k)) (ssd z k) (j + 1) = true))), (13, .int (nI (wrF (sL z) (kM z) (scd z k) (sdl z k) (swd z k) (j + 1)))), (18, .int (hearF (sL z) (kM z) (scd z k) (j * sL z + sdl z k))), (17, .int (swd z k j)), (16, .int (nI j)), (14, .int (fnF (fun w => hearF (sL z) (kM z) (scd z k) (w * sL z + sdl z k)) (ssd z k))), (12, .int (nI (ssd z k))), (11, .int (nI k)), (10, .int (nI (endA z k))), (9, .int (nI (allW z (kM z) k))), (8, .int (nI (sumN (ssd z) k))), (7, .int (nI (sumN (ssr z) (k + 1)))), (6, .int (nI (sn z))), (5, .int (nI (sL z))), (4, .int x), (3, .int (nI tt)), (2, .ref (b 0)), (1, .ref (ad 0)), (0, .ref (gB g))]) hx hb dL_law_310 hl (by decide) rfl (fun ls hl => ?_)
                                      refine lv_iinc (v := nI (j + 1)) (lv' := [(16, .int (nI (j + 1))), (15, .int (bI (lsB (fun w => hearF (sL z) (kM z) (scd z k) (w * sL z + sdl z k)) (fnF (fun w => hearF (sL z) (kM z) (scd z k) (w * sL z + sdl z k)) (ssd z k)) (ssd z k) (j + 1) = true))), (13, .int (nI (wrF (sL z) (kM z) (scd z k) (sdl z k) (swd z k) (j + 1)))), (18, .int (hearF (sL z) (kM z) (scd z k) (j * sL z + sdl z k))), (17, .int (swd z k j)), (14, .int (fnF (fun w => hearF (sL z) (kM z) (scd z k) (w * sL z + sdl z k)) (ssd z k))), (12, .int (nI (ssd z k))), (11, .int (nI k)), (10, .int (nI (endA z k))), (9, .int (nI (allW z (kM z) k))), (8, .int (nI (sumN (ssd z) k))), (7, .int (nI (sumN (ssr z) (k + 1)))), (6, .int (nI (sn z))), (5, .int (nI (sL z))), (4, .int x), (3, .int (nI tt)), (2, .ref (b 0)), (1, .ref (ad 0)), (0, .ref (gB g))]) hx hb dL_law_312 hl (k := 4) rfl (nI_1 _) (by decide) rfl (fun ls hl => ?_)
                                      refine lv_goto (tgt := 142) hx hb dL_law_315 (by decide) ?_
                                      exact ih_142 (j + 1)  (by omega) (by omega)  _ _ hP hD hS hE _ (lv_sub hl [0, 1, 2, 5, 6, 7, 8, 9, 10, 11, 12, 13, 14, 15, 16, 17, 18] rfl)
                                  · exact absurd (fnF_le (x := (fun w => hearF (sL z) (kM z) (scd z k) (w * sL z + sdl z k))) c_w) c_141
                            · exact absurd rfl c_138
                          · refine lv_iconst (v := nI 1) hx hb dL_law_235 (by decide) ?_
                            refine lv_goto (tgt := 240) hx hb dL_law_236 (by decide) ?_
                            refine q_icmp_eq (tgt := 247) hx hb (by omega) (by omega) dL_law_240 (by decide) (fun c_142 => ?_) (fun c_142 => ?_)
                            · exact absurd c_142 (by decide)
                            · refine lv_iconst (v := nI 1) hx hb dL_law_243 (by decide) ?_
                              refine lv_goto (tgt := 248) hx hb dL_law_244 (by decide) ?_
                              refine q_icmp_ne (tgt := 290) hx hb (by omega) (by omega) dL_law_248 (by decide) (fun c_143 => ?_) (fun c_143 => ?_)
                              · exact (wr_c hX_ hw_ c_3 c_p c_q).elim
                              · exact absurd c_143 (by decide)
                        · refine lv_iconst (v := nI 1) hx hb dL_law_225 (by decide) ?_
                          refine lv_goto (tgt := 230) hx hb dL_law_226 (by decide) ?_
                          refine lv_iload hx hb dL_law_230 (lv_at hl 2 rfl) ?_
                          refine lv_if_le (tgt := 239) hx hb dL_law_232 (by decide) (fun c_q => ?_) (fun c_q => ?_)
                          · refine lv_iconst (v := nI 0) hx hb dL_law_239 (by decide) ?_
                            refine q_icmp_eq (tgt := 247) hx hb (by omega) (by omega) dL_law_240 (by decide) (fun c_144 => ?_) (fun c_144 => ?_)
                            · exact absurd c_144 (by decide)
                            · refine lv_iconst (v := nI 1) hx hb dL_law_243 (by decide) ?_
                              refine lv_goto (tgt := 248) hx hb dL_law_244 (by decide) ?_
                              refine q_icmp_ne (tgt := 290) hx hb (by omega) (by omega) dL_law_248 (by decide) (fun c_145 => ?_) (fun c_145 => ?_)
                              · exact (wr_b hX_ hw_ c_3 c_p c_q).elim
                              · exact absurd c_145 (by decide)
                          · refine lv_iconst (v := nI 1) hx hb dL_law_235 (by decide) ?_
                            refine lv_goto (tgt := 240) hx hb dL_law_236 (by decide) ?_
                            refine q_icmp_eq (tgt := 247) hx hb (by omega) (by omega) dL_law_240 (by decide) (fun c_146 => ?_) (fun c_146 => ?_)
                            · refine lv_iconst (v := nI 0) hx hb dL_law_247 (by decide) ?_
                              refine q_icmp_ne (tgt := 290) hx hb (by omega) (by omega) dL_law_248 (by decide) (fun c_147 => ?_) (fun c_147 => ?_)
                              · exact absurd rfl c_147
                              · refine lv_iload hx hb dL_law_251 (lv_at hl 1 rfl) ?_
                                refine lv_aload_n hx hb dL_law_253 rfl (lv_at hl 17 rfl) ?_
                                refine lv_aload_n hx hb dL_law_254 rfl (lv_at hl 17 rfl) ?_
                                refine lv_iload hx hb dL_law_255 (lv_at hl 7 rfl) ?_
                                refine lv_iconst (v := nI 0) hx hb dL_law_257 (by decide) ?_
                                refine q_roV (As := [.int (nI k), .int (nI 0)]) (rest := [.ref (ad 0), .int (hearF (sL z) (kM z) (scd z k) (j * sL z + sdl z k))]) ⟨hx, hb, hml, hown, hts⟩ (k_about0 hI c_k) (cwV 2 hts gL_law_X3_about rfl rfl rfl (by decide +kernel) ⟨Nat.le_of_ble_eq_true rfl, Nat.le_of_ble_eq_true rfl⟩) hE (fun q h => hA q (Nat.le_trans hS.1 h)) (q_snd hP) (va_recv hE.K (q_snd hP) (ci := 4) (q0 := 0) rfl rfl) rfl hl.1 rfl (Nat.le_of_ble_eq_true rfl) dL_law_258 ⟨by show _ ≤ 1200130; omega, by show _ ≤ 5501080; omega⟩ ?_
                                refine lv_aload_n hx hb dL_law_261 rfl (lv_at hl 17 rfl) ?_
                                refine lv_iload hx hb dL_law_262 (lv_at hl 7 rfl) ?_
                                refine lv_iconst (v := nI 2) hx hb dL_law_264 (by decide) ?_
                                refine q_roV (As := [.int (nI k), .int (nI 2)]) (rest := [.int (nI (scd z k)), .ref (ad 0), .int (hearF (sL z) (kM z) (scd z k) (j * sL z + sdl z k))]) ⟨hx, hb, hml, hown, hts⟩ (k_about2 hI c_k) (cwV 2 hts gL_law_X3_about rfl rfl rfl (by decide +kernel) ⟨Nat.le_of_ble_eq_true rfl, Nat.le_of_ble_eq_true rfl⟩) hE (fun q h => hA q (Nat.le_trans hS.1 h)) (q_snd hP) (va_recv hE.K (q_snd hP) (ci := 4) (q0 := 0) rfl rfl) rfl hl.1 rfl (Nat.le_of_ble_eq_true rfl) dL_law_265 ⟨by show _ ≤ 1200130; omega, by show _ ≤ 5501080; omega⟩ ?_
                                refine lv_iload hx hb dL_law_268 (lv_at hl 13 rfl) ?_
                                refine lv_iload hx hb dL_law_270 (lv_at hl 3 rfl) ?_
                                refine q_imul (v := nI ((sL z) * j)) hx hb dL_law_272 (pk_mul _ _) ?_
                                refine q_iadd (v := nI (j * sL z + sdl z k)) hx hb dL_law_273 (by rw [nI_add, Nat.add_comm, Nat.mul_comm]) ?_
                                refine q_roV (As := [.int (nI (scd z k)), .int (nI (j * sL z + sdl z k))]) (rest := [.int (hearF (sL z) (kM z) (scd z k) (j * sL z + sdl z k))]) ⟨hx, hb, hml, hown, hts⟩ (k_hear hI (a := scd z k) (t := j * sL z + sdl z k) hd_.1 (by have := mul16 (a := j) hL.2; omega)) (cwV 2 hts gL_law_X3_hear rfl rfl rfl (by decide +kernel) ⟨Nat.le_of_ble_eq_true rfl, Nat.le_of_ble_eq_true rfl⟩) hE (fun q h => hA q (Nat.le_trans hS.1 h)) (q_snd hP) (va_recv hE.K (q_snd hP) (ci := 4) (q0 := 0) rfl rfl) rfl hl.1 rfl (Nat.le_of_ble_eq_true rfl) dL_law_274 ⟨by show _ ≤ 1200130; omega, by show _ ≤ 5501080; omega⟩ ?_
                                refine lv_icmp_ne (tgt := 290) hx hb dL_law_277 (by decide) (fun c_148 => ?_) (fun c_148 => ?_)
                                · exact absurd rfl c_148
                                · refine lv_iload hx hb dL_law_280 (lv_at hl 1 rfl) ?_
                                  refine q_mabs (v := ab (hearF (sL z) (kM z) (scd z k) (j * sL z + sdl z k))) hx hb (hml.trans hl.1.symm) hown (hts _ (List.mem_of_getElem? (i := 3) rfl)) (hts _ (List.mem_of_getElem? (i := 4) rfl)) (hts _ (List.mem_of_getElem? (i := 5) rfl)) (hts _ (List.mem_of_getElem? (i := 6) rfl)) (Nat.le_of_ble_eq_true rfl) (Nat.le_of_ble_eq_true rfl) (by show _ ≤ 1200130; omega) (by show _ ≤ 5501080; omega) dL_law_282 rfl ?_
                                  refine lv_iload hx hb dL_law_285 (lv_at hl 5 rfl) ?_
                                  refine lv_icmp_ge (tgt := 292) hx hb dL_law_287 (by decide) (fun c_149 => ?_) (fun c_149 => ?_)
                                  · refine lv_iload hx hb dL_law_292 (lv_at hl 4 rfl) ?_
                                    refine lv_iload hx hb dL_law_294 (lv_at hl 1 rfl) ?_
                                    refine q_mabs (v := ab (hearF (sL z) (kM z) (scd z k) (j * sL z + sdl z k))) hx hb (hml.trans hl.1.symm) hown (hts _ (List.mem_of_getElem? (i := 3) rfl)) (hts _ (List.mem_of_getElem? (i := 4) rfl)) (hts _ (List.mem_of_getElem? (i := 5) rfl)) (hts _ (List.mem_of_getElem? (i := 6) rfl)) (Nat.le_of_ble_eq_true rfl) (Nat.le_of_ble_eq_true rfl) (by show _ ≤ 1200130; omega) (by show _ ≤ 5501080; omega) dL_law_296 rfl ?_
                                    refine lv_iload hx hb dL_law_299 (lv_at hl 5 rfl) ?_
                                    refine lv_icmp_ne (tgt := 308) hx hb dL_law_301 (by decide) (fun c_l => ?_) (fun c_l => ?_)
                                    · refine lv_iconst (v := nI 0) hx hb dL_law_308 (by decide) ?_
                                      refine q_ior (v := bI (lsB (fun w => hearF (sL z) (kM z) (scd z k) (w * sL z + sdl z k)) (fnF (fun w => hearF (sL z) (kM z) (scd z k) (w * sL z + sdl z k)) (ssd z k)) (ssd z k) (j + 1) = true)) hx hb dL_law_309 ((congrArg (fun q => bI (lsB (fun w => hearF (sL z) (kM z) (scd z k) (w * sL z + sdl z k)) (fnF (fun w => hearF (sL z) (kM z) (scd z k) (w * sL z + sdl z k)) (ssd z k)) (ssd z k) j = true) ||| q) (show nI 0 = bI (ab (hearF (sL z) (kM z) (scd z k) (j * sL z + sdl z k)) = fnF (fun w => hearF (sL z) (kM z) (scd z k) (w * sL z + sdl z k)) (ssd z k)) from (bI_f c_l))).trans (lsB_s (x := (fun w => hearF (sL z) (kM z) (scd z k) (w * sL z + sdl z k))))) ?_
                                      refine lv_istore (lv' := [(15, .int (bI (lsB (fun w => hearF (sL z) (kM z) (scd z k) (w * sL z + sdl z k)) (fnF (fun w => hearF (sL z) (kM z) (scd z k) (w * sL z + sdl z k)) (ssd z k)) (ssd z k) (j + 1) = true))), (13, .int (nI (wrF (sL z) (kM z) (scd z k) (sdl z k) (swd z k) (j + 1)))), (18, .int (hearF (sL z) (kM z) (scd z k) (j * sL z + sdl z k))), (17, .int (swd z k j)), (16, .int (nI j)), (14, .int (fnF (fun w => hearF (sL z) (kM z) (scd z k) (w * sL z + sdl z k)) (ssd z k))), (12, .int (nI (ssd z k))), (11, .int (nI k)), (10, .int (nI (endA z k))), (9, .int (nI (allW z (kM z) k))), (8, .int (nI (sumN (ssd z) k))), (7, .int (nI (sumN (ssr z) (k + 1)))), (6, .int (nI (sn z))), (5, .int (nI (sL z))), (4, .int x), (3, .int (nI tt)), (2, .ref (b 0)), (1, .ref (ad 0)), (0, .ref (gB g))]) hx hb dL_law_310 hl (by decide) rfl (fun ls hl => ?_)
                                      refine lv_iinc (v := nI (j + 1)) (lv' := [(16, .int (nI (j + 1))), (15, .int (bI (lsB (fun w => hearF (sL z) (kM z) (scd z k) (w * sL z + sdl z k)) (fnF (fun w => hearF (sL z) (kM z) (scd z k) (w * sL z + sdl z k)) (ssd z k)) (ssd z k) (j + 1) = true))), (13, .int (nI (wrF (sL z) (kM z) (scd z k) (sdl z k) (swd z k) (j + 1)))), (18, .int (hearF (sL z) (kM z) (scd z k) (j * sL z + sdl z k))), (17, .int (swd z k j)), (14, .int (fnF (fun w => hearF (sL z) (kM z) (scd z k) (w * sL z + sdl z k)) (ssd z k))), (12, .int (nI (ssd z k))), (11, .int (nI k)), (10, .int (nI (endA z k))), (9, .int (nI (allW z (kM z) k))), (8, .int (nI (sumN (ssd z) k))), (7, .int (nI (sumN (ssr z) (k + 1)))), (6, .int (nI (sn z))), (5, .int (nI (sL z))), (4, .int x), (3, .int (nI tt)), (2, .ref (b 0)), (1, .ref (ad 0)), (0, .ref (gB g))]) hx hb dL_law_312 hl (k := 4) rfl (nI_1 _) (by decide) rfl (fun ls hl => ?_)
                                      refine lv_goto (tgt := 142) hx hb dL_law_315 (by decide) ?_
                                      exact ih_142 (j + 1)  (by omega) (by omega)  _ _ hP hD hS hE _ (lv_sub hl [0, 1, 2, 5, 6, 7, 8, 9, 10, 11, 12, 13, 14, 15, 16, 17, 18] rfl)
                                    · refine lv_iconst (v := nI 1) hx hb dL_law_304 (by decide) ?_
                                      refine lv_goto (tgt := 309) hx hb dL_law_305 (by decide) ?_
                                      refine q_ior (v := bI (lsB (fun w => hearF (sL z) (kM z) (scd z k) (w * sL z + sdl z k)) (fnF (fun w => hearF (sL z) (kM z) (scd z k) (w * sL z + sdl z k)) (ssd z k)) (ssd z k) (j + 1) = true)) hx hb dL_law_309 ((congrArg (fun q => bI (lsB (fun w => hearF (sL z) (kM z) (scd z k) (w * sL z + sdl z k)) (fnF (fun w => hearF (sL z) (kM z) (scd z k) (w * sL z + sdl z k)) (ssd z k)) (ssd z k) j = true) ||| q) (show nI 1 = bI (ab (hearF (sL z) (kM z) (scd z k) (j * sL z + sdl z k)) = fnF (fun w => hearF (sL z) (kM z) (scd z k) (w * sL z + sdl z k)) (ssd z k)) from (bI_t c_l))).trans (lsB_s (x := (fun w => hearF (sL z) (kM z) (scd z k) (w * sL z + sdl z k))))) ?_
                                      refine lv_istore (lv' := [(15, .int (bI (lsB (fun w => hearF (sL z) (kM z) (scd z k) (w * sL z + sdl z k)) (fnF (fun w => hearF (sL z) (kM z) (scd z k) (w * sL z + sdl z k)) (ssd z k)) (ssd z k) (j + 1) = true))), (13, .int (nI (wrF (sL z) (kM z) (scd z k) (sdl z k) (swd z k) (j + 1)))), (18, .int (hearF (sL z) (kM z) (scd z k) (j * sL z + sdl z k))), (17, .int (swd z k j)), (16, .int (nI j)), (14, .int (fnF (fun w => hearF (sL z) (kM z) (scd z k) (w * sL z + sdl z k)) (ssd z k))), (12, .int (nI (ssd z k))), (11, .int (nI k)), (10, .int (nI (endA z k))), (9, .int (nI (allW z (kM z) k))), (8, .int (nI (sumN (ssd z) k))), (7, .int (nI (sumN (ssr z) (k + 1)))), (6, .int (nI (sn z))), (5, .int (nI (sL z))), (4, .int x), (3, .int (nI tt)), (2, .ref (b 0)), (1, .ref (ad 0)), (0, .ref (gB g))]) hx hb dL_law_310 hl (by decide) rfl (fun ls hl => ?_)
                                      refine lv_iinc (v := nI (j + 1)) (lv' := [(16, .int (nI (j + 1))), (15, .int (bI (lsB (fun w => hearF (sL z) (kM z) (scd z k) (w * sL z + sdl z k)) (fnF (fun w => hearF (sL z) (kM z) (scd z k) (w * sL z + sdl z k)) (ssd z k)) (ssd z k) (j + 1) = true))), (13, .int (nI (wrF (sL z) (kM z) (scd z k) (sdl z k) (swd z k) (j + 1)))), (18, .int (hearF (sL z) (kM z) (scd z k) (j * sL z + sdl z k))), (17, .int (swd z k j)), (14, .int (fnF (fun w => hearF (sL z) (kM z) (scd z k) (w * sL z + sdl z k)) (ssd z k))), (12, .int (nI (ssd z k))), (11, .int (nI k)), (10, .int (nI (endA z k))), (9, .int (nI (allW z (kM z) k))), (8, .int (nI (sumN (ssd z) k))), (7, .int (nI (sumN (ssr z) (k + 1)))), (6, .int (nI (sn z))), (5, .int (nI (sL z))), (4, .int x), (3, .int (nI tt)), (2, .ref (b 0)), (1, .ref (ad 0)), (0, .ref (gB g))]) hx hb dL_law_312 hl (k := 4) rfl (nI_1 _) (by decide) rfl (fun ls hl => ?_)
                                      refine lv_goto (tgt := 142) hx hb dL_law_315 (by decide) ?_
                                      exact ih_142 (j + 1)  (by omega) (by omega)  _ _ hP hD hS hE _ (lv_sub hl [0, 1, 2, 5, 6, 7, 8, 9, 10, 11, 12, 13, 14, 15, 16, 17, 18] rfl)
                                  · exact absurd (fnF_le (x := (fun w => hearF (sL z) (kM z) (scd z k) (w * sL z + sdl z k))) c_w) c_149
                            · exact absurd rfl c_146
                    · refine lv_iconst (v := nI 1) hx hb dL_law_210 (by decide) ?_
                      refine lv_goto (tgt := 215) hx hb dL_law_211 (by decide) ?_
                      refine lv_iload hx hb dL_law_215 (lv_at hl 1 rfl) ?_
                      refine lv_if_eq (tgt := 243) hx hb dL_law_217 (by decide) (fun c_x => ?_) (fun c_x => ?_)
                      · refine lv_iconst (v := nI 1) hx hb dL_law_243 (by decide) ?_
                        refine lv_goto (tgt := 248) hx hb dL_law_244 (by decide) ?_
                        refine q_icmp_ne (tgt := 290) hx hb (by omega) (by omega) dL_law_248 (by decide) (fun c_150 => ?_) (fun c_150 => ?_)
                        · exact absurd rfl c_150
                        · refine lv_iload hx hb dL_law_251 (lv_at hl 1 rfl) ?_
                          refine lv_aload_n hx hb dL_law_253 rfl (lv_at hl 17 rfl) ?_
                          refine lv_aload_n hx hb dL_law_254 rfl (lv_at hl 17 rfl) ?_
                          refine lv_iload hx hb dL_law_255 (lv_at hl 7 rfl) ?_
                          refine lv_iconst (v := nI 0) hx hb dL_law_257 (by decide) ?_
                          refine q_roV (As := [.int (nI k), .int (nI 0)]) (rest := [.ref (ad 0), .int (hearF (sL z) (kM z) (scd z k) (j * sL z + sdl z k))]) ⟨hx, hb, hml, hown, hts⟩ (k_about0 hI c_k) (cwV 2 hts gL_law_X3_about rfl rfl rfl (by decide +kernel) ⟨Nat.le_of_ble_eq_true rfl, Nat.le_of_ble_eq_true rfl⟩) hE (fun q h => hA q (Nat.le_trans hS.1 h)) (q_snd hP) (va_recv hE.K (q_snd hP) (ci := 4) (q0 := 0) rfl rfl) rfl hl.1 rfl (Nat.le_of_ble_eq_true rfl) dL_law_258 ⟨by show _ ≤ 1200130; omega, by show _ ≤ 5501080; omega⟩ ?_
                          refine lv_aload_n hx hb dL_law_261 rfl (lv_at hl 17 rfl) ?_
                          refine lv_iload hx hb dL_law_262 (lv_at hl 7 rfl) ?_
                          refine lv_iconst (v := nI 2) hx hb dL_law_264 (by decide) ?_
                          refine q_roV (As := [.int (nI k), .int (nI 2)]) (rest := [.int (nI (scd z k)), .ref (ad 0), .int (hearF (sL z) (kM z) (scd z k) (j * sL z + sdl z k))]) ⟨hx, hb, hml, hown, hts⟩ (k_about2 hI c_k) (cwV 2 hts gL_law_X3_about rfl rfl rfl (by decide +kernel) ⟨Nat.le_of_ble_eq_true rfl, Nat.le_of_ble_eq_true rfl⟩) hE (fun q h => hA q (Nat.le_trans hS.1 h)) (q_snd hP) (va_recv hE.K (q_snd hP) (ci := 4) (q0 := 0) rfl rfl) rfl hl.1 rfl (Nat.le_of_ble_eq_true rfl) dL_law_265 ⟨by show _ ≤ 1200130; omega, by show _ ≤ 5501080; omega⟩ ?_
                          refine lv_iload hx hb dL_law_268 (lv_at hl 13 rfl) ?_
                          refine lv_iload hx hb dL_law_270 (lv_at hl 3 rfl) ?_
                          refine q_imul (v := nI ((sL z) * j)) hx hb dL_law_272 (pk_mul _ _) ?_
                          refine q_iadd (v := nI (j * sL z + sdl z k)) hx hb dL_law_273 (by rw [nI_add, Nat.add_comm, Nat.mul_comm]) ?_
                          refine q_roV (As := [.int (nI (scd z k)), .int (nI (j * sL z + sdl z k))]) (rest := [.int (hearF (sL z) (kM z) (scd z k) (j * sL z + sdl z k))]) ⟨hx, hb, hml, hown, hts⟩ (k_hear hI (a := scd z k) (t := j * sL z + sdl z k) hd_.1 (by have := mul16 (a := j) hL.2; omega)) (cwV 2 hts gL_law_X3_hear rfl rfl rfl (by decide +kernel) ⟨Nat.le_of_ble_eq_true rfl, Nat.le_of_ble_eq_true rfl⟩) hE (fun q h => hA q (Nat.le_trans hS.1 h)) (q_snd hP) (va_recv hE.K (q_snd hP) (ci := 4) (q0 := 0) rfl rfl) rfl hl.1 rfl (Nat.le_of_ble_eq_true rfl) dL_law_274 ⟨by show _ ≤ 1200130; omega, by show _ ≤ 5501080; omega⟩ ?_
                          refine lv_icmp_ne (tgt := 290) hx hb dL_law_277 (by decide) (fun c_151 => ?_) (fun c_151 => ?_)
                          · exact absurd rfl c_151
                          · refine lv_iload hx hb dL_law_280 (lv_at hl 1 rfl) ?_
                            refine q_mabs (v := ab (hearF (sL z) (kM z) (scd z k) (j * sL z + sdl z k))) hx hb (hml.trans hl.1.symm) hown (hts _ (List.mem_of_getElem? (i := 3) rfl)) (hts _ (List.mem_of_getElem? (i := 4) rfl)) (hts _ (List.mem_of_getElem? (i := 5) rfl)) (hts _ (List.mem_of_getElem? (i := 6) rfl)) (Nat.le_of_ble_eq_true rfl) (Nat.le_of_ble_eq_true rfl) (by show _ ≤ 1200130; omega) (by show _ ≤ 5501080; omega) dL_law_282 rfl ?_
                            refine lv_iload hx hb dL_law_285 (lv_at hl 5 rfl) ?_
                            refine lv_icmp_ge (tgt := 292) hx hb dL_law_287 (by decide) (fun c_152 => ?_) (fun c_152 => ?_)
                            · refine lv_iload hx hb dL_law_292 (lv_at hl 4 rfl) ?_
                              refine lv_iload hx hb dL_law_294 (lv_at hl 1 rfl) ?_
                              refine q_mabs (v := ab (hearF (sL z) (kM z) (scd z k) (j * sL z + sdl z k))) hx hb (hml.trans hl.1.symm) hown (hts _ (List.mem_of_getElem? (i := 3) rfl)) (hts _ (List.mem_of_getElem? (i := 4) rfl)) (hts _ (List.mem_of_getElem? (i := 5) rfl)) (hts _ (List.mem_of_getElem? (i := 6) rfl)) (Nat.le_of_ble_eq_true rfl) (Nat.le_of_ble_eq_true rfl) (by show _ ≤ 1200130; omega) (by show _ ≤ 5501080; omega) dL_law_296 rfl ?_
                              refine lv_iload hx hb dL_law_299 (lv_at hl 5 rfl) ?_
                              refine lv_icmp_ne (tgt := 308) hx hb dL_law_301 (by decide) (fun c_l => ?_) (fun c_l => ?_)
                              · refine lv_iconst (v := nI 0) hx hb dL_law_308 (by decide) ?_
                                refine q_ior (v := bI (lsB (fun w => hearF (sL z) (kM z) (scd z k) (w * sL z + sdl z k)) (fnF (fun w => hearF (sL z) (kM z) (scd z k) (w * sL z + sdl z k)) (ssd z k)) (ssd z k) (j + 1) = true)) hx hb dL_law_309 ((congrArg (fun q => bI (lsB (fun w => hearF (sL z) (kM z) (scd z k) (w * sL z + sdl z k)) (fnF (fun w => hearF (sL z) (kM z) (scd z k) (w * sL z + sdl z k)) (ssd z k)) (ssd z k) j = true) ||| q) (show nI 0 = bI (ab (hearF (sL z) (kM z) (scd z k) (j * sL z + sdl z k)) = fnF (fun w => hearF (sL z) (kM z) (scd z k) (w * sL z + sdl z k)) (ssd z k)) from (bI_f c_l))).trans (lsB_s (x := (fun w => hearF (sL z) (kM z) (scd z k) (w * sL z + sdl z k))))) ?_
                                refine lv_istore (lv' := [(15, .int (bI (lsB (fun w => hearF (sL z) (kM z) (scd z k) (w * sL z + sdl z k)) (fnF (fun w => hearF (sL z) (kM z) (scd z k) (w * sL z + sdl z k)) (ssd z k)) (ssd z k) (j + 1) = true))), (13, .int (nI (wrF (sL z) (kM z) (scd z k) (sdl z k) (swd z k) (j + 1)))), (18, .int (hearF (sL z) (kM z) (scd z k) (j * sL z + sdl z k))), (17, .int (swd z k j)), (16, .int (nI j)), (14, .int (fnF (fun w => hearF (sL z) (kM z) (scd z k) (w * sL z + sdl z k)) (ssd z k))), (12, .int (nI (ssd z k))), (11, .int (nI k)), (10, .int (nI (endA z k))), (9, .int (nI (allW z (kM z) k))), (8, .int (nI (sumN (ssd z) k))), (7, .int (nI (sumN (ssr z) (k + 1)))), (6, .int (nI (sn z))), (5, .int (nI (sL z))), (4, .int x), (3, .int (nI tt)), (2, .ref (b 0)), (1, .ref (ad 0)), (0, .ref (gB g))]) hx hb dL_law_310 hl (by decide) rfl (fun ls hl => ?_)
                                refine lv_iinc (v := nI (j + 1)) (lv' := [(16, .int (nI (j + 1))), (15, .int (bI (lsB (fun w => hearF (sL z) (kM z) (scd z k) (w * sL z + sdl z k)) (fnF (fun w => hearF (sL z) (kM z) (scd z k) (w * sL z + sdl z k)) (ssd z k)) (ssd z k) (j + 1) = true))), (13, .int (nI (wrF (sL z) (kM z) (scd z k) (sdl z k) (swd z k) (j + 1)))), (18, .int (hearF (sL z) (kM z) (scd z k) (j * sL z + sdl z k))), (17, .int (swd z k j)), (14, .int (fnF (fun w => hearF (sL z) (kM z) (scd z k) (w * sL z + sdl z k)) (ssd z k))), (12, .int (nI (ssd z k))), (11, .int (nI k)), (10, .int (nI (endA z k))), (9, .int (nI (allW z (kM z) k))), (8, .int (nI (sumN (ssd z) k))), (7, .int (nI (sumN (ssr z) (k + 1)))), (6, .int (nI (sn z))), (5, .int (nI (sL z))), (4, .int x), (3, .int (nI tt)), (2, .ref (b 0)), (1, .ref (ad 0)), (0, .ref (gB g))]) hx hb dL_law_312 hl (k := 4) rfl (nI_1 _) (by decide) rfl (fun ls hl => ?_)
                                refine lv_goto (tgt := 142) hx hb dL_law_315 (by decide) ?_
                                exact ih_142 (j + 1)  (by omega) (by omega)  _ _ hP hD hS hE _ (lv_sub hl [0, 1, 2, 5, 6, 7, 8, 9, 10, 11, 12, 13, 14, 15, 16, 17, 18] rfl)
                              · refine lv_iconst (v := nI 1) hx hb dL_law_304 (by decide) ?_
                                refine lv_goto (tgt := 309) hx hb dL_law_305 (by decide) ?_
                                refine q_ior (v := bI (lsB (fun w => hearF (sL z) (kM z) (scd z k) (w * sL z + sdl z k)) (fnF (fun w => hearF (sL z) (kM z) (scd z k) (w * sL z + sdl z k)) (ssd z k)) (ssd z k) (j + 1) = true)) hx hb dL_law_309 ((congrArg (fun q => bI (lsB (fun w => hearF (sL z) (kM z) (scd z k) (w * sL z + sdl z k)) (fnF (fun w => hearF (sL z) (kM z) (scd z k) (w * sL z + sdl z k)) (ssd z k)) (ssd z k) j = true) ||| q) (show nI 1 = bI (ab (hearF (sL z) (kM z) (scd z k) (j * sL z + sdl z k)) = fnF (fun w => hearF (sL z) (kM z) (scd z k) (w * sL z + sdl z k)) (ssd z k)) from (bI_t c_l))).trans (lsB_s (x := (fun w => hearF (sL z) (kM z) (scd z k) (w * sL z + sdl z k))))) ?_
                                refine lv_istore (lv' := [(15, .int (bI (lsB (fun w => hearF (sL z) (kM z) (scd z k) (w * sL z + sdl z k)) (fnF (fun w => hearF (sL z) (kM z) (scd z k) (w * sL z + sdl z k)) (ssd z k)) (ssd z k) (j + 1) = true))), (13, .int (nI (wrF (sL z) (kM z) (scd z k) (sdl z k) (swd z k) (j + 1)))), (18, .int (hearF (sL z) (kM z) (scd z k) (j * sL z + sdl z k))), (17, .int (swd z k j)), (16, .int (nI j)), (14, .int (fnF (fun w => hearF (sL z) (kM z) (scd z k) (w * sL z + sdl z k)) (ssd z k))), (12, .int (nI (ssd z k))), (11, .int (nI k)), (10, .int (nI (endA z k))), (9, .int (nI (allW z (kM z) k))), (8, .int (nI (sumN (ssd z) k))), (7, .int (nI (sumN (ssr z) (k + 1)))), (6, .int (nI (sn z))), (5, .int (nI (sL z))), (4, .int x), (3, .int (nI tt)), (2, .ref (b 0)), (1, .ref (ad 0)), (0, .ref (gB g))]) hx hb dL_law_310 hl (by decide) rfl (fun ls hl => ?_)
                                refine lv_iinc (v := nI (j + 1)) (lv' := [(16, .int (nI (j + 1))), (15, .int (bI (lsB (fun w => hearF (sL z) (kM z) (scd z k) (w * sL z + sdl z k)) (fnF (fun w => hearF (sL z) (kM z) (scd z k) (w * sL z + sdl z k)) (ssd z k)) (ssd z k) (j + 1) = true))), (13, .int (nI (wrF (sL z) (kM z) (scd z k) (sdl z k) (swd z k) (j + 1)))), (18, .int (hearF (sL z) (kM z) (scd z k) (j * sL z + sdl z k))), (17, .int (swd z k j)), (14, .int (fnF (fun w => hearF (sL z) (kM z) (scd z k) (w * sL z + sdl z k)) (ssd z k))), (12, .int (nI (ssd z k))), (11, .int (nI k)), (10, .int (nI (endA z k))), (9, .int (nI (allW z (kM z) k))), (8, .int (nI (sumN (ssd z) k))), (7, .int (nI (sumN (ssr z) (k + 1)))), (6, .int (nI (sn z))), (5, .int (nI (sL z))), (4, .int x), (3, .int (nI tt)), (2, .ref (b 0)), (1, .ref (ad 0)), (0, .ref (gB g))]) hx hb dL_law_312 hl (k := 4) rfl (nI_1 _) (by decide) rfl (fun ls hl => ?_)
                                refine lv_goto (tgt := 142) hx hb dL_law_315 (by decide) ?_
                                exact ih_142 (j + 1)  (by omega) (by omega)  _ _ hP hD hS hE _ (lv_sub hl [0, 1, 2, 5, 6, 7, 8, 9, 10, 11, 12, 13, 14, 15, 16, 17, 18] rfl)
                            · exact absurd (fnF_le (x := (fun w => hearF (sL z) (kM z) (scd z k) (w * sL z + sdl z k))) c_w) c_152
                      · refine lv_iload hx hb dL_law_220 (lv_at hl 1 rfl) ?_
                        refine lv_if_le (tgt := 229) hx hb dL_law_222 (by decide) (fun c_p => ?_) (fun c_p => ?_)
                        · refine lv_iconst (v := nI 0) hx hb dL_law_229 (by decide) ?_
                          refine lv_iload hx hb dL_law_230 (lv_at hl 2 rfl) ?_
                          refine lv_if_le (tgt := 239) hx hb dL_law_232 (by decide) (fun c_q => ?_) (fun c_q => ?_)
                          · refine lv_iconst (v := nI 0) hx hb dL_law_239 (by decide) ?_
                            refine q_icmp_eq (tgt := 247) hx hb (by omega) (by omega) dL_law_240 (by decide) (fun c_153 => ?_) (fun c_153 => ?_)
                            · refine lv_iconst (v := nI 0) hx hb dL_law_247 (by decide) ?_
                              refine q_icmp_ne (tgt := 290) hx hb (by omega) (by omega) dL_law_248 (by decide) (fun c_154 => ?_) (fun c_154 => ?_)
                              · exact (wr_e hX_ hw_ c_3 c_x c_p c_q).elim
                              · exact absurd c_154 (by decide)
                            · exact absurd rfl c_153
                          · refine lv_iconst (v := nI 1) hx hb dL_law_235 (by decide) ?_
                            refine lv_goto (tgt := 240) hx hb dL_law_236 (by decide) ?_
                            refine q_icmp_eq (tgt := 247) hx hb (by omega) (by omega) dL_law_240 (by decide) (fun c_155 => ?_) (fun c_155 => ?_)
                            · exact absurd c_155 (by decide)
                            · refine lv_iconst (v := nI 1) hx hb dL_law_243 (by decide) ?_
                              refine lv_goto (tgt := 248) hx hb dL_law_244 (by decide) ?_
                              refine q_icmp_ne (tgt := 290) hx hb (by omega) (by omega) dL_law_248 (by decide) (fun c_156 => ?_) (fun c_156 => ?_)
                              · exact absurd rfl c_156
                              · refine lv_iload hx hb dL_law_251 (lv_at hl 1 rfl) ?_
                                refine lv_aload_n hx hb dL_law_253 rfl (lv_at hl 17 rfl) ?_
                                refine lv_aload_n hx hb dL_law_254 rfl (lv_at hl 17 rfl) ?_
                                refine lv_iload hx hb dL_law_255 (lv_at hl 7 rfl) ?_
                                refine lv_iconst (v := nI 0) hx hb dL_law_257 (by decide) ?_
                                refine q_roV (As := [.int (nI k), .int (nI 0)]) (rest := [.ref (ad 0), .int (hearF (sL z) (kM z) (scd z k) (j * sL z + sdl z k))]) ⟨hx, hb, hml, hown, hts⟩ (k_about0 hI c_k) (cwV 2 hts gL_law_X3_about rfl rfl rfl (by decide +kernel) ⟨Nat.le_of_ble_eq_true rfl, Nat.le_of_ble_eq_true rfl⟩) hE (fun q h => hA q (Nat.le_trans hS.1 h)) (q_snd hP) (va_recv hE.K (q_snd hP) (ci := 4) (q0 := 0) rfl rfl) rfl hl.1 rfl (Nat.le_of_ble_eq_true rfl) dL_law_258 ⟨by show _ ≤ 1200130; omega, by show _ ≤ 5501080; omega⟩ ?_
                                refine lv_aload_n hx hb dL_law_261 rfl (lv_at hl 17 rfl) ?_
                                refine lv_iload hx hb dL_law_262 (lv_at hl 7 rfl) ?_
                                refine lv_iconst (v := nI 2) hx hb dL_law_264 (by decide) ?_
                                refine q_roV (As := [.int (nI k), .int (nI 2)]) (rest := [.int (nI (scd z k)), .ref (ad 0), .int (hearF (sL z) (kM z) (scd z k) (j * sL z + sdl z k))]) ⟨hx, hb, hml, hown, hts⟩ (k_about2 hI c_k) (cwV 2 hts gL_law_X3_about rfl rfl rfl (by decide +kernel) ⟨Nat.le_of_ble_eq_true rfl, Nat.le_of_ble_eq_true rfl⟩) hE (fun q h => hA q (Nat.le_trans hS.1 h)) (q_snd hP) (va_recv hE.K (q_snd hP) (ci := 4) (q0 := 0) rfl rfl) rfl hl.1 rfl (Nat.le_of_ble_eq_true rfl) dL_law_265 ⟨by show _ ≤ 1200130; omega, by show _ ≤ 5501080; omega⟩ ?_
                                refine lv_iload hx hb dL_law_268 (lv_at hl 13 rfl) ?_
                                refine lv_iload hx hb dL_law_270 (lv_at hl 3 rfl) ?_
                                refine q_imul (v := nI ((sL z) * j)) hx hb dL_law_272 (pk_mul _ _) ?_
                                refine q_iadd (v := nI (j * sL z + sdl z k)) hx hb dL_law_273 (by rw [nI_add, Nat.add_comm, Nat.mul_comm]) ?_
                                refine q_roV (As := [.int (nI (scd z k)), .int (nI (j * sL z + sdl z k))]) (rest := [.int (hearF (sL z) (kM z) (scd z k) (j * sL z + sdl z k))]) ⟨hx, hb, hml, hown, hts⟩ (k_hear hI (a := scd z k) (t := j * sL z + sdl z k) hd_.1 (by have := mul16 (a := j) hL.2; omega)) (cwV 2 hts gL_law_X3_hear rfl rfl rfl (by decide +kernel) ⟨Nat.le_of_ble_eq_true rfl, Nat.le_of_ble_eq_true rfl⟩) hE (fun q h => hA q (Nat.le_trans hS.1 h)) (q_snd hP) (va_recv hE.K (q_snd hP) (ci := 4) (q0 := 0) rfl rfl) rfl hl.1 rfl (Nat.le_of_ble_eq_true rfl) dL_law_274 ⟨by show _ ≤ 1200130; omega, by show _ ≤ 5501080; omega⟩ ?_
                                refine lv_icmp_ne (tgt := 290) hx hb dL_law_277 (by decide) (fun c_157 => ?_) (fun c_157 => ?_)
                                · exact absurd rfl c_157
                                · refine lv_iload hx hb dL_law_280 (lv_at hl 1 rfl) ?_
                                  refine q_mabs (v := ab (hearF (sL z) (kM z) (scd z k) (j * sL z + sdl z k))) hx hb (hml.trans hl.1.symm) hown (hts _ (List.mem_of_getElem? (i := 3) rfl)) (hts _ (List.mem_of_getElem? (i := 4) rfl)) (hts _ (List.mem_of_getElem? (i := 5) rfl)) (hts _ (List.mem_of_getElem? (i := 6) rfl)) (Nat.le_of_ble_eq_true rfl) (Nat.le_of_ble_eq_true rfl) (by show _ ≤ 1200130; omega) (by show _ ≤ 5501080; omega) dL_law_282 rfl ?_
                                  refine lv_iload hx hb dL_law_285 (lv_at hl 5 rfl) ?_
                                  refine lv_icmp_ge (tgt := 292) hx hb dL_law_287 (by decide) (fun c_158 => ?_) (fun c_158 => ?_)
                                  · refine lv_iload hx hb dL_law_292 (lv_at hl 4 rfl) ?_
                                    refine lv_iload hx hb dL_law_294 (lv_at hl 1 rfl) ?_
                                    refine q_mabs (v := ab (hearF (sL z) (kM z) (scd z k) (j * sL z + sdl z k))) hx hb (hml.trans hl.1.symm) hown (hts _ (List.mem_of_getElem? (i := 3) rfl)) (hts _ (List.mem_of_getElem? (i := 4) rfl)) (hts _ (List.mem_of_getElem? (i := 5) rfl)) (hts _ (List.mem_of_getElem? (i := 6) rfl)) (Nat.le_of_ble_eq_true rfl) (Nat.le_of_ble_eq_true rfl) (by show _ ≤ 1200130; omega) (by show _ ≤ 5501080; omega) dL_law_296 rfl ?_
                                    refine lv_iload hx hb dL_law_299 (lv_at hl 5 rfl) ?_
                                    refine lv_icmp_ne (tgt := 308) hx hb dL_law_301 (by decide) (fun c_l => ?_) (fun c_l => ?_)
                                    · refine lv_iconst (v := nI 0) hx hb dL_law_308 (by decide) ?_
                                      refine q_ior (v := bI (lsB (fun w => hearF (sL z) (kM z) (scd z k) (w * sL z + sdl z k)) (fnF (fun w => hearF (sL z) (kM z) (scd z k) (w * sL z + sdl z k)) (ssd z k)) (ssd z k) (j + 1) = true)) hx hb dL_law_309 ((congrArg (fun q => bI (lsB (fun w => hearF (sL z) (kM z) (scd z k) (w * sL z + sdl z k)) (fnF (fun w => hearF (sL z) (kM z) (scd z k) (w * sL z + sdl z k)) (ssd z k)) (ssd z k) j = true) ||| q) (show nI 0 = bI (ab (hearF (sL z) (kM z) (scd z k) (j * sL z + sdl z k)) = fnF (fun w => hearF (sL z) (kM z) (scd z k) (w * sL z + sdl z k)) (ssd z k)) from (bI_f c_l))).trans (lsB_s (x := (fun w => hearF (sL z) (kM z) (scd z k) (w * sL z + sdl z k))))) ?_
                                      refine lv_istore (lv' := [(15, .int (bI (lsB (fun w => hearF (sL z) (kM z) (scd z k) (w * sL z + sdl z k)) (fnF (fun w => hearF (sL z) (kM z) (scd z k) (w * sL z + sdl z k)) (ssd z k)) (ssd z k) (j + 1) = true))), (13, .int (nI (wrF (sL z) (kM z) (scd z k) (sdl z k) (swd z k) (j + 1)))), (18, .int (hearF (sL z) (kM z) (scd z k) (j * sL z + sdl z k))), (17, .int (swd z k j)), (16, .int (nI j)), (14, .int (fnF (fun w => hearF (sL z) (kM z) (scd z k) (w * sL z + sdl z k)) (ssd z k))), (12, .int (nI (ssd z k))), (11, .int (nI k)), (10, .int (nI (endA z k))), (9, .int (nI (allW z (kM z) k))), (8, .int (nI (sumN (ssd z) k))), (7, .int (nI (sumN (ssr z) (k + 1)))), (6, .int (nI (sn z))), (5, .int (nI (sL z))), (4, .int x), (3, .int (nI tt)), (2, .ref (b 0)), (1, .ref (ad 0)), (0, .ref (gB g))]) hx hb dL_law_310 hl (by decide) rfl (fun ls hl => ?_)
                                      refine lv_iinc (v := nI (j + 1)) (lv' := [(16, .int (nI (j + 1))), (15, .int (bI (lsB (fun w => hearF (sL z) (kM z) (scd z k) (w * sL z + sdl z k)) (fnF (fun w => hearF (sL z) (kM z) (scd z k) (w * sL z + sdl z k)) (ssd z k)) (ssd z k) (j + 1) = true))), (13, .int (nI (wrF (sL z) (kM z) (scd z k) (sdl z k) (swd z k) (j + 1)))), (18, .int (hearF (sL z) (kM z) (scd z k) (j * sL z + sdl z k))), (17, .int (swd z k j)), (14, .int (fnF (fun w => hearF (sL z) (kM z) (scd z k) (w * sL z + sdl z k)) (ssd z k))), (12, .int (nI (ssd z k))), (11, .int (nI k)), (10, .int (nI (endA z k))), (9, .int (nI (allW z (kM z) k))), (8, .int (nI (sumN (ssd z) k))), (7, .int (nI (sumN (ssr z) (k + 1)))), (6, .int (nI (sn z))), (5, .int (nI (sL z))), (4, .int x), (3, .int (nI tt)), (2, .ref (b 0)), (1, .ref (ad 0)), (0, .ref (gB g))]) hx hb dL_law_312 hl (k := 4) rfl (nI_1 _) (by decide) rfl (fun ls hl => ?_)
                                      refine lv_goto (tgt := 142) hx hb dL_law_315 (by decide) ?_
                                      exact ih_142 (j + 1)  (by omega) (by omega)  _ _ hP hD hS hE _ (lv_sub hl [0, 1, 2, 5, 6, 7, 8, 9, 10, 11, 12, 13, 14, 15, 16, 17, 18] rfl)
                                    · refine lv_iconst (v := nI 1) hx hb dL_law_304 (by decide) ?_
                                      refine lv_goto (tgt := 309) hx hb dL_law_305 (by decide) ?_
                                      refine q_ior (v := bI (lsB (fun w => hearF (sL z) (kM z) (scd z k) (w * sL z + sdl z k)) (fnF (fun w => hearF (sL z) (kM z) (scd z k) (w * sL z + sdl z k)) (ssd z k)) (ssd z k) (j + 1) = true)) hx hb dL_law_309 ((congrArg (fun q => bI (lsB (fun w => hearF (sL z) (kM z) (scd z k) (w * sL z + sdl z k)) (fnF (fun w => hearF (sL z) (kM z) (scd z k) (w * sL z + sdl z k)) (ssd z k)) (ssd z k) j = true) ||| q) (show nI 1 = bI (ab (hearF (sL z) (kM z) (scd z k) (j * sL z + sdl z k)) = fnF (fun w => hearF (sL z) (kM z) (scd z k) (w * sL z + sdl z k)) (ssd z k)) from (bI_t c_l))).trans (lsB_s (x := (fun w => hearF (sL z) (kM z) (scd z k) (w * sL z + sdl z k))))) ?_
                                      refine lv_istore (lv' := [(15, .int (bI (lsB (fun w => hearF (sL z) (kM z) (scd z k) (w * sL z + sdl z k)) (fnF (fun w => hearF (sL z) (kM z) (scd z k) (w * sL z + sdl z k)) (ssd z k)) (ssd z k) (j + 1) = true))), (13, .int (nI (wrF (sL z) (kM z) (scd z k) (sdl z k) (swd z k) (j + 1)))), (18, .int (hearF (sL z) (kM z) (scd z k) (j * sL z + sdl z k))), (17, .int (swd z k j)), (16, .int (nI j)), (14, .int (fnF (fun w => hearF (sL z) (kM z) (scd z k) (w * sL z + sdl z k)) (ssd z k))), (12, .int (nI (ssd z k))), (11, .int (nI k)), (10, .int (nI (endA z k))), (9, .int (nI (allW z (kM z) k))), (8, .int (nI (sumN (ssd z) k))), (7, .int (nI (sumN (ssr z) (k + 1)))), (6, .int (nI (sn z))), (5, .int (nI (sL z))), (4, .int x), (3, .int (nI tt)), (2, .ref (b 0)), (1, .ref (ad 0)), (0, .ref (gB g))]) hx hb dL_law_310 hl (by decide) rfl (fun ls hl => ?_)
                                      refine lv_iinc (v := nI (j + 1)) (lv' := [(16, .int (nI (j + 1))), (15, .int (bI (lsB (fun w => hearF (sL z) (kM z) (scd z k) (w * sL z + sdl z k)) (fnF (fun w => hearF (sL z) (kM z) (scd z k) (w * sL z + sdl z k)) (ssd z k)) (ssd z k) (j + 1) = true))), (13, .int (nI (wrF (sL z) (kM z) (scd z k) (sdl z k) (swd z k) (j + 1)))), (18, .int (hearF (sL z) (kM z) (scd z k) (j * sL z + sdl z k))), (17, .int (swd z k j)), (14, .int (fnF (fun w => hearF (sL z) (kM z) (scd z k) (w * sL z + sdl z k)) (ssd z k))), (12, .int (nI (ssd z k))), (11, .int (nI k)), (10, .int (nI (endA z k))), (9, .int (nI (allW z (kM z) k))), (8, .int (nI (sumN (ssd z) k))), (7, .int (nI (sumN (ssr z) (k + 1)))), (6, .int (nI (sn z))), (5, .int (nI (sL z))), (4, .int x), (3, .int (nI tt)), (2, .ref (b 0)), (1, .ref (ad 0)), (0, .ref (gB g))]) hx hb dL_law_312 hl (k := 4) rfl (nI_1 _) (by decide) rfl (fun ls hl => ?_)
                                      refine lv_goto (tgt := 142) hx hb dL_law_315 (by decide) ?_
                                      exact ih_142 (j + 1)  (by omega) (by omega)  _ _ hP hD hS hE _ (lv_sub hl [0, 1, 2, 5, 6, 7, 8, 9, 10, 11, 12, 13, 14, 15, 16, 17, 18] rfl)
                                  · exact absurd (fnF_le (x := (fun w => hearF (sL z) (kM z) (scd z k) (w * sL z + sdl z k))) c_w) c_158
                        · refine lv_iconst (v := nI 1) hx hb dL_law_225 (by decide) ?_
                          refine lv_goto (tgt := 230) hx hb dL_law_226 (by decide) ?_
                          refine lv_iload hx hb dL_law_230 (lv_at hl 2 rfl) ?_
                          refine lv_if_le (tgt := 239) hx hb dL_law_232 (by decide) (fun c_q => ?_) (fun c_q => ?_)
                          · refine lv_iconst (v := nI 0) hx hb dL_law_239 (by decide) ?_
                            refine q_icmp_eq (tgt := 247) hx hb (by omega) (by omega) dL_law_240 (by decide) (fun c_159 => ?_) (fun c_159 => ?_)
                            · exact absurd c_159 (by decide)
                            · refine lv_iconst (v := nI 1) hx hb dL_law_243 (by decide) ?_
                              refine lv_goto (tgt := 248) hx hb dL_law_244 (by decide) ?_
                              refine q_icmp_ne (tgt := 290) hx hb (by omega) (by omega) dL_law_248 (by decide) (fun c_160 => ?_) (fun c_160 => ?_)
                              · exact absurd rfl c_160
                              · refine lv_iload hx hb dL_law_251 (lv_at hl 1 rfl) ?_
                                refine lv_aload_n hx hb dL_law_253 rfl (lv_at hl 17 rfl) ?_
                                refine lv_aload_n hx hb dL_law_254 rfl (lv_at hl 17 rfl) ?_
                                refine lv_iload hx hb dL_law_255 (lv_at hl 7 rfl) ?_
                                refine lv_iconst (v := nI 0) hx hb dL_law_257 (by decide) ?_
                                refine q_roV (As := [.int (nI k), .int (nI 0)]) (rest := [.ref (ad 0), .int (hearF (sL z) (kM z) (scd z k) (j * sL z + sdl z k))]) ⟨hx, hb, hml, hown, hts⟩ (k_about0 hI c_k) (cwV 2 hts gL_law_X3_about rfl rfl rfl (by decide +kernel) ⟨Nat.le_of_ble_eq_true rfl, Nat.le_of_ble_eq_true rfl⟩) hE (fun q h => hA q (Nat.le_trans hS.1 h)) (q_snd hP) (va_recv hE.K (q_snd hP) (ci := 4) (q0 := 0) rfl rfl) rfl hl.1 rfl (Nat.le_of_ble_eq_true rfl) dL_law_258 ⟨by show _ ≤ 1200130; omega, by show _ ≤ 5501080; omega⟩ ?_
                                refine lv_aload_n hx hb dL_law_261 rfl (lv_at hl 17 rfl) ?_
                                refine lv_iload hx hb dL_law_262 (lv_at hl 7 rfl) ?_
                                refine lv_iconst (v := nI 2) hx hb dL_law_264 (by decide) ?_
                                refine q_roV (As := [.int (nI k), .int (nI 2)]) (rest := [.int (nI (scd z k)), .ref (ad 0), .int (hearF (sL z) (kM z) (scd z k) (j * sL z + sdl z k))]) ⟨hx, hb, hml, hown, hts⟩ (k_about2 hI c_k) (cwV 2 hts gL_law_X3_about rfl rfl rfl (by decide +kernel) ⟨Nat.le_of_ble_eq_true rfl, Nat.le_of_ble_eq_true rfl⟩) hE (fun q h => hA q (Nat.le_trans hS.1 h)) (q_snd hP) (va_recv hE.K (q_snd hP) (ci := 4) (q0 := 0) rfl rfl) rfl hl.1 rfl (Nat.le_of_ble_eq_true rfl) dL_law_265 ⟨by show _ ≤ 1200130; omega, by show _ ≤ 5501080; omega⟩ ?_
                                refine lv_iload hx hb dL_law_268 (lv_at hl 13 rfl) ?_
                                refine lv_iload hx hb dL_law_270 (lv_at hl 3 rfl) ?_
                                refine q_imul (v := nI ((sL z) * j)) hx hb dL_law_272 (pk_mul _ _) ?_
                                refine q_iadd (v := nI (j * sL z + sdl z k)) hx hb dL_law_273 (by rw [nI_add, Nat.add_comm, Nat.mul_comm]) ?_
                                refine q_roV (As := [.int (nI (scd z k)), .int (nI (j * sL z + sdl z k))]) (rest := [.int (hearF (sL z) (kM z) (scd z k) (j * sL z + sdl z k))]) ⟨hx, hb, hml, hown, hts⟩ (k_hear hI (a := scd z k) (t := j * sL z + sdl z k) hd_.1 (by have := mul16 (a := j) hL.2; omega)) (cwV 2 hts gL_law_X3_hear rfl rfl rfl (by decide +kernel) ⟨Nat.le_of_ble_eq_true rfl, Nat.le_of_ble_eq_true rfl⟩) hE (fun q h => hA q (Nat.le_trans hS.1 h)) (q_snd hP) (va_recv hE.K (q_snd hP) (ci := 4) (q0 := 0) rfl rfl) rfl hl.1 rfl (Nat.le_of_ble_eq_true rfl) dL_law_274 ⟨by show _ ≤ 1200130; omega, by show _ ≤ 5501080; omega⟩ ?_
                                refine lv_icmp_ne (tgt := 290) hx hb dL_law_277 (by decide) (fun c_161 => ?_) (fun c_161 => ?_)
                                · exact absurd rfl c_161
                                · refine lv_iload hx hb dL_law_280 (lv_at hl 1 rfl) ?_
                                  refine q_mabs (v := ab (hearF (sL z) (kM z) (scd z k) (j * sL z + sdl z k))) hx hb (hml.trans hl.1.symm) hown (hts _ (List.mem_of_getElem? (i := 3) rfl)) (hts _ (List.mem_of_getElem? (i := 4) rfl)) (hts _ (List.mem_of_getElem? (i := 5) rfl)) (hts _ (List.mem_of_getElem? (i := 6) rfl)) (Nat.le_of_ble_eq_true rfl) (Nat.le_of_ble_eq_true rfl) (by show _ ≤ 1200130; omega) (by show _ ≤ 5501080; omega) dL_law_282 rfl ?_
                                  refine lv_iload hx hb dL_law_285 (lv_at hl 5 rfl) ?_
                                  refine lv_icmp_ge (tgt := 292) hx hb dL_law_287 (by decide) (fun c_162 => ?_) (fun c_162 => ?_)
                                  · refine lv_iload hx hb dL_law_292 (lv_at hl 4 rfl) ?_
                                    refine lv_iload hx hb dL_law_294 (lv_at hl 1 rfl) ?_
                                    refine q_mabs (v := ab (hearF (sL z) (kM z) (scd z k) (j * sL z + sdl z k))) hx hb (hml.trans hl.1.symm) hown (hts _ (List.mem_of_getElem? (i := 3) rfl)) (hts _ (List.mem_of_getElem? (i := 4) rfl)) (hts _ (List.mem_of_getElem? (i := 5) rfl)) (hts _ (List.mem_of_getElem? (i := 6) rfl)) (Nat.le_of_ble_eq_true rfl) (Nat.le_of_ble_eq_true rfl) (by show _ ≤ 1200130; omega) (by show _ ≤ 5501080; omega) dL_law_296 rfl ?_
                                    refine lv_iload hx hb dL_law_299 (lv_at hl 5 rfl) ?_
                                    refine lv_icmp_ne (tgt := 308) hx hb dL_law_301 (by decide) (fun c_l => ?_) (fun c_l => ?_)
                                    · refine lv_iconst (v := nI 0) hx hb dL_law_308 (by decide) ?_
                                      refine q_ior (v := bI (lsB (fun w => hearF (sL z) (kM z) (scd z k) (w * sL z + sdl z k)) (fnF (fun w => hearF (sL z) (kM z) (scd z k) (w * sL z + sdl z k)) (ssd z k)) (ssd z k) (j + 1) = true)) hx hb dL_law_309 ((congrArg (fun q => bI (lsB (fun w => hearF (sL z) (kM z) (scd z k) (w * sL z + sdl z k)) (fnF (fun w => hearF (sL z) (kM z) (scd z k) (w * sL z + sdl z k)) (ssd z k)) (ssd z k) j = true) ||| q) (show nI 0 = bI (ab (hearF (sL z) (kM z) (scd z k) (j * sL z + sdl z k)) = fnF (fun w => hearF (sL z) (kM z) (scd z k) (w * sL z + sdl z k)) (ssd z k)) from (bI_f c_l))).trans (lsB_s (x := (fun w => hearF (sL z) (kM z) (scd z k) (w * sL z + sdl z k))))) ?_
                                      refine lv_istore (lv' := [(15, .int (bI (lsB (fun w => hearF (sL z) (kM z) (scd z k) (w * sL z + sdl z k)) (fnF (fun w => hearF (sL z) (kM z) (scd z k) (w * sL z + sdl z k)) (ssd z k)) (ssd z k) (j + 1) = true))), (13, .int (nI (wrF (sL z) (kM z) (scd z k) (sdl z k) (swd z k) (j + 1)))), (18, .int (hearF (sL z) (kM z) (scd z k) (j * sL z + sdl z k))), (17, .int (swd z k j)), (16, .int (nI j)), (14, .int (fnF (fun w => hearF (sL z) (kM z) (scd z k) (w * sL z + sdl z k)) (ssd z k))), (12, .int (nI (ssd z k))), (11, .int (nI k)), (10, .int (nI (endA z k))), (9, .int (nI (allW z (kM z) k))), (8, .int (nI (sumN (ssd z) k))), (7, .int (nI (sumN (ssr z) (k + 1)))), (6, .int (nI (sn z))), (5, .int (nI (sL z))), (4, .int x), (3, .int (nI tt)), (2, .ref (b 0)), (1, .ref (ad 0)), (0, .ref (gB g))]) hx hb dL_law_310 hl (by decide) rfl (fun ls hl => ?_)
                                      refine lv_iinc (v := nI (j + 1)) (lv' := [(16, .int (nI (j + 1))), (15, .int (bI (lsB (fun w => hearF (sL z) (kM z) (scd z k) (w * sL z + sdl z k)) (fnF (fun w => hearF (sL z) (kM z) (scd z k) (w * sL z + sdl z k)) (ssd z k)) (ssd z k) (j + 1) = true))), (13, .int (nI (wrF (sL z) (kM z) (scd z k) (sdl z k) (swd z k) (j + 1)))), (18, .int (hearF (sL z) (kM z) (scd z k) (j * sL z + sdl z k))), (17, .int (swd z k j)), (14, .int (fnF (fun w => hearF (sL z) (kM z) (scd z k) (w * sL z + sdl z k)) (ssd z k))), (12, .int (nI (ssd z k))), (11, .int (nI k)), (10, .int (nI (endA z k))), (9, .int (nI (allW z (kM z) k))), (8, .int (nI (sumN (ssd z) k))), (7, .int (nI (sumN (ssr z) (k + 1)))), (6, .int (nI (sn z))), (5, .int (nI (sL z))), (4, .int x), (3, .int (nI tt)), (2, .ref (b 0)), (1, .ref (ad 0)), (0, .ref (gB g))]) hx hb dL_law_312 hl (k := 4) rfl (nI_1 _) (by decide) rfl (fun ls hl => ?_)
                                      refine lv_goto (tgt := 142) hx hb dL_law_315 (by decide) ?_
                                      exact ih_142 (j + 1)  (by omega) (by omega)  _ _ hP hD hS hE _ (lv_sub hl [0, 1, 2, 5, 6, 7, 8, 9, 10, 11, 12, 13, 14, 15, 16, 17, 18] rfl)
                                    · refine lv_iconst (v := nI 1) hx hb dL_law_304 (by decide) ?_
                                      refine lv_goto (tgt := 309) hx hb dL_law_305 (by decide) ?_
                                      refine q_ior (v := bI (lsB (fun w => hearF (sL z) (kM z) (scd z k) (w * sL z + sdl z k)) (fnF (fun w => hearF (sL z) (kM z) (scd z k) (w * sL z + sdl z k)) (ssd z k)) (ssd z k) (j + 1) = true)) hx hb dL_law_309 ((congrArg (fun q => bI (lsB (fun w => hearF (sL z) (kM z) (scd z k) (w * sL z + sdl z k)) (fnF (fun w => hearF (sL z) (kM z) (scd z k) (w * sL z + sdl z k)) (ssd z k)) (ssd z k) j = true) ||| q) (show nI 1 = bI (ab (hearF (sL z) (kM z) (scd z k) (j * sL z + sdl z k)) = fnF (fun w => hearF (sL z) (kM z) (scd z k) (w * sL z + sdl z k)) (ssd z k)) from (bI_t c_l))).trans (lsB_s (x := (fun w => hearF (sL z) (kM z) (scd z k) (w * sL z + sdl z k))))) ?_
                                      refine lv_istore (lv' := [(15, .int (bI (lsB (fun w => hearF (sL z) (kM z) (scd z k) (w * sL z + sdl z k)) (fnF (fun w => hearF (sL z) (kM z) (scd z k) (w * sL z + sdl z k)) (ssd z k)) (ssd z k) (j + 1) = true))), (13, .int (nI (wrF (sL z) (kM z) (scd z k) (sdl z k) (swd z k) (j + 1)))), (18, .int (hearF (sL z) (kM z) (scd z k) (j * sL z + sdl z k))), (17, .int (swd z k j)), (16, .int (nI j)), (14, .int (fnF (fun w => hearF (sL z) (kM z) (scd z k) (w * sL z + sdl z k)) (ssd z k))), (12, .int (nI (ssd z k))), (11, .int (nI k)), (10, .int (nI (endA z k))), (9, .int (nI (allW z (kM z) k))), (8, .int (nI (sumN (ssd z) k))), (7, .int (nI (sumN (ssr z) (k + 1)))), (6, .int (nI (sn z))), (5, .int (nI (sL z))), (4, .int x), (3, .int (nI tt)), (2, .ref (b 0)), (1, .ref (ad 0)), (0, .ref (gB g))]) hx hb dL_law_310 hl (by decide) rfl (fun ls hl => ?_)
                                      refine lv_iinc (v := nI (j + 1)) (lv' := [(16, .int (nI (j + 1))), (15, .int (bI (lsB (fun w => hearF (sL z) (kM z) (scd z k) (w * sL z + sdl z k)) (fnF (fun w => hearF (sL z) (kM z) (scd z k) (w * sL z + sdl z k)) (ssd z k)) (ssd z k) (j + 1) = true))), (13, .int (nI (wrF (sL z) (kM z) (scd z k) (sdl z k) (swd z k) (j + 1)))), (18, .int (hearF (sL z) (kM z) (scd z k) (j * sL z + sdl z k))), (17, .int (swd z k j)), (14, .int (fnF (fun w => hearF (sL z) (kM z) (scd z k) (w * sL z + sdl z k)) (ssd z k))), (12, .int (nI (ssd z k))), (11, .int (nI k)), (10, .int (nI (endA z k))), (9, .int (nI (allW z (kM z) k))), (8, .int (nI (sumN (ssd z) k))), (7, .int (nI (sumN (ssr z) (k + 1)))), (6, .int (nI (sn z))), (5, .int (nI (sL z))), (4, .int x), (3, .int (nI tt)), (2, .ref (b 0)), (1, .ref (ad 0)), (0, .ref (gB g))]) hx hb dL_law_312 hl (k := 4) rfl (nI_1 _) (by decide) rfl (fun ls hl => ?_)
                                      refine lv_goto (tgt := 142) hx hb dL_law_315 (by decide) ?_
                                      exact ih_142 (j + 1)  (by omega) (by omega)  _ _ hP hD hS hE _ (lv_sub hl [0, 1, 2, 5, 6, 7, 8, 9, 10, 11, 12, 13, 14, 15, 16, 17, 18] rfl)
                                  · exact absurd (fnF_le (x := (fun w => hearF (sL z) (kM z) (scd z k) (w * sL z + sdl z k))) c_w) c_162
                          · refine lv_iconst (v := nI 1) hx hb dL_law_235 (by decide) ?_
                            refine lv_goto (tgt := 240) hx hb dL_law_236 (by decide) ?_
                            refine q_icmp_eq (tgt := 247) hx hb (by omega) (by omega) dL_law_240 (by decide) (fun c_163 => ?_) (fun c_163 => ?_)
                            · refine lv_iconst (v := nI 0) hx hb dL_law_247 (by decide) ?_
                              refine q_icmp_ne (tgt := 290) hx hb (by omega) (by omega) dL_law_248 (by decide) (fun c_164 => ?_) (fun c_164 => ?_)
                              · exact (wr_d hX_ hw_ c_3 c_x c_p c_q).elim
                              · exact absurd c_164 (by decide)
                            · exact absurd rfl c_163
          
          exact lp_142 (ssd z k + 1) 0  (Nat.zero_le _) (by omega)  _ _ hP hD hS hE _ (lv_sub hl [0, 1, 3, 2, 4, 6, 7, 8, 9, 5, 10, 11, 12, 13, 14, 15, 16] rfl)
        · refine lv_iload hx hb dL_law_127 (lv_at hl 0 rfl) ?_
          refine lv_if_ne (tgt := 136) hx hb dL_law_129 (by decide) (fun c_165 => ?_) (fun c_165 => ?_)
          · exact absurd (show fnF (fun w => hearF (sL z) (kM z) (scd z k) (w * sL z + sdl z k)) (ssd z k) = 0 by rw [c_s]; rfl) c_165
          · refine lv_iconst (v := nI 1) hx hb dL_law_132 (by decide) ?_
            refine lv_goto (tgt := 137) hx hb dL_law_133 (by decide) ?_
            have e15 : nI 1 = bI (lsB (fun w => hearF (sL z) (kM z) (scd z k) (w * sL z + sdl z k)) (fnF (fun w => hearF (sL z) (kM z) (scd z k) (w * sL z + sdl z k)) (ssd z k)) (ssd z k) 0 = true) := (bI_t (decide_eq_true c_s))
            refine W.eq (g2 := F0 m 137 ls [.int (bI (lsB (fun w => hearF (sL z) (kM z) (scd z k) (w * sL z + sdl z k)) (fnF (fun w => hearF (sL z) (kM z) (scd z k) (w * sL z + sdl z k)) (ssd z k)) (ssd z k) 0 = true))]) (by rw [← e15]; rfl) ?_
            refine lv_istore (lv' := [(15, .int (bI (lsB (fun w => hearF (sL z) (kM z) (scd z k) (w * sL z + sdl z k)) (fnF (fun w => hearF (sL z) (kM z) (scd z k) (w * sL z + sdl z k)) (ssd z k)) (ssd z k) 0 = true))), (14, .int (fnF (fun w => hearF (sL z) (kM z) (scd z k) (w * sL z + sdl z k)) (ssd z k))), (13, .int (nI 0)), (12, .int (nI (ssd z k))), (7, .int (nI (sumN (ssr z) (k + 1)))), (11, .int (nI k)), (10, .int (nI (endA z k))), (9, .int (nI (allW z (kM z) k))), (8, .int (nI (sumN (ssd z) k))), (6, .int (nI (sn z))), (5, .int (nI (sL z))), (4, .int x), (3, .int (nI tt)), (2, .ref (b 0)), (1, .ref (ad 0)), (0, .ref (gB g))]) hx hb dL_law_137 hl (by decide) rfl (fun ls hl => ?_)
            refine lv_iconst (v := nI 0) hx hb dL_law_139 (by decide) ?_
            refine lv_istore (lv' := [(16, .int (nI 0)), (15, .int (bI (lsB (fun w => hearF (sL z) (kM z) (scd z k) (w * sL z + sdl z k)) (fnF (fun w => hearF (sL z) (kM z) (scd z k) (w * sL z + sdl z k)) (ssd z k)) (ssd z k) 0 = true))), (14, .int (fnF (fun w => hearF (sL z) (kM z) (scd z k) (w * sL z + sdl z k)) (ssd z k))), (13, .int (nI 0)), (12, .int (nI (ssd z k))), (7, .int (nI (sumN (ssr z) (k + 1)))), (11, .int (nI k)), (10, .int (nI (endA z k))), (9, .int (nI (allW z (kM z) k))), (8, .int (nI (sumN (ssd z) k))), (6, .int (nI (sn z))), (5, .int (nI (sL z))), (4, .int x), (3, .int (nI tt)), (2, .ref (b 0)), (1, .ref (ad 0)), (0, .ref (gB g))]) hx hb dL_law_140 hl (by decide) rfl (fun ls hl => ?_)
            have lp_142 : ∀ (n_ j : Nat) , j ≤ ssd z k → ssd z k + 1 ≤ j + n_ → ∀ (H : Heap) (locs : List Loc), va_P g.1 vwCl (wS g b z ++ wC g ad mc M sig z) H → va_D (q_n s.heap) (wS g b z ++ wC g ad mc M sig z) → va_S (q_n s.heap) s.heap H locs → Ev g (q_n s.heap) s H → ∀ (ls : Array Slot), lv_has ls 24 [(16, .int (nI j)), (15, .int (bI (lsB (fun w => hearF (sL z) (kM z) (scd z k) (w * sL z + sdl z k)) (fnF (fun w => hearF (sL z) (kM z) (scd z k) (w * sL z + sdl z k)) (ssd z k)) (ssd z k) j = true))), (13, .int (nI (wrF (sL z) (kM z) (scd z k) (sdl z k) (swd z k) j))), (14, .int (fnF (fun w => hearF (sL z) (kM z) (scd z k) (w * sL z + sdl z k)) (ssd z k))), (12, .int (nI (ssd z k))), (11, .int (nI k)), (10, .int (nI (endA z k))), (9, .int (nI (allW z (kM z) k))), (8, .int (nI (sumN (ssd z) k))), (7, .int (nI (sumN (ssr z) (k + 1)))), (6, .int (nI (sn z))), (5, .int (nI (sL z))), (4, .int x), (3, .int (nI tt)), (2, .ref (b 0)), (1, .ref (ad 0)), (0, .ref (gB g))] → W p l e room_1 s m #[Value.ref (gB g)] below meth c H locs cells slots (Q) (F0 m 142 ls []) := by
              intro n_
              induction n_ with
              | zero => intro j  hi_ hn_; exact absurd hn_ (by omega)
              | succ n_ ih_142 =>
                intro j  hi_j hn_j  H locs hP hD hS hE ls hl
                refine lv_iload hx hb dL_law_142 (lv_at hl 0 rfl) ?_
                refine lv_iload hx hb dL_law_144 (lv_at hl 4 rfl) ?_
                refine q_icmp_ge (tgt := 318) hx hb (by omega) (by omega) dL_law_146 (by decide) (fun c_w => ?_) (fun c_w => ?_)
                · have ej : j = ssd z k := by omega
                  rw [ej] at hl
                  refine lv_iload hx hb dL_law_318 (lv_at hl 1 rfl) ?_
                  refine q_ifb_eq (tgt := 367) hx hb dL_law_320 (by decide) (fun c_166 => ?_) (fun c_166 => ?_)
                  · exact absurd lsB_all c_166
                  · refine lv_iload hx hb dL_law_323 (lv_at hl 2 rfl) ?_
                    refine lv_aload_n hx hb dL_law_325 rfl (lv_at hl 15 rfl) ?_
                    refine lv_iload hx hb dL_law_326 (lv_at hl 5 rfl) ?_
                    refine lv_iconst (v := nI 4) hx hb dL_law_328 (by decide) ?_
                    refine q_roV (As := [.int (nI k), .int (nI 4)]) (rest := [.int (nI (wrF (sL z) (kM z) (scd z k) (sdl z k) (swd z k) (ssd z k)))]) ⟨hx, hb, hml, hown, hts⟩ (k_about4 hI c_k) (cwV 2 hts gL_law_X3_about rfl rfl rfl (by decide +kernel) ⟨Nat.le_of_ble_eq_true rfl, Nat.le_of_ble_eq_true rfl⟩) hE (fun q h => hA q (Nat.le_trans hS.1 h)) (q_snd hP) (va_recv hE.K (q_snd hP) (ci := 4) (q0 := 0) rfl rfl) rfl hl.1 rfl (Nat.le_of_ble_eq_true rfl) dL_law_329 ⟨by show _ ≤ 1200130; omega, by show _ ≤ 5501080; omega⟩ ?_
                    refine q_icmp_ne (tgt := 367) hx hb (by omega) (by omega) dL_law_332 (by decide) (fun c_167 => ?_) (fun c_167 => ?_)
                    · exact absurd rfl c_167
                    · refine lv_aload_n hx hb dL_law_335 rfl (lv_at hl 15 rfl) ?_
                      refine lv_iload hx hb dL_law_336 (lv_at hl 5 rfl) ?_
                      refine lv_iconst (v := nI 5) hx hb dL_law_338 (by decide) ?_
                      refine q_roV (As := [.int (nI k), .int (nI 5)]) (rest := []) ⟨hx, hb, hml, hown, hts⟩ (k_about5 hI c_k) (cwV 2 hts gL_law_X3_about rfl rfl rfl (by decide +kernel) ⟨Nat.le_of_ble_eq_true rfl, Nat.le_of_ble_eq_true rfl⟩) hE (fun q h => hA q (Nat.le_trans hS.1 h)) (q_snd hP) (va_recv hE.K (q_snd hP) (ci := 4) (q0 := 0) rfl rfl) rfl hl.1 rfl (Nat.le_of_ble_eq_true rfl) dL_law_339 ⟨by show _ ≤ 1200130; omega, by show _ ≤ 5501080; omega⟩ ?_
                      refine lv_iload hx hb dL_law_342 (lv_at hl 4 rfl) ?_
                      refine q_if_ne (tgt := 351) hx hb (by omega) dL_law_344 (by decide) (fun c_z => ?_) (fun c_z => ?_)
                      · refine lv_aload_n hx hb dL_law_351 rfl (lv_at hl 15 rfl) ?_
                        refine lv_iload hx hb dL_law_352 (lv_at hl 5 rfl) ?_
                        refine lv_iconst (v := nI 2) hx hb dL_law_354 (by decide) ?_
                        refine q_roV (As := [.int (nI k), .int (nI 2)]) (rest := [.int (nI (endF (sL z) (ssd z k) (sdl z k)))]) ⟨hx, hb, hml, hown, hts⟩ (k_about2 hI c_k) (cwV 2 hts gL_law_X3_about rfl rfl rfl (by decide +kernel) ⟨Nat.le_of_ble_eq_true rfl, Nat.le_of_ble_eq_true rfl⟩) hE (fun q h => hA q (Nat.le_trans hS.1 h)) (q_snd hP) (va_recv hE.K (q_snd hP) (ci := 4) (q0 := 0) rfl rfl) rfl hl.1 rfl (Nat.le_of_ble_eq_true rfl) dL_law_355 ⟨by show _ ≤ 1200130; omega, by show _ ≤ 5501080; omega⟩ ?_
                        refine lv_iload hx hb dL_law_358 (lv_at hl 11 rfl) ?_
                        refine lv_iload hx hb dL_law_360 (lv_at hl 4 rfl) ?_
                        refine q_imul (v := nI ((sL z) * (ssd z k))) hx hb dL_law_362 (pk_mul _ _) ?_
                        refine q_iadd (v := nI (endF (sL z) (ssd z k) (sdl z k))) hx hb dL_law_363 (endF_e c_z) ?_
                        refine q_icmp_eq (tgt := 369) hx hb (by omega) (by omega) dL_law_364 (by decide) (fun c_168 => ?_) (fun c_168 => ?_)
                        · refine lv_iload hx hb dL_law_369 (lv_at hl 8 rfl) ?_
                          refine lv_iload hx hb dL_law_371 (lv_at hl 4 rfl) ?_
                          refine q_iadd (v := nI (sumN (ssd z) (k + 1))) hx hb dL_law_373 (nI_add _ _) ?_
                          refine lv_istore (lv' := [(8, .int (nI (sumN (ssd z) (k + 1)))), (16, .int (nI (ssd z k))), (15, .int (bI (lsB (fun w => hearF (sL z) (kM z) (scd z k) (w * sL z + sdl z k)) (fnF (fun w => hearF (sL z) (kM z) (scd z k) (w * sL z + sdl z k)) (ssd z k)) (ssd z k) (ssd z k) = true))), (13, .int (nI (wrF (sL z) (kM z) (scd z k) (sdl z k) (swd z k) (ssd z k)))), (14, .int (fnF (fun w => hearF (sL z) (kM z) (scd z k) (w * sL z + sdl z k)) (ssd z k))), (12, .int (nI (ssd z k))), (11, .int (nI k)), (10, .int (nI (endA z k))), (9, .int (nI (allW z (kM z) k))), (7, .int (nI (sumN (ssr z) (k + 1)))), (6, .int (nI (sn z))), (5, .int (nI (sL z))), (4, .int x), (3, .int (nI tt)), (2, .ref (b 0)), (1, .ref (ad 0)), (0, .ref (gB g))]) hx hb dL_law_374 hl (by decide) rfl (fun ls hl => ?_)
                          refine lv_iload hx hb dL_law_376 (lv_at hl 8 rfl) ?_
                          refine lv_iload hx hb dL_law_378 (lv_at hl 3 rfl) ?_
                          refine q_iadd (v := nI (allW z (kM z) (k + 1))) hx hb dL_law_380 (nI_add _ _) ?_
                          refine lv_istore (lv' := [(9, .int (nI (allW z (kM z) (k + 1)))), (8, .int (nI (sumN (ssd z) (k + 1)))), (16, .int (nI (ssd z k))), (15, .int (bI (lsB (fun w => hearF (sL z) (kM z) (scd z k) (w * sL z + sdl z k)) (fnF (fun w => hearF (sL z) (kM z) (scd z k) (w * sL z + sdl z k)) (ssd z k)) (ssd z k) (ssd z k) = true))), (13, .int (nI (wrF (sL z) (kM z) (scd z k) (sdl z k) (swd z k) (ssd z k)))), (14, .int (fnF (fun w => hearF (sL z) (kM z) (scd z k) (w * sL z + sdl z k)) (ssd z k))), (12, .int (nI (ssd z k))), (11, .int (nI k)), (10, .int (nI (endA z k))), (7, .int (nI (sumN (ssr z) (k + 1)))), (6, .int (nI (sn z))), (5, .int (nI (sL z))), (4, .int x), (3, .int (nI tt)), (2, .ref (b 0)), (1, .ref (ad 0)), (0, .ref (gB g))]) hx hb dL_law_381 hl (by decide) rfl (fun ls hl => ?_)
                          refine lv_iload hx hb dL_law_383 (lv_at hl 8 rfl) ?_
                          refine lv_aload_n hx hb dL_law_385 rfl (lv_at hl 15 rfl) ?_
                          refine lv_iload hx hb dL_law_386 (lv_at hl 7 rfl) ?_
                          refine lv_iconst (v := nI 5) hx hb dL_law_388 (by decide) ?_
                          refine q_roV (As := [.int (nI k), .int (nI 5)]) (rest := [.int (nI (endA z k))]) ⟨hx, hb, hml, hown, hts⟩ (k_about5 hI c_k) (cwV 2 hts gL_law_X3_about rfl rfl rfl (by decide +kernel) ⟨Nat.le_of_ble_eq_true rfl, Nat.le_of_ble_eq_true rfl⟩) hE (fun q h => hA q (Nat.le_trans hS.1 h)) (q_snd hP) (va_recv hE.K (q_snd hP) (ci := 4) (q0 := 0) rfl rfl) rfl hl.1 rfl (Nat.le_of_ble_eq_true rfl) dL_law_389 ⟨by show _ ≤ 1200130; omega, by show _ ≤ 5501080; omega⟩ ?_
                          refine q_mmax (v := nI (endA z (k + 1))) hx hb (hml.trans hl.1.symm) hown (hts _ (List.mem_of_getElem? (i := 7) rfl)) (hts _ (List.mem_of_getElem? (i := 8) rfl)) (hts _ (List.mem_of_getElem? (i := 5) rfl)) (hts _ (List.mem_of_getElem? (i := 9) rfl)) (Nat.le_of_ble_eq_true rfl) (Nat.le_of_ble_eq_true rfl) (by show _ ≤ 1200130; omega) (by show _ ≤ 5501080; omega) dL_law_392 (q_maxN (by have := endA_le hV (show k ≤ sn z by omega); omega) (by omega)) ?_
                          refine lv_istore (lv' := [(10, .int (nI (endA z (k + 1)))), (9, .int (nI (allW z (kM z) (k + 1)))), (8, .int (nI (sumN (ssd z) (k + 1)))), (16, .int (nI (ssd z k))), (15, .int (bI (lsB (fun w => hearF (sL z) (kM z) (scd z k) (w * sL z + sdl z k)) (fnF (fun w => hearF (sL z) (kM z) (scd z k) (w * sL z + sdl z k)) (ssd z k)) (ssd z k) (ssd z k) = true))), (13, .int (nI (wrF (sL z) (kM z) (scd z k) (sdl z k) (swd z k) (ssd z k)))), (14, .int (fnF (fun w => hearF (sL z) (kM z) (scd z k) (w * sL z + sdl z k)) (ssd z k))), (12, .int (nI (ssd z k))), (11, .int (nI k)), (7, .int (nI (sumN (ssr z) (k + 1)))), (6, .int (nI (sn z))), (5, .int (nI (sL z))), (4, .int x), (3, .int (nI tt)), (2, .ref (b 0)), (1, .ref (ad 0)), (0, .ref (gB g))]) hx hb dL_law_395 hl (by decide) rfl (fun ls hl => ?_)
                          refine lv_iinc (v := nI (k + 1)) (lv' := [(11, .int (nI (k + 1))), (10, .int (nI (endA z (k + 1)))), (9, .int (nI (allW z (kM z) (k + 1)))), (8, .int (nI (sumN (ssd z) (k + 1)))), (16, .int (nI (ssd z k))), (15, .int (bI (lsB (fun w => hearF (sL z) (kM z) (scd z k) (w * sL z + sdl z k)) (fnF (fun w => hearF (sL z) (kM z) (scd z k) (w * sL z + sdl z k)) (ssd z k)) (ssd z k) (ssd z k) = true))), (13, .int (nI (wrF (sL z) (kM z) (scd z k) (sdl z k) (swd z k) (ssd z k)))), (14, .int (fnF (fun w => hearF (sL z) (kM z) (scd z k) (w * sL z + sdl z k)) (ssd z k))), (12, .int (nI (ssd z k))), (7, .int (nI (sumN (ssr z) (k + 1)))), (6, .int (nI (sn z))), (5, .int (nI (sL z))), (4, .int x), (3, .int (nI tt)), (2, .ref (b 0)), (1, .ref (ad 0)), (0, .ref (gB g))]) hx hb dL_law_397 hl (k := 8) rfl (nI_1 _) (by decide) rfl (fun ls hl => ?_)
                          refine lv_goto (tgt := 81) hx hb dL_law_400 (by decide) ?_
                          exact ih_81 (k + 1)  (by omega) (by omega)  _ _ hP hD hS hE _ (lv_sub hl [0, 1, 2, 3, 9, 10, 11, 12, 13, 14, 15, 16] rfl)
                        · exact absurd rfl c_168
                      · refine lv_iconst (v := nI 0) hx hb dL_law_347 (by decide) ?_
                        refine lv_goto (tgt := 364) hx hb dL_law_348 (by decide) ?_
                        refine q_icmp_eq (tgt := 369) hx hb (by omega) (by omega) dL_law_364 (by decide) (fun c_169 => ?_) (fun c_169 => ?_)
                        · refine lv_iload hx hb dL_law_369 (lv_at hl 8 rfl) ?_
                          refine lv_iload hx hb dL_law_371 (lv_at hl 4 rfl) ?_
                          refine q_iadd (v := nI (sumN (ssd z) (k + 1))) hx hb dL_law_373 (nI_add _ _) ?_
                          refine lv_istore (lv' := [(8, .int (nI (sumN (ssd z) (k + 1)))), (16, .int (nI (ssd z k))), (15, .int (bI (lsB (fun w => hearF (sL z) (kM z) (scd z k) (w * sL z + sdl z k)) (fnF (fun w => hearF (sL z) (kM z) (scd z k) (w * sL z + sdl z k)) (ssd z k)) (ssd z k) (ssd z k) = true))), (13, .int (nI (wrF (sL z) (kM z) (scd z k) (sdl z k) (swd z k) (ssd z k)))), (14, .int (fnF (fun w => hearF (sL z) (kM z) (scd z k) (w * sL z + sdl z k)) (ssd z k))), (12, .int (nI (ssd z k))), (11, .int (nI k)), (10, .int (nI (endA z k))), (9, .int (nI (allW z (kM z) k))), (7, .int (nI (sumN (ssr z) (k + 1)))), (6, .int (nI (sn z))), (5, .int (nI (sL z))), (4, .int x), (3, .int (nI tt)), (2, .ref (b 0)), (1, .ref (ad 0)), (0, .ref (gB g))]) hx hb dL_law_374 hl (by decide) rfl (fun ls hl => ?_)
                          refine lv_iload hx hb dL_law_376 (lv_at hl 8 rfl) ?_
                          refine lv_iload hx hb dL_law_378 (lv_at hl 3 rfl) ?_
                          refine q_iadd (v := nI (allW z (kM z) (k + 1))) hx hb dL_law_380 (nI_add _ _) ?_
                          refine lv_istore (lv' := [(9, .int (nI (allW z (kM z) (k + 1)))), (8, .int (nI (sumN (ssd z) (k + 1)))), (16, .int (nI (ssd z k))), (15, .int (bI (lsB (fun w => hearF (sL z) (kM z) (scd z k) (w * sL z + sdl z k)) (fnF (fun w => hearF (sL z) (kM z) (scd z k) (w * sL z + sdl z k)) (ssd z k)) (ssd z k) (ssd z k) = true))), (13, .int (nI (wrF (sL z) (kM z) (scd z k) (sdl z k) (swd z k) (ssd z k)))), (14, .int (fnF (fun w => hearF (sL z) (kM z) (scd z k) (w * sL z + sdl z k)) (ssd z k))), (12, .int (nI (ssd z k))), (11, .int (nI k)), (10, .int (nI (endA z k))), (7, .int (nI (sumN (ssr z) (k + 1)))), (6, .int (nI (sn z))), (5, .int (nI (sL z))), (4, .int x), (3, .int (nI tt)), (2, .ref (b 0)), (1, .ref (ad 0)), (0, .ref (gB g))]) hx hb dL_law_381 hl (by decide) rfl (fun ls hl => ?_)
                          refine lv_iload hx hb dL_law_383 (lv_at hl 8 rfl) ?_
                          refine lv_aload_n hx hb dL_law_385 rfl (lv_at hl 15 rfl) ?_
                          refine lv_iload hx hb dL_law_386 (lv_at hl 7 rfl) ?_
                          refine lv_iconst (v := nI 5) hx hb dL_law_388 (by decide) ?_
                          refine q_roV (As := [.int (nI k), .int (nI 5)]) (rest := [.int (nI (endA z k))]) ⟨hx, hb, hml, hown, hts⟩ (k_about5 hI c_k) (cwV 2 hts gL_law_X3_about rfl rfl rfl (by decide +kernel) ⟨Nat.le_of_ble_eq_true rfl, Nat.le_of_ble_eq_true rfl⟩) hE (fun q h => hA q (Nat.le_trans hS.1 h)) (q_snd hP) (va_recv hE.K (q_snd hP) (ci := 4) (q0 := 0) rfl rfl) rfl hl.1 rfl (Nat.le_of_ble_eq_true rfl) dL_law_389 ⟨by show _ ≤ 1200130; omega, by show _ ≤ 5501080; omega⟩ ?_
                          refine q_mmax (v := nI (endA z (k + 1))) hx hb (hml.trans hl.1.symm) hown (hts _ (List.mem_of_getElem? (i := 7) rfl)) (hts _ (List.mem_of_getElem? (i := 8) rfl)) (hts _ (List.mem_of_getElem? (i := 5) rfl)) (hts _ (List.mem_of_getElem? (i := 9) rfl)) (Nat.le_of_ble_eq_true rfl) (Nat.le_of_ble_eq_true rfl) (by show _ ≤ 1200130; omega) (by show _ ≤ 5501080; omega) dL_law_392 (q_maxN (by have := endA_le hV (show k ≤ sn z by omega); omega) (by omega)) ?_
                          refine lv_istore (lv' := [(10, .int (nI (endA z (k + 1)))), (9, .int (nI (allW z (kM z) (k + 1)))), (8, .int (nI (sumN (ssd z) (k + 1)))), (16, .int (nI (ssd z k))), (15, .int (bI (lsB (fun w => hearF (sL z) (kM z) (scd z k) (w * sL z + sdl z k)) (fnF (fun w => hearF (sL z) (kM z) (scd z k) (w * sL z + sdl z k)) (ssd z k)) (ssd z k) (ssd z k) = true))), (13, .int (nI (wrF (sL z) (kM z) (scd z k) (sdl z k) (swd z k) (ssd z k)))), (14, .int (fnF (fun w => hearF (sL z) (kM z) (scd z k) (w * sL z + sdl z k)) (ssd z k))), (12, .int (nI (ssd z k))), (11, .int (nI k)), (7, .int (nI (sumN (ssr z) (k + 1)))), (6, .int (nI (sn z))), (5, .int (nI (sL z))), (4, .int x), (3, .int (nI tt)), (2, .ref (b 0)), (1, .ref (ad 0)), (0, .ref (gB g))]) hx hb dL_law_395 hl (by decide) rfl (fun ls hl => ?_)
                          refine lv_iinc (v := nI (k + 1)) (lv' := [(11, .int (nI (k + 1))), (10, .int (nI (endA z (k + 1)))), (9, .int (nI (allW z (kM z) (k + 1)))), (8, .int (nI (sumN (ssd z) (k + 1)))), (16, .int (nI (ssd z k))), (15, .int (bI (lsB (fun w => hearF (sL z) (kM z) (scd z k) (w * sL z + sdl z k)) (fnF (fun w => hearF (sL z) (kM z) (scd z k) (w * sL z + sdl z k)) (ssd z k)) (ssd z k) (ssd z k) = true))), (13, .int (nI (wrF (sL z) (kM z) (scd z k) (sdl z k) (swd z k) (ssd z k)))), (14, .int (fnF (fun w => hearF (sL z) (kM z) (scd z k) (w * sL z + sdl z k)) (ssd z k))), (12, .int (nI (ssd z k))), (7, .int (nI (sumN (ssr z) (k + 1)))), (6, .int (nI (sn z))), (5, .int (nI (sL z))), (4, .int x), (3, .int (nI tt)), (2, .ref (b 0)), (1, .ref (ad 0)), (0, .ref (gB g))]) hx hb dL_law_397 hl (k := 8) rfl (nI_1 _) (by decide) rfl (fun ls hl => ?_)
                          refine lv_goto (tgt := 81) hx hb dL_law_400 (by decide) ?_
                          exact ih_81 (k + 1)  (by omega) (by omega)  _ _ hP hD hS hE _ (lv_sub hl [0, 1, 2, 3, 9, 10, 11, 12, 13, 14, 15, 16] rfl)
                        · exact absurd (show endF (sL z) (ssd z k) (sdl z k) = 0 by unfold endF; rw [if_pos c_z]) c_169
                · have hw_ := (hV.2.2.1 k c_k).2.2.2.2 j c_w
                  have hX_ := bd_hear hV (scd z k) (j * sL z + sdl z k)
                  refine lv_aload_n hx hb dL_law_149 rfl (lv_at hl 15 rfl) ?_
                  refine lv_iload hx hb dL_law_150 (lv_at hl 5 rfl) ?_
                  refine lv_iload hx hb dL_law_152 (lv_at hl 0 rfl) ?_
                  refine lv_iconst (v := nI 0) hx hb dL_law_154 (by decide) ?_
                  refine q_roV (As := [.int (nI k), .int (nI j), .int (nI 0)]) (rest := []) ⟨hx, hb, hml, hown, hts⟩ (k_word0 hI (k := k) (w := j) c_k c_w) (cwV 3 hts gL_law_X3_word rfl rfl rfl (by decide +kernel) ⟨Nat.le_of_ble_eq_true rfl, Nat.le_of_ble_eq_true rfl⟩) hE (fun q h => hA q (Nat.le_trans hS.1 h)) (q_snd hP) (va_recv hE.K (q_snd hP) (ci := 4) (q0 := 0) rfl rfl) rfl hl.1 rfl (Nat.le_of_ble_eq_true rfl) dL_law_155 ⟨by show _ ≤ 1200130; omega, by show _ ≤ 5501080; omega⟩ ?_
                  refine lv_istore (lv' := [(17, .int (swd z k j)), (16, .int (nI j)), (15, .int (bI (lsB (fun w => hearF (sL z) (kM z) (scd z k) (w * sL z + sdl z k)) (fnF (fun w => hearF (sL z) (kM z) (scd z k) (w * sL z + sdl z k)) (ssd z k)) (ssd z k) j = true))), (13, .int (nI (wrF (sL z) (kM z) (scd z k) (sdl z k) (swd z k) j))), (14, .int (fnF (fun w => hearF (sL z) (kM z) (scd z k) (w * sL z + sdl z k)) (ssd z k))), (12, .int (nI (ssd z k))), (11, .int (nI k)), (10, .int (nI (endA z k))), (9, .int (nI (allW z (kM z) k))), (8, .int (nI (sumN (ssd z) k))), (7, .int (nI (sumN (ssr z) (k + 1)))), (6, .int (nI (sn z))), (5, .int (nI (sL z))), (4, .int x), (3, .int (nI tt)), (2, .ref (b 0)), (1, .ref (ad 0)), (0, .ref (gB g))]) hx hb dL_law_158 hl (by decide) rfl (fun ls hl => ?_)
                  refine lv_aload_n hx hb dL_law_160 rfl (lv_at hl 16 rfl) ?_
                  refine lv_iload hx hb dL_law_161 (lv_at hl 6 rfl) ?_
                  refine lv_iload hx hb dL_law_163 (lv_at hl 1 rfl) ?_
                  refine lv_iconst (v := nI 1) hx hb dL_law_165 (by decide) ?_
                  refine q_roV (As := [.int (nI k), .int (nI j), .int (nI 1)]) (rest := []) ⟨hx, hb, hml, hown, hts⟩ (k_word1 hI (k := k) (w := j) c_k c_w) (cwV 3 hts gL_law_X3_word rfl rfl rfl (by decide +kernel) ⟨Nat.le_of_ble_eq_true rfl, Nat.le_of_ble_eq_true rfl⟩) hE (fun q h => hA q (Nat.le_trans hS.1 h)) (q_snd hP) (va_recv hE.K (q_snd hP) (ci := 4) (q0 := 0) rfl rfl) rfl hl.1 rfl (Nat.le_of_ble_eq_true rfl) dL_law_166 ⟨by show _ ≤ 1200130; omega, by show _ ≤ 5501080; omega⟩ ?_
                  refine lv_istore (lv' := [(18, .int (hearF (sL z) (kM z) (scd z k) (j * sL z + sdl z k))), (17, .int (swd z k j)), (16, .int (nI j)), (15, .int (bI (lsB (fun w => hearF (sL z) (kM z) (scd z k) (w * sL z + sdl z k)) (fnF (fun w => hearF (sL z) (kM z) (scd z k) (w * sL z + sdl z k)) (ssd z k)) (ssd z k) j = true))), (13, .int (nI (wrF (sL z) (kM z) (scd z k) (sdl z k) (swd z k) j))), (14, .int (fnF (fun w => hearF (sL z) (kM z) (scd z k) (w * sL z + sdl z k)) (ssd z k))), (12, .int (nI (ssd z k))), (11, .int (nI k)), (10, .int (nI (endA z k))), (9, .int (nI (allW z (kM z) k))), (8, .int (nI (sumN (ssd z) k))), (7, .int (nI (sumN (ssr z) (k + 1)))), (6, .int (nI (sn z))), (5, .int (nI (sL z))), (4, .int x), (3, .int (nI tt)), (2, .ref (b 0)), (1, .ref (ad 0)), (0, .ref (gB g))]) hx hb dL_law_169 hl (by decide) rfl (fun ls hl => ?_)
                  refine lv_iload hx hb dL_law_171 (lv_at hl 4 rfl) ?_
                  refine lv_aload_n hx hb dL_law_173 rfl (lv_at hl 17 rfl) ?_
                  refine lv_iload hx hb dL_law_174 (lv_at hl 7 rfl) ?_
                  refine lv_iload hx hb dL_law_176 (lv_at hl 2 rfl) ?_
                  refine lv_iconst (v := nI 2) hx hb dL_law_178 (by decide) ?_
                  refine q_roV (As := [.int (nI k), .int (nI j), .int (nI 2)]) (rest := [.int (nI (wrF (sL z) (kM z) (scd z k) (sdl z k) (swd z k) j))]) ⟨hx, hb, hml, hown, hts⟩ (k_word2 hI (k := k) (w := j) c_k c_w) (cwV 3 hts gL_law_X3_word rfl rfl rfl (by decide +kernel) ⟨Nat.le_of_ble_eq_true rfl, Nat.le_of_ble_eq_true rfl⟩) hE (fun q h => hA q (Nat.le_trans hS.1 h)) (q_snd hP) (va_recv hE.K (q_snd hP) (ci := 4) (q0 := 0) rfl rfl) rfl hl.1 rfl (Nat.le_of_ble_eq_true rfl) dL_law_179 ⟨by show _ ≤ 1200130; omega, by show _ ≤ 5501080; omega⟩ ?_
                  refine q_iadd (v := nI (wrF (sL z) (kM z) (scd z k) (sdl z k) (swd z k) (j + 1))) hx hb dL_law_182 (nI_add _ _) ?_
                  refine lv_istore (lv' := [(13, .int (nI (wrF (sL z) (kM z) (scd z k) (sdl z k) (swd z k) (j + 1)))), (18, .int (hearF (sL z) (kM z) (scd z k) (j * sL z + sdl z k))), (17, .int (swd z k j)), (16, .int (nI j)), (15, .int (bI (lsB (fun w => hearF (sL z) (kM z) (scd z k) (w * sL z + sdl z k)) (fnF (fun w => hearF (sL z) (kM z) (scd z k) (w * sL z + sdl z k)) (ssd z k)) (ssd z k) j = true))), (14, .int (fnF (fun w => hearF (sL z) (kM z) (scd z k) (w * sL z + sdl z k)) (ssd z k))), (12, .int (nI (ssd z k))), (11, .int (nI k)), (10, .int (nI (endA z k))), (9, .int (nI (allW z (kM z) k))), (8, .int (nI (sumN (ssd z) k))), (7, .int (nI (sumN (ssr z) (k + 1)))), (6, .int (nI (sn z))), (5, .int (nI (sL z))), (4, .int x), (3, .int (nI tt)), (2, .ref (b 0)), (1, .ref (ad 0)), (0, .ref (gB g))]) hx hb dL_law_183 hl (by decide) rfl (fun ls hl => ?_)
                  refine lv_iload hx hb dL_law_185 (lv_at hl 2 rfl) ?_
                  refine lv_iconst (v := nI 1) hx hb dL_law_187 (by decide) ?_
                  refine lv_icmp_eq (tgt := 197) hx hb dL_law_188 (by decide) (fun c_1 => ?_) (fun c_1 => ?_)
                  · refine lv_aload_n hx hb dL_law_197 rfl (lv_at hl 17 rfl) ?_
                    refine lv_iload hx hb dL_law_198 (lv_at hl 7 rfl) ?_
                    refine lv_iload hx hb dL_law_200 (lv_at hl 3 rfl) ?_
                    refine lv_iconst (v := nI 2) hx hb dL_law_202 (by decide) ?_
                    refine q_roV (As := [.int (nI k), .int (nI j), .int (nI 2)]) (rest := []) ⟨hx, hb, hml, hown, hts⟩ (k_word2 hI (k := k) (w := j) c_k c_w) (cwV 3 hts gL_law_X3_word rfl rfl rfl (by decide +kernel) ⟨Nat.le_of_ble_eq_true rfl, Nat.le_of_ble_eq_true rfl⟩) hE (fun q h => hA q (Nat.le_trans hS.1 h)) (q_snd hP) (va_recv hE.K (q_snd hP) (ci := 4) (q0 := 0) rfl rfl) rfl hl.1 rfl (Nat.le_of_ble_eq_true rfl) dL_law_203 ⟨by show _ ≤ 1200130; omega, by show _ ≤ 5501080; omega⟩ ?_
                    refine lv_iconst (v := nI 1) hx hb dL_law_206 (by decide) ?_
                    refine q_icmp_ne (tgt := 214) hx hb (by have := wrC_le (hearF (sL z) (kM z) (scd z k) (j * sL z + sdl z k)) (swd z k j); omega) (by omega) dL_law_207 (by decide) (fun c_3 => ?_) (fun c_3 => ?_)
                    · refine lv_iconst (v := nI 0) hx hb dL_law_214 (by decide) ?_
                      refine lv_iload hx hb dL_law_215 (lv_at hl 1 rfl) ?_
                      refine lv_if_eq (tgt := 243) hx hb dL_law_217 (by decide) (fun c_x => ?_) (fun c_x => ?_)
                      · refine lv_iconst (v := nI 1) hx hb dL_law_243 (by decide) ?_
                        refine lv_goto (tgt := 248) hx hb dL_law_244 (by decide) ?_
                        refine q_icmp_ne (tgt := 290) hx hb (by omega) (by omega) dL_law_248 (by decide) (fun c_170 => ?_) (fun c_170 => ?_)
                        · exact (wr_a hX_ hw_ c_3 c_x).elim
                        · exact absurd c_170 (by decide)
                      · refine lv_iload hx hb dL_law_220 (lv_at hl 1 rfl) ?_
                        refine lv_if_le (tgt := 229) hx hb dL_law_222 (by decide) (fun c_p => ?_) (fun c_p => ?_)
                        · refine lv_iconst (v := nI 0) hx hb dL_law_229 (by decide) ?_
                          refine lv_iload hx hb dL_law_230 (lv_at hl 2 rfl) ?_
                          refine lv_if_le (tgt := 239) hx hb dL_law_232 (by decide) (fun c_q => ?_) (fun c_q => ?_)
                          · refine lv_iconst (v := nI 0) hx hb dL_law_239 (by decide) ?_
                            refine q_icmp_eq (tgt := 247) hx hb (by omega) (by omega) dL_law_240 (by decide) (fun c_171 => ?_) (fun c_171 => ?_)
                            · refine lv_iconst (v := nI 0) hx hb dL_law_247 (by decide) ?_
                              refine q_icmp_ne (tgt := 290) hx hb (by omega) (by omega) dL_law_248 (by decide) (fun c_172 => ?_) (fun c_172 => ?_)
                              · exact absurd rfl c_172
                              · refine lv_iload hx hb dL_law_251 (lv_at hl 1 rfl) ?_
                                refine lv_aload_n hx hb dL_law_253 rfl (lv_at hl 17 rfl) ?_
                                refine lv_aload_n hx hb dL_law_254 rfl (lv_at hl 17 rfl) ?_
                                refine lv_iload hx hb dL_law_255 (lv_at hl 7 rfl) ?_
                                refine lv_iconst (v := nI 0) hx hb dL_law_257 (by decide) ?_
                                refine q_roV (As := [.int (nI k), .int (nI 0)]) (rest := [.ref (ad 0), .int (hearF (sL z) (kM z) (scd z k) (j * sL z + sdl z k))]) ⟨hx, hb, hml, hown, hts⟩ (k_about0 hI c_k) (cwV 2 hts gL_law_X3_about rfl rfl rfl (by decide +kernel) ⟨Nat.le_of_ble_eq_true rfl, Nat.le_of_ble_eq_true rfl⟩) hE (fun q h => hA q (Nat.le_trans hS.1 h)) (q_snd hP) (va_recv hE.K (q_snd hP) (ci := 4) (q0 := 0) rfl rfl) rfl hl.1 rfl (Nat.le_of_ble_eq_true rfl) dL_law_258 ⟨by show _ ≤ 1200130; omega, by show _ ≤ 5501080; omega⟩ ?_
                                refine lv_aload_n hx hb dL_law_261 rfl (lv_at hl 17 rfl) ?_
                                refine lv_iload hx hb dL_law_262 (lv_at hl 7 rfl) ?_
                                refine lv_iconst (v := nI 2) hx hb dL_law_264 (by decide) ?_
                                refine q_roV (As := [.int (nI k), .int (nI 2)]) (rest := [.int (nI (scd z k)), .ref (ad 0), .int (hearF (sL z) (kM z) (scd z k) (j * sL z + sdl z k))]) ⟨hx, hb, hml, hown, hts⟩ (k_about2 hI c_k) (cwV 2 hts gL_law_X3_about rfl rfl rfl (by decide +kernel) ⟨Nat.le_of_ble_eq_true rfl, Nat.le_of_ble_eq_true rfl⟩) hE (fun q h => hA q (Nat.le_trans hS.1 h)) (q_snd hP) (va_recv hE.K (q_snd hP) (ci := 4) (q0 := 0) rfl rfl) rfl hl.1 rfl (Nat.le_of_ble_eq_true rfl) dL_law_265 ⟨by show _ ≤ 1200130; omega, by show _ ≤ 5501080; omega⟩ ?_
                                refine lv_iload hx hb dL_law_268 (lv_at hl 13 rfl) ?_
                                refine lv_iload hx hb dL_law_270 (lv_at hl 3 rfl) ?_
                                refine q_imul (v := nI ((sL z) * j)) hx hb dL_law_272 (pk_mul _ _) ?_
                                refine q_iadd (v := nI (j * sL z + sdl z k)) hx hb dL_law_273 (by rw [nI_add, Nat.add_comm, Nat.mul_comm]) ?_
                                refine q_roV (As := [.int (nI (scd z k)), .int (nI (j * sL z + sdl z k))]) (rest := [.int (hearF (sL z) (kM z) (scd z k) (j * sL z + sdl z k))]) ⟨hx, hb, hml, hown, hts⟩ (k_hear hI (a := scd z k) (t := j * sL z + sdl z k) hd_.1 (by have := mul16 (a := j) hL.2; omega)) (cwV 2 hts gL_law_X3_hear rfl rfl rfl (by decide +kernel) ⟨Nat.le_of_ble_eq_true rfl, Nat.le_of_ble_eq_true rfl⟩) hE (fun q h => hA q (Nat.le_trans hS.1 h)) (q_snd hP) (va_recv hE.K (q_snd hP) (ci := 4) (q0 := 0) rfl rfl) rfl hl.1 rfl (Nat.le_of_ble_eq_true rfl) dL_law_274 ⟨by show _ ≤ 1200130; omega, by show _ ≤ 5501080; omega⟩ ?_
                                refine lv_icmp_ne (tgt := 290) hx hb dL_law_277 (by decide) (fun c_173 => ?_) (fun c_173 => ?_)
                                · exact absurd rfl c_173
                                · refine lv_iload hx hb dL_law_280 (lv_at hl 1 rfl) ?_
                                  refine q_mabs (v := ab (hearF (sL z) (kM z) (scd z k) (j * sL z + sdl z k))) hx hb (hml.trans hl.1.symm) hown (hts _ (List.mem_of_getElem? (i := 3) rfl)) (hts _ (List.mem_of_getElem? (i := 4) rfl)) (hts _ (List.mem_of_getElem? (i := 5) rfl)) (hts _ (List.mem_of_getElem? (i := 6) rfl)) (Nat.le_of_ble_eq_true rfl) (Nat.le_of_ble_eq_true rfl) (by show _ ≤ 1200130; omega) (by show _ ≤ 5501080; omega) dL_law_282 rfl ?_
                                  refine lv_iload hx hb dL_law_285 (lv_at hl 5 rfl) ?_
                                  refine lv_icmp_ge (tgt := 292) hx hb dL_law_287 (by decide) (fun c_174 => ?_) (fun c_174 => ?_)
                                  · refine lv_iload hx hb dL_law_292 (lv_at hl 4 rfl) ?_
                                    refine lv_iload hx hb dL_law_294 (lv_at hl 1 rfl) ?_
                                    refine q_mabs (v := ab (hearF (sL z) (kM z) (scd z k) (j * sL z + sdl z k))) hx hb (hml.trans hl.1.symm) hown (hts _ (List.mem_of_getElem? (i := 3) rfl)) (hts _ (List.mem_of_getElem? (i := 4) rfl)) (hts _ (List.mem_of_getElem? (i := 5) rfl)) (hts _ (List.mem_of_getElem? (i := 6) rfl)) (Nat.le_of_ble_eq_true rfl) (Nat.le_of_ble_eq_true rfl) (by show _ ≤ 1200130; omega) (by show _ ≤ 5501080; omega) dL_law_296 rfl ?_
                                    refine lv_iload hx hb dL_law_299 (lv_at hl 5 rfl) ?_
                                    refine lv_icmp_ne (tgt := 308) hx hb dL_law_301 (by decide) (fun c_l => ?_) (fun c_l => ?_)
                                    · refine lv_iconst (v := nI 0) hx hb dL_law_308 (by decide) ?_
                                      refine q_ior (v := bI (lsB (fun w => hearF (sL z) (kM z) (scd z k) (w * sL z + sdl z k)) (fnF (fun w => hearF (sL z) (kM z) (scd z k) (w * sL z + sdl z k)) (ssd z k)) (ssd z k) (j + 1) = true)) hx hb dL_law_309 ((congrArg (fun q => bI (lsB (fun w => hearF (sL z) (kM z) (scd z k) (w * sL z + sdl z k)) (fnF (fun w => hearF (sL z) (kM z) (scd z k) (w * sL z + sdl z k)) (ssd z k)) (ssd z k) j = true) ||| q) (show nI 0 = bI (ab (hearF (sL z) (kM z) (scd z k) (j * sL z + sdl z k)) = fnF (fun w => hearF (sL z) (kM z) (scd z k) (w * sL z + sdl z k)) (ssd z k)) from (bI_f c_l))).trans (lsB_s (x := (fun w => hearF (sL z) (kM z) (scd z k) (w * sL z + sdl z k))))) ?_
                                      refine lv_istore (lv' := [(15, .int (bI (lsB (fun w => hearF (sL z) (kM z) (scd z k) (w * sL z + sdl z k)) (fnF (fun w => hearF (sL z) (kM z) (scd z k) (w * sL z + sdl z k)) (ssd z k)) (ssd z k) (j + 1) = true))), (13, .int (nI (wrF (sL z) (kM z) (scd z k) (sdl z k) (swd z k) (j + 1)))), (18, .int (hearF (sL z) (kM z) (scd z k) (j * sL z + sdl z k))), (17, .int (swd z k j)), (16, .int (nI j)), (14, .int (fnF (fun w => hearF (sL z) (kM z) (scd z k) (w * sL z + sdl z k)) (ssd z k))), (12, .int (nI (ssd z k))), (11, .int (nI k)), (10, .int (nI (endA z k))), (9, .int (nI (allW z (kM z) k))), (8, .int (nI (sumN (ssd z) k))), (7, .int (nI (sumN (ssr z) (k + 1)))), (6, .int (nI (sn z))), (5, .int (nI (sL z))), (4, .int x), (3, .int (nI tt)), (2, .ref (b 0)), (1, .ref (ad 0)), (0, .ref (gB g))]) hx hb dL_law_310 hl (by decide) rfl (fun ls hl => ?_)
                                      refine lv_iinc (v := nI (j + 1)) (lv' := [(16, .int (nI (j + 1))), (15, .int (bI (lsB (fun w => hearF (sL z) (kM z) (scd z k) (w * sL z + sdl z k)) (fnF (fun w => hearF (sL z) (kM z) (scd z k) (w * sL z + sdl z k)) (ssd z k)) (ssd z k) (j + 1) = true))), (13, .int (nI (wrF (sL z) (kM z) (scd z k) (sdl z k) (swd z k) (j + 1)))), (18, .int (hearF (sL z) (kM z) (scd z k) (j * sL z + sdl z k))), (17, .int (swd z k j)), (14, .int (fnF (fun w => hearF (sL z) (kM z) (scd z k) (w * sL z + sdl z k)) (ssd z k))), (12, .int (nI (ssd z k))), (11, .int (nI k)), (10, .int (nI (endA z k))), (9, .int (nI (allW z (kM z) k))), (8, .int (nI (sumN (ssd z) k))), (7, .int (nI (sumN (ssr z) (k + 1)))), (6, .int (nI (sn z))), (5, .int (nI (sL z))), (4, .int x), (3, .int (nI tt)), (2, .ref (b 0)), (1, .ref (ad 0)), (0, .ref (gB g))]) hx hb dL_law_312 hl (k := 4) rfl (nI_1 _) (by decide) rfl (fun ls hl => ?_)
                                      refine lv_goto (tgt := 142) hx hb dL_law_315 (by decide) ?_
                                      exact ih_142 (j + 1)  (by omega) (by omega)  _ _ hP hD hS hE _ (lv_sub hl [0, 1, 2, 5, 6, 7, 8, 9, 10, 11, 12, 13, 14, 15, 16, 17, 18] rfl)
                                    · refine lv_iconst (v := nI 1) hx hb dL_law_304 (by decide) ?_
                                      refine lv_goto (tgt := 309) hx hb dL_law_305 (by decide) ?_
                                      refine q_ior (v := bI (lsB (fun w => hearF (sL z) (kM z) (scd z k) (w * sL z + sdl z k)) (fnF (fun w => hearF (sL z) (kM z) (scd z k) (w * sL z + sdl z k)) (ssd z k)) (ssd z k) (j + 1) = true)) hx hb dL_law_309 ((congrArg (fun q => bI (lsB (fun w => hearF (sL z) (kM z) (scd z k) (w * sL z + sdl z k)) (fnF (fun w => hearF (sL z) (kM z) (scd z k) (w * sL z + sdl z k)) (ssd z k)) (ssd z k) j = true) ||| q) (show nI 1 = bI (ab (hearF (sL z) (kM z) (scd z k) (j * sL z + sdl z k)) = fnF (fun w => hearF (sL z) (kM z) (scd z k) (w * sL z + sdl z k)) (ssd z k)) from (bI_t c_l))).trans (lsB_s (x := (fun w => hearF (sL z) (kM z) (scd z k) (w * sL z + sdl z k))))) ?_
                                      refine lv_istore (lv' := [(15, .int (bI (lsB (fun w => hearF (sL z) (kM z) (scd z k) (w * sL z + sdl z k)) (fnF (fun w => hearF (sL z) (kM z) (scd z k) (w * sL z + sdl z k)) (ssd z k)) (ssd z k) (j + 1) = true))), (13, .int (nI (wrF (sL z) (kM z) (scd z k) (sdl z k) (swd z k) (j + 1)))), (18, .int (hearF (sL z) (kM z) (scd z k) (j * sL z + sdl z k))), (17, .int (swd z k j)), (16, .int (nI j)), (14, .int (fnF (fun w => hearF (sL z) (kM z) (scd z k) (w * sL z + sdl z k)) (ssd z k))), (12, .int (nI (ssd z k))), (11, .int (nI k)), (10, .int (nI (endA z k))), (9, .int (nI (allW z (kM z) k))), (8, .int (nI (sumN (ssd z) k))), (7, .int (nI (sumN (ssr z) (k + 1)))), (6, .int (nI (sn z))), (5, .int (nI (sL z))), (4, .int x), (3, .int (nI tt)), (2, .ref (b 0)), (1, .ref (ad 0)), (0, .ref (gB g))]) hx hb dL_law_310 hl (by decide) rfl (fun ls hl => ?_)
                                      refine lv_iinc (v := nI (j + 1)) (lv' := [(16, .int (nI (j + 1))), (15, .int (bI (lsB (fun w => hearF (sL z) (kM z) (scd z k) (w * sL z + sdl z k)) (fnF (fun w => hearF (sL z) (kM z) (scd z k) (w * sL z + sdl z k)) (ssd z k)) (ssd z k) (j + 1) = true))), (13, .int (nI (wrF (sL z) (kM z) (scd z k) (sdl z k) (swd z k) (j + 1)))), (18, .int (hearF (sL z) (kM z) (scd z k) (j * sL z + sdl z k))), (17, .int (swd z k j)), (14, .int (fnF (fun w => hearF (sL z) (kM z) (scd z k) (w * sL z + sdl z k)) (ssd z k))), (12, .int (nI (ssd z k))), (11, .int (nI k)), (10, .int (nI (endA z k))), (9, .int (nI (allW z (kM z) k))), (8, .int (nI (sumN (ssd z) k))), (7, .int (nI (sumN (ssr z) (k + 1)))), (6, .int (nI (sn z))), (5, .int (nI (sL z))), (4, .int x), (3, .int (nI tt)), (2, .ref (b 0)), (1, .ref (ad 0)), (0, .ref (gB g))]) hx hb dL_law_312 hl (k := 4) rfl (nI_1 _) (by decide) rfl (fun ls hl => ?_)
                                      refine lv_goto (tgt := 142) hx hb dL_law_315 (by decide) ?_
                                      exact ih_142 (j + 1)  (by omega) (by omega)  _ _ hP hD hS hE _ (lv_sub hl [0, 1, 2, 5, 6, 7, 8, 9, 10, 11, 12, 13, 14, 15, 16, 17, 18] rfl)
                                  · exact absurd (fnF_le (x := (fun w => hearF (sL z) (kM z) (scd z k) (w * sL z + sdl z k))) c_w) c_174
                            · exact absurd rfl c_171
                          · refine lv_iconst (v := nI 1) hx hb dL_law_235 (by decide) ?_
                            refine lv_goto (tgt := 240) hx hb dL_law_236 (by decide) ?_
                            refine q_icmp_eq (tgt := 247) hx hb (by omega) (by omega) dL_law_240 (by decide) (fun c_175 => ?_) (fun c_175 => ?_)
                            · exact absurd c_175 (by decide)
                            · refine lv_iconst (v := nI 1) hx hb dL_law_243 (by decide) ?_
                              refine lv_goto (tgt := 248) hx hb dL_law_244 (by decide) ?_
                              refine q_icmp_ne (tgt := 290) hx hb (by omega) (by omega) dL_law_248 (by decide) (fun c_176 => ?_) (fun c_176 => ?_)
                              · exact (wr_c hX_ hw_ c_3 c_p c_q).elim
                              · exact absurd c_176 (by decide)
                        · refine lv_iconst (v := nI 1) hx hb dL_law_225 (by decide) ?_
                          refine lv_goto (tgt := 230) hx hb dL_law_226 (by decide) ?_
                          refine lv_iload hx hb dL_law_230 (lv_at hl 2 rfl) ?_
                          refine lv_if_le (tgt := 239) hx hb dL_law_232 (by decide) (fun c_q => ?_) (fun c_q => ?_)
                          · refine lv_iconst (v := nI 0) hx hb dL_law_239 (by decide) ?_
                            refine q_icmp_eq (tgt := 247) hx hb (by omega) (by omega) dL_law_240 (by decide) (fun c_177 => ?_) (fun c_177 => ?_)
                            · exact absurd c_177 (by decide)
                            · refine lv_iconst (v := nI 1) hx hb dL_law_243 (by decide) ?_
                              refine lv_goto (tgt := 248) hx hb dL_law_244 (by decide) ?_
                              refine q_icmp_ne (tgt := 290) hx hb (by omega) (by omega) dL_law_248 (by decide) (fun c_178 => ?_) (fun c_178 => ?_)
                              · exact (wr_b hX_ hw_ c_3 c_p c_q).elim
                              · exact absurd c_178 (by decide)
                          · refine lv_iconst (v := nI 1) hx hb dL_law_235 (by decide) ?_
                            refine lv_goto (tgt := 240) hx hb dL_law_236 (by decide) ?_
                            refine q_icmp_eq (tgt := 247) hx hb (by omega) (by omega) dL_law_240 (by decide) (fun c_179 => ?_) (fun c_179 => ?_)
                            · refine lv_iconst (v := nI 0) hx hb dL_law_247 (by decide) ?_
                              refine q_icmp_ne (tgt := 290) hx hb (by omega) (by omega) dL_law_248 (by decide) (fun c_180 => ?_) (fun c_180 => ?_)
                              · exact absurd rfl c_180
                              · refine lv_iload hx hb dL_law_251 (lv_at hl 1 rfl) ?_
                                refine lv_aload_n hx hb dL_law_253 rfl (lv_at hl 17 rfl) ?_
                                refine lv_aload_n hx hb dL_law_254 rfl (lv_at hl 17 rfl) ?_
                                refine lv_iload hx hb dL_law_255 (lv_at hl 7 rfl) ?_
                                refine lv_iconst (v := nI 0) hx hb dL_law_257 (by decide) ?_
                                refine q_roV (As := [.int (nI k), .int (nI 0)]) (rest := [.ref (ad 0), .int (hearF (sL z) (kM z) (scd z k) (j * sL z + sdl z k))]) ⟨hx, hb, hml, hown, hts⟩ (k_about0 hI c_k) (cwV 2 hts gL_law_X3_about rfl rfl rfl (by decide +kernel) ⟨Nat.le_of_ble_eq_true rfl, Nat.le_of_ble_eq_true rfl⟩) hE (fun q h => hA q (Nat.le_trans hS.1 h)) (q_snd hP) (va_recv hE.K (q_snd hP) (ci := 4) (q0 := 0) rfl rfl) rfl hl.1 rfl (Nat.le_of_ble_eq_true rfl) dL_law_258 ⟨by show _ ≤ 1200130; omega, by show _ ≤ 5501080; omega⟩ ?_
                                refine lv_aload_n hx hb dL_law_261 rfl (lv_at hl 17 rfl) ?_
                                refine lv_iload hx hb dL_law_262 (lv_at hl 7 rfl) ?_
                                refine lv_iconst (v := nI 2) hx hb dL_law_264 (by decide) ?_
                                refine q_roV (As := [.int (nI k), .int (nI 2)]) (rest := [.int (nI (scd z k)), .ref (ad 0), .int (hearF (sL z) (kM z) (scd z k) (j * sL z + sdl z k))]) ⟨hx, hb, hml, hown, hts⟩ (k_about2 hI c_k) (cwV 2 hts gL_law_X3_about rfl rfl rfl (by decide +kernel) ⟨Nat.le_of_ble_eq_true rfl, Nat.le_of_ble_eq_true rfl⟩) hE (fun q h => hA q (Nat.le_trans hS.1 h)) (q_snd hP) (va_recv hE.K (q_snd hP) (ci := 4) (q0 := 0) rfl rfl) rfl hl.1 rfl (Nat.le_of_ble_eq_true rfl) dL_law_265 ⟨by show _ ≤ 1200130; omega, by show _ ≤ 5501080; omega⟩ ?_
                                refine lv_iload hx hb dL_law_268 (lv_at hl 13 rfl) ?_
                                refine lv_iload hx hb dL_law_270 (lv_at hl 3 rfl) ?_
                                refine q_imul (v := nI ((sL z) * j)) hx hb dL_law_272 (pk_mul _ _) ?_
                                refine q_iadd (v := nI (j * sL z + sdl z k)) hx hb dL_law_273 (by rw [nI_add, Nat.add_comm, Nat.mul_comm]) ?_
                                refine q_roV (As := [.int (nI (scd z k)), .int (nI (j * sL z + sdl z k))]) (rest := [.int (hearF (sL z) (kM z) (scd z k) (j * sL z + sdl z k))]) ⟨hx, hb, hml, hown, hts⟩ (k_hear hI (a := scd z k) (t := j * sL z + sdl z k) hd_.1 (by have := mul16 (a := j) hL.2; omega)) (cwV 2 hts gL_law_X3_hear rfl rfl rfl (by decide +kernel) ⟨Nat.le_of_ble_eq_true rfl, Nat.le_of_ble_eq_true rfl⟩) hE (fun q h => hA q (Nat.le_trans hS.1 h)) (q_snd hP) (va_recv hE.K (q_snd hP) (ci := 4) (q0 := 0) rfl rfl) rfl hl.1 rfl (Nat.le_of_ble_eq_true rfl) dL_law_274 ⟨by show _ ≤ 1200130; omega, by show _ ≤ 5501080; omega⟩ ?_
                                refine lv_icmp_ne (tgt := 290) hx hb dL_law_277 (by decide) (fun c_181 => ?_) (fun c_181 => ?_)
                                · exact absurd rfl c_181
                                · refine lv_iload hx hb dL_law_280 (lv_at hl 1 rfl) ?_
                                  refine q_mabs (v := ab (hearF (sL z) (kM z) (scd z k) (j * sL z + sdl z k))) hx hb (hml.trans hl.1.symm) hown (hts _ (List.mem_of_getElem? (i := 3) rfl)) (hts _ (List.mem_of_getElem? (i := 4) rfl)) (hts _ (List.mem_of_getElem? (i := 5) rfl)) (hts _ (List.mem_of_getElem? (i := 6) rfl)) (Nat.le_of_ble_eq_true rfl) (Nat.le_of_ble_eq_true rfl) (by show _ ≤ 1200130; omega) (by show _ ≤ 5501080; omega) dL_law_282 rfl ?_
                                  refine lv_iload hx hb dL_law_285 (lv_at hl 5 rfl) ?_
                                  refine lv_icmp_ge (tgt := 292) hx hb dL_law_287 (by decide) (fun c_182 => ?_) (fun c_182 => ?_)
                                  · refine lv_iload hx hb dL_law_292 (lv_at hl 4 rfl) ?_
                                    refine lv_iload hx hb dL_law_294 (lv_at hl 1 rfl) ?_
                                    refine q_mabs (v := ab (hearF (sL z) (kM z) (scd z k) (j * sL z + sdl z k))) hx hb (hml.trans hl.1.symm) hown (hts _ (List.mem_of_getElem? (i := 3) rfl)) (hts _ (List.mem_of_getElem? (i := 4) rfl)) (hts _ (List.mem_of_getElem? (i := 5) rfl)) (hts _ (List.mem_of_getElem? (i := 6) rfl)) (Nat.le_of_ble_eq_true rfl) (Nat.le_of_ble_eq_true rfl) (by show _ ≤ 1200130; omega) (by show _ ≤ 5501080; omega) dL_law_296 rfl ?_
                                    refine lv_iload hx hb dL_law_299 (lv_at hl 5 rfl) ?_
                                    refine lv_icmp_ne (tgt := 308) hx hb dL_law_301 (by decide) (fun c_l => ?_) (fun c_l => ?_)
                                    · refine lv_iconst (v := nI 0) hx hb dL_law_308 (by decide) ?_
                                      refine q_ior (v := bI (lsB (fun w => hearF (sL z) (kM z) (scd z k) (w * sL z + sdl z k)) (fnF (fun w => hearF (sL z) (kM z) (scd z k) (w * sL z + sdl z k)) (ssd z k)) (ssd z k) (j + 1) = true)) hx hb dL_law_309 ((congrArg (fun q => bI (lsB (fun w => hearF (sL z) (kM z) (scd z k) (w * sL z + sdl z k)) (fnF (fun w => hearF (sL z) (kM z) (scd z k) (w * sL z + sdl z k)) (ssd z k)) (ssd z k) j = true) ||| q) (show nI 0 = bI (ab (hearF (sL z) (kM z) (scd z k) (j * sL z + sdl z k)) = fnF (fun w => hearF (sL z) (kM z) (scd z k) (w * sL z + sdl z k)) (ssd z k)) from (bI_f c_l))).trans (lsB_s (x := (fun w => hearF (sL z) (kM z) (scd z k) (w * sL z + sdl z k))))) ?_
                                      refine lv_istore (lv' := [(15, .int (bI (lsB (fun w => hearF (sL z) (kM z) (scd z k) (w * sL z + sdl z k)) (fnF (fun w => hearF (sL z) (kM z) (scd z k) (w * sL z + sdl z k)) (ssd z k)) (ssd z k) (j + 1) = true))), (13, .int (nI (wrF (sL z) (kM z) (scd z k) (sdl z k) (swd z k) (j + 1)))), (18, .int (hearF (sL z) (kM z) (scd z k) (j * sL z + sdl z k))), (17, .int (swd z k j)), (16, .int (nI j)), (14, .int (fnF (fun w => hearF (sL z) (kM z) (scd z k) (w * sL z + sdl z k)) (ssd z k))), (12, .int (nI (ssd z k))), (11, .int (nI k)), (10, .int (nI (endA z k))), (9, .int (nI (allW z (kM z) k))), (8, .int (nI (sumN (ssd z) k))), (7, .int (nI (sumN (ssr z) (k + 1)))), (6, .int (nI (sn z))), (5, .int (nI (sL z))), (4, .int x), (3, .int (nI tt)), (2, .ref (b 0)), (1, .ref (ad 0)), (0, .ref (gB g))]) hx hb dL_law_310 hl (by decide) rfl (fun ls hl => ?_)
                                      refine lv_iinc (v := nI (j + 1)) (lv' := [(16, .int (nI (j + 1))), (15, .int (bI (lsB (fun w => hearF (sL z) (kM z) (scd z k) (w * sL z + sdl z k)) (fnF (fun w => hearF (sL z) (kM z) (scd z k) (w * sL z + sdl z k)) (ssd z k)) (ssd z k) (j + 1) = true))), (13, .int (nI (wrF (sL z) (kM z) (scd z k) (sdl z k) (swd z k) (j + 1)))), (18, .int (hearF (sL z) (kM z) (scd z k) (j * sL z + sdl z k))), (17, .int (swd z k j)), (14, .int (fnF (fun w => hearF (sL z) (kM z) (scd z k) (w * sL z + sdl z k)) (ssd z k))), (12, .int (nI (ssd z k))), (11, .int (nI k)), (10, .int (nI (endA z k))), (9, .int (nI (allW z (kM z) k))), (8, .int (nI (sumN (ssd z) k))), (7, .int (nI (sumN (ssr z) (k + 1)))), (6, .int (nI (sn z))), (5, .int (nI (sL z))), (4, .int x), (3, .int (nI tt)), (2, .ref (b 0)), (1, .ref (ad 0)), (0, .ref (gB g))]) hx hb dL_law_312 hl (k := 4) rfl (nI_1 _) (by decide) rfl (fun ls hl => ?_)
                                      refine lv_goto (tgt := 142) hx hb dL_law_315 (by decide) ?_
                                      exact ih_142 (j + 1)  (by omega) (by omega)  _ _ hP hD hS hE _ (lv_sub hl [0, 1, 2, 5, 6, 7, 8, 9, 10, 11, 12, 13, 14, 15, 16, 17, 18] rfl)
                                    · refine lv_iconst (v := nI 1) hx hb dL_law_304 (by decide) ?_
                                      refine lv_goto (tgt := 309) hx hb dL_law_305 (by decide) ?_
                                      refine q_ior (v := bI (lsB (fun w => hearF (sL z) (kM z) (scd z k) (w * sL z + sdl z k)) (fnF (fun w => hearF (sL z) (kM z) (scd z k) (w * sL z + sdl z k)) (ssd z k)) (ssd z k) (j + 1) = true)) hx hb dL_law_309 ((congrArg (fun q => bI (lsB (fun w => hearF (sL z) (kM z) (scd z k) (w * sL z + sdl z k)) (fnF (fun w => hearF (sL z) (kM z) (scd z k) (w * sL z + sdl z k)) (ssd z k)) (ssd z k) j = true) ||| q) (show nI 1 = bI (ab (hearF (sL z) (kM z) (scd z k) (j * sL z + sdl z k)) = fnF (fun w => hearF (sL z) (kM z) (scd z k) (w * sL z + sdl z k)) (ssd z k)) from (bI_t c_l))).trans (lsB_s (x := (fun w => hearF (sL z) (kM z) (scd z k) (w * sL z + sdl z k))))) ?_
                                      refine lv_istore (lv' := [(15, .int (bI (lsB (fun w => hearF (sL z) (kM z) (scd z k) (w * sL z + sdl z k)) (fnF (fun w => hearF (sL z) (kM z) (scd z k) (w * sL z + sdl z k)) (ssd z k)) (ssd z k) (j + 1) = true))), (13, .int (nI (wrF (sL z) (kM z) (scd z k) (sdl z k) (swd z k) (j + 1)))), (18, .int (hearF (sL z) (kM z) (scd z k) (j * sL z + sdl z k))), (17, .int (swd z k j)), (16, .int (nI j)), (14, .int (fnF (fun w => hearF (sL z) (kM z) (scd z k) (w * sL z + sdl z k)) (ssd z k))), (12, .int (nI (ssd z k))), (11, .int (nI k)), (10, .int (nI (endA z k))), (9, .int (nI (allW z (kM z) k))), (8, .int (nI (sumN (ssd z) k))), (7, .int (nI (sumN (ssr z) (k + 1)))), (6, .int (nI (sn z))), (5, .int (nI (sL z))), (4, .int x), (3, .int (nI tt)), (2, .ref (b 0)), (1, .ref (ad 0)), (0, .ref (gB g))]) hx hb dL_law_310 hl (by decide) rfl (fun ls hl => ?_)
                                      refine lv_iinc (v := nI (j + 1)) (lv' := [(16, .int (nI (j + 1))), (15, .int (bI (lsB (fun w => hearF (sL z) (kM z) (scd z k) (w * sL z + sdl z k)) (fnF (fun w => hearF (sL z) (kM z) (scd z k) (w * sL z + sdl z k)) (ssd z k)) (ssd z k) (j + 1) = true))), (13, .int (nI (wrF (sL z) (kM z) (scd z k) (sdl z k) (swd z k) (j + 1)))), (18, .int (hearF (sL z) (kM z) (scd z k) (j * sL z + sdl z k))), (17, .int (swd z k j)), (14, .int (fnF (fun w => hearF (sL z) (kM z) (scd z k) (w * sL z + sdl z k)) (ssd z k))), (12, .int (nI (ssd z k))), (11, .int (nI k)), (10, .int (nI (endA z k))), (9, .int (nI (allW z (kM z) k))), (8, .int (nI (sumN (ssd z) k))), (7, .int (nI (sumN (ssr z) (k + 1)))), (6, .int (nI (sn z))), (5, .int (nI (sL z))), (4, .int x), (3, .int (nI tt)), (2, .ref (b 0)), (1, .ref (ad 0)), (0, .ref (gB g))]) hx hb dL_law_312 hl (k := 4) rfl (nI_1 _) (by decide) rfl (fun ls hl => ?_)
                                      refine lv_goto (tgt := 142) hx hb dL_law_315 (by decide) ?_
                                      exact ih_142 (j + 1)  (by omega) (by omega)  _ _ hP hD hS hE _ (lv_sub hl [0, 1, 2, 5, 6, 7, 8, 9, 10, 11, 12, 13, 14, 15, 16, 17, 18] rfl)
                                  · exact absurd (fnF_le (x := (fun w => hearF (sL z) (kM z) (scd z k) (w * sL z + sdl z k))) c_w) c_182
                            · exact absurd rfl c_179
                    · refine lv_iconst (v := nI 1) hx hb dL_law_210 (by decide) ?_
                      refine lv_goto (tgt := 215) hx hb dL_law_211 (by decide) ?_
                      refine lv_iload hx hb dL_law_215 (lv_at hl 1 rfl) ?_
                      refine lv_if_eq (tgt := 243) hx hb dL_law_217 (by decide) (fun c_x => ?_) (fun c_x => ?_)
                      · refine lv_iconst (v := nI 1) hx hb dL_law_243 (by decide) ?_
                        refine lv_goto (tgt := 248) hx hb dL_law_244 (by decide) ?_
                        refine q_icmp_ne (tgt := 290) hx hb (by omega) (by omega) dL_law_248 (by decide) (fun c_183 => ?_) (fun c_183 => ?_)
                        · exact absurd rfl c_183
                        · refine lv_iload hx hb dL_law_251 (lv_at hl 1 rfl) ?_
                          refine lv_aload_n hx hb dL_law_253 rfl (lv_at hl 17 rfl) ?_
                          refine lv_aload_n hx hb dL_law_254 rfl (lv_at hl 17 rfl) ?_
                          refine lv_iload hx hb dL_law_255 (lv_at hl 7 rfl) ?_
                          refine lv_iconst (v := nI 0) hx hb dL_law_257 (by decide) ?_
                          refine q_roV (As := [.int (nI k), .int (nI 0)]) (rest := [.ref (ad 0), .int (hearF (sL z) (kM z) (scd z k) (j * sL z + sdl z k))]) ⟨hx, hb, hml, hown, hts⟩ (k_about0 hI c_k) (cwV 2 hts gL_law_X3_about rfl rfl rfl (by decide +kernel) ⟨Nat.le_of_ble_eq_true rfl, Nat.le_of_ble_eq_true rfl⟩) hE (fun q h => hA q (Nat.le_trans hS.1 h)) (q_snd hP) (va_recv hE.K (q_snd hP) (ci := 4) (q0 := 0) rfl rfl) rfl hl.1 rfl (Nat.le_of_ble_eq_true rfl) dL_law_258 ⟨by show _ ≤ 1200130; omega, by show _ ≤ 5501080; omega⟩ ?_
                          refine lv_aload_n hx hb dL_law_261 rfl (lv_at hl 17 rfl) ?_
                          refine lv_iload hx hb dL_law_262 (lv_at hl 7 rfl) ?_
                          refine lv_iconst (v := nI 2) hx hb dL_law_264 (by decide) ?_
                          refine q_roV (As := [.int (nI k), .int (nI 2)]) (rest := [.int (nI (scd z k)), .ref (ad 0), .int (hearF (sL z) (kM z) (scd z k) (j * sL z + sdl z k))]) ⟨hx, hb, hml, hown, hts⟩ (k_about2 hI c_k) (cwV 2 hts gL_law_X3_about rfl rfl rfl (by decide +kernel) ⟨Nat.le_of_ble_eq_true rfl, Nat.le_of_ble_eq_true rfl⟩) hE (fun q h => hA q (Nat.le_trans hS.1 h)) (q_snd hP) (va_recv hE.K (q_snd hP) (ci := 4) (q0 := 0) rfl rfl) rfl hl.1 rfl (Nat.le_of_ble_eq_true rfl) dL_law_265 ⟨by show _ ≤ 1200130; omega, by show _ ≤ 5501080; omega⟩ ?_
                          refine lv_iload hx hb dL_law_268 (lv_at hl 13 rfl) ?_
                          refine lv_iload hx hb dL_law_270 (lv_at hl 3 rfl) ?_
                          refine q_imul (v := nI ((sL z) * j)) hx hb dL_law_272 (pk_mul _ _) ?_
                          refine q_iadd (v := nI (j * sL z + sdl z k)) hx hb dL_law_273 (by rw [nI_add, Nat.add_comm, Nat.mul_comm]) ?_
                          refine q_roV (As := [.int (nI (scd z k)), .int (nI (j * sL z + sdl z k))]) (rest := [.int (hearF (sL z) (kM z) (scd z k) (j * sL z + sdl z k))]) ⟨hx, hb, hml, hown, hts⟩ (k_hear hI (a := scd z k) (t := j * sL z + sdl z k) hd_.1 (by have := mul16 (a := j) hL.2; omega)) (cwV 2 hts gL_law_X3_hear rfl rfl rfl (by decide +kernel) ⟨Nat.le_of_ble_eq_true rfl, Nat.le_of_ble_eq_true rfl⟩) hE (fun q h => hA q (Nat.le_trans hS.1 h)) (q_snd hP) (va_recv hE.K (q_snd hP) (ci := 4) (q0 := 0) rfl rfl) rfl hl.1 rfl (Nat.le_of_ble_eq_true rfl) dL_law_274 ⟨by show _ ≤ 1200130; omega, by show _ ≤ 5501080; omega⟩ ?_
                          refine lv_icmp_ne (tgt := 290) hx hb dL_law_277 (by decide) (fun c_184 => ?_) (fun c_184 => ?_)
                          · exact absurd rfl c_184
                          · refine lv_iload hx hb dL_law_280 (lv_at hl 1 rfl) ?_
                            refine q_mabs (v := ab (hearF (sL z) (kM z) (scd z k) (j * sL z + sdl z k))) hx hb (hml.trans hl.1.symm) hown (hts _ (List.mem_of_getElem? (i := 3) rfl)) (hts _ (List.mem_of_getElem? (i := 4) rfl)) (hts _ (List.mem_of_getElem? (i := 5) rfl)) (hts _ (List.mem_of_getElem? (i := 6) rfl)) (Nat.le_of_ble_eq_true rfl) (Nat.le_of_ble_eq_true rfl) (by show _ ≤ 1200130; omega) (by show _ ≤ 5501080; omega) dL_law_282 rfl ?_
                            refine lv_iload hx hb dL_law_285 (lv_at hl 5 rfl) ?_
                            refine lv_icmp_ge (tgt := 292) hx hb dL_law_287 (by decide) (fun c_185 => ?_) (fun c_185 => ?_)
                            · refine lv_iload hx hb dL_law_292 (lv_at hl 4 rfl) ?_
                              refine lv_iload hx hb dL_law_294 (lv_at hl 1 rfl) ?_
                              refine q_mabs (v := ab (hearF (sL z) (kM z) (scd z k) (j * sL z + sdl z k))) hx hb (hml.trans hl.1.symm) hown (hts _ (List.mem_of_getElem? (i := 3) rfl)) (hts _ (List.mem_of_getElem? (i := 4) rfl)) (hts _ (List.mem_of_getElem? (i := 5) rfl)) (hts _ (List.mem_of_getElem? (i := 6) rfl)) (Nat.le_of_ble_eq_true rfl) (Nat.le_of_ble_eq_true rfl) (by show _ ≤ 1200130; omega) (by show _ ≤ 5501080; omega) dL_law_296 rfl ?_
                              refine lv_iload hx hb dL_law_299 (lv_at hl 5 rfl) ?_
                              refine lv_icmp_ne (tgt := 308) hx hb dL_law_301 (by decide) (fun c_l => ?_) (fun c_l => ?_)
                              · refine lv_iconst (v := nI 0) hx hb dL_law_308 (by decide) ?_
                                refine q_ior (v := bI (lsB (fun w => hearF (sL z) (kM z) (scd z k) (w * sL z + sdl z k)) (fnF (fun w => hearF (sL z) (kM z) (scd z k) (w * sL z + sdl z k)) (ssd z k)) (ssd z k) (j + 1) = true)) hx hb dL_law_309 ((congrArg (fun q => bI (lsB (fun w => hearF (sL z) (kM z) (scd z k) (w * sL z + sdl z k)) (fnF (fun w => hearF (sL z) (kM z) (scd z k) (w * sL z + sdl z k)) (ssd z k)) (ssd z k) j = true) ||| q) (show nI 0 = bI (ab (hearF (sL z) (kM z) (scd z k) (j * sL z + sdl z k)) = fnF (fun w => hearF (sL z) (kM z) (scd z k) (w * sL z + sdl z k)) (ssd z k)) from (bI_f c_l))).trans (lsB_s (x := (fun w => hearF (sL z) (kM z) (scd z k) (w * sL z + sdl z k))))) ?_
                                refine lv_istore (lv' := [(15, .int (bI (lsB (fun w => hearF (sL z) (kM z) (scd z k) (w * sL z + sdl z k)) (fnF (fun w => hearF (sL z) (kM z) (scd z k) (w * sL z + sdl z k)) (ssd z k)) (ssd z k) (j + 1) = true))), (13, .int (nI (wrF (sL z) (kM z) (scd z k) (sdl z k) (swd z k) (j + 1)))), (18, .int (hearF (sL z) (kM z) (scd z k) (j * sL z + sdl z k))), (17, .int (swd z k j)), (16, .int (nI j)), (14, .int (fnF (fun w => hearF (sL z) (kM z) (scd z k) (w * sL z + sdl z k)) (ssd z k))), (12, .int (nI (ssd z k))), (11, .int (nI k)), (10, .int (nI (endA z k))), (9, .int (nI (allW z (kM z) k))), (8, .int (nI (sumN (ssd z) k))), (7, .int (nI (sumN (ssr z) (k + 1)))), (6, .int (nI (sn z))), (5, .int (nI (sL z))), (4, .int x), (3, .int (nI tt)), (2, .ref (b 0)), (1, .ref (ad 0)), (0, .ref (gB g))]) hx hb dL_law_310 hl (by decide) rfl (fun ls hl => ?_)
                                refine lv_iinc (v := nI (j + 1)) (lv' := [(16, .int (nI (j + 1))), (15, .int (bI (lsB (fun w => hearF (sL z) (kM z) (scd z k) (w * sL z + sdl z k)) (fnF (fun w => hearF (sL z) (kM z) (scd z k) (w * sL z + sdl z k)) (ssd z k)) (ssd z k) (j + 1) = true))), (13, .int (nI (wrF (sL z) (kM z) (scd z k) (sdl z k) (swd z k) (j + 1)))), (18, .int (hearF (sL z) (kM z) (scd z k) (j * sL z + sdl z k))), (17, .int (swd z k j)), (14, .int (fnF (fun w => hearF (sL z) (kM z) (scd z k) (w * sL z + sdl z k)) (ssd z k))), (12, .int (nI (ssd z k))), (11, .int (nI k)), (10, .int (nI (endA z k))), (9, .int (nI (allW z (kM z) k))), (8, .int (nI (sumN (ssd z) k))), (7, .int (nI (sumN (ssr z) (k + 1)))), (6, .int (nI (sn z))), (5, .int (nI (sL z))), (4, .int x), (3, .int (nI tt)), (2, .ref (b 0)), (1, .ref (ad 0)), (0, .ref (gB g))]) hx hb dL_law_312 hl (k := 4) rfl (nI_1 _) (by decide) rfl (fun ls hl => ?_)
                                refine lv_goto (tgt := 142) hx hb dL_law_315 (by decide) ?_
                                exact ih_142 (j + 1)  (by omega) (by omega)  _ _ hP hD hS hE _ (lv_sub hl [0, 1, 2, 5, 6, 7, 8, 9, 10, 11, 12, 13, 14, 15, 16, 17, 18] rfl)
                              · refine lv_iconst (v := nI 1) hx hb dL_law_304 (by decide) ?_
                                refine lv_goto (tgt := 309) hx hb dL_law_305 (by decide) ?_
                                refine q_ior (v := bI (lsB (fun w => hearF (sL z) (kM z) (scd z k) (w * sL z + sdl z k)) (fnF (fun w => hearF (sL z) (kM z) (scd z k) (w * sL z + sdl z k)) (ssd z k)) (ssd z k) (j + 1) = true)) hx hb dL_law_309 ((congrArg (fun q => bI (lsB (fun w => hearF (sL z) (kM z) (scd z k) (w * sL z + sdl z k)) (fnF (fun w => hearF (sL z) (kM z) (scd z k) (w * sL z + sdl z k)) (ssd z k)) (ssd z k) j = true) ||| q) (show nI 1 = bI (ab (hearF (sL z) (kM z) (scd z k) (j * sL z + sdl z k)) = fnF (fun w => hearF (sL z) (kM z) (scd z k) (w * sL z + sdl z k)) (ssd z k)) from (bI_t c_l))).trans (lsB_s (x := (fun w => hearF (sL z) (kM z) (scd z k) (w * sL z + sdl z k))))) ?_
                                refine lv_istore (lv' := [(15, .int (bI (lsB (fun w => hearF (sL z) (kM z) (scd z k) (w * sL z + sdl z k)) (fnF (fun w => hearF (sL z) (kM z) (scd z k) (w * sL z + sdl z k)) (ssd z k)) (ssd z k) (j + 1) = true))), (13, .int (nI (wrF (sL z) (kM z) (scd z k) (sdl z k) (swd z k) (j + 1)))), (18, .int (hearF (sL z) (kM z) (scd z k) (j * sL z + sdl z k))), (17, .int (swd z k j)), (16, .int (nI j)), (14, .int (fnF (fun w => hearF (sL z) (kM z) (scd z k) (w * sL z + sdl z k)) (ssd z k))), (12, .int (nI (ssd z k))), (11, .int (nI k)), (10, .int (nI (endA z k))), (9, .int (nI (allW z (kM z) k))), (8, .int (nI (sumN (ssd z) k))), (7, .int (nI (sumN (ssr z) (k + 1)))), (6, .int (nI (sn z))), (5, .int (nI (sL z))), (4, .int x), (3, .int (nI tt)), (2, .ref (b 0)), (1, .ref (ad 0)), (0, .ref (gB g))]) hx hb dL_law_310 hl (by decide) rfl (fun ls hl => ?_)
                                refine lv_iinc (v := nI (j + 1)) (lv' := [(16, .int (nI (j + 1))), (15, .int (bI (lsB (fun w => hearF (sL z) (kM z) (scd z k) (w * sL z + sdl z k)) (fnF (fun w => hearF (sL z) (kM z) (scd z k) (w * sL z + sdl z k)) (ssd z k)) (ssd z k) (j + 1) = true))), (13, .int (nI (wrF (sL z) (kM z) (scd z k) (sdl z k) (swd z k) (j + 1)))), (18, .int (hearF (sL z) (kM z) (scd z k) (j * sL z + sdl z k))), (17, .int (swd z k j)), (14, .int (fnF (fun w => hearF (sL z) (kM z) (scd z k) (w * sL z + sdl z k)) (ssd z k))), (12, .int (nI (ssd z k))), (11, .int (nI k)), (10, .int (nI (endA z k))), (9, .int (nI (allW z (kM z) k))), (8, .int (nI (sumN (ssd z) k))), (7, .int (nI (sumN (ssr z) (k + 1)))), (6, .int (nI (sn z))), (5, .int (nI (sL z))), (4, .int x), (3, .int (nI tt)), (2, .ref (b 0)), (1, .ref (ad 0)), (0, .ref (gB g))]) hx hb dL_law_312 hl (k := 4) rfl (nI_1 _) (by decide) rfl (fun ls hl => ?_)
                                refine lv_goto (tgt := 142) hx hb dL_law_315 (by decide) ?_
                                exact ih_142 (j + 1)  (by omega) (by omega)  _ _ hP hD hS hE _ (lv_sub hl [0, 1, 2, 5, 6, 7, 8, 9, 10, 11, 12, 13, 14, 15, 16, 17, 18] rfl)
                            · exact absurd (fnF_le (x := (fun w => hearF (sL z) (kM z) (scd z k) (w * sL z + sdl z k))) c_w) c_185
                      · refine lv_iload hx hb dL_law_220 (lv_at hl 1 rfl) ?_
                        refine lv_if_le (tgt := 229) hx hb dL_law_222 (by decide) (fun c_p => ?_) (fun c_p => ?_)
                        · refine lv_iconst (v := nI 0) hx hb dL_law_229 (by decide) ?_
                          refine lv_iload hx hb dL_law_230 (lv_at hl 2 rfl) ?_
                          refine lv_if_le (tgt := 239) hx hb dL_law_232 (by decide) (fun c_q => ?_) (fun c_q => ?_)
                          · refine lv_iconst (v := nI 0) hx hb dL_law_239 (by decide) ?_
                            refine q_icmp_eq (tgt := 247) hx hb (by omega) (by omega) dL_law_240 (by decide) (fun c_186 => ?_) (fun c_186 => ?_)
                            · refine lv_iconst (v := nI 0) hx hb dL_law_247 (by decide) ?_
                              refine q_icmp_ne (tgt := 290) hx hb (by omega) (by omega) dL_law_248 (by decide) (fun c_187 => ?_) (fun c_187 => ?_)
                              · exact (wr_e hX_ hw_ c_3 c_x c_p c_q).elim
                              · exact absurd c_187 (by decide)
                            · exact absurd rfl c_186
                          · refine lv_iconst (v := nI 1) hx hb dL_law_235 (by decide) ?_
                            refine lv_goto (tgt := 240) hx hb dL_law_236 (by decide) ?_
                            refine q_icmp_eq (tgt := 247) hx hb (by omega) (by omega) dL_law_240 (by decide) (fun c_188 => ?_) (fun c_188 => ?_)
                            · exact absurd c_188 (by decide)
                            · refine lv_iconst (v := nI 1) hx hb dL_law_243 (by decide) ?_
                              refine lv_goto (tgt := 248) hx hb dL_law_244 (by decide) ?_
                              refine q_icmp_ne (tgt := 290) hx hb (by omega) (by omega) dL_law_248 (by decide) (fun c_189 => ?_) (fun c_189 => ?_)
                              · exact absurd rfl c_189
                              · refine lv_iload hx hb dL_law_251 (lv_at hl 1 rfl) ?_
                                refine lv_aload_n hx hb dL_law_253 rfl (lv_at hl 17 rfl) ?_
                                refine lv_aload_n hx hb dL_law_254 rfl (lv_at hl 17 rfl) ?_
                                refine lv_iload hx hb dL_law_255 (lv_at hl 7 rfl) ?_
                                refine lv_iconst (v := nI 0) hx hb dL_law_257 (by decide) ?_
                                refine q_roV (As := [.int (nI k), .int (nI 0)]) (rest := [.ref (ad 0), .int (hearF (sL z) (kM z) (scd z k) (j * sL z + sdl z k))]) ⟨hx, hb, hml, hown, hts⟩ (k_about0 hI c_k) (cwV 2 hts gL_law_X3_about rfl rfl rfl (by decide +kernel) ⟨Nat.le_of_ble_eq_true rfl, Nat.le_of_ble_eq_true rfl⟩) hE (fun q h => hA q (Nat.le_trans hS.1 h)) (q_snd hP) (va_recv hE.K (q_snd hP) (ci := 4) (q0 := 0) rfl rfl) rfl hl.1 rfl (Nat.le_of_ble_eq_true rfl) dL_law_258 ⟨by show _ ≤ 1200130; omega, by show _ ≤ 5501080; omega⟩ ?_
                                refine lv_aload_n hx hb dL_law_261 rfl (lv_at hl 17 rfl) ?_
                                refine lv_iload hx hb dL_law_262 (lv_at hl 7 rfl) ?_
                                refine lv_iconst (v := nI 2) hx hb dL_law_264 (by decide) ?_
                                refine q_roV (As := [.int (nI k), .int (nI 2)]) (rest := [.int (nI (scd z k)), .ref (ad 0), .int (hearF (sL z) (kM z) (scd z k) (j * sL z + sdl z k))]) ⟨hx, hb, hml, hown, hts⟩ (k_about2 hI c_k) (cwV 2 hts gL_law_X3_about rfl rfl rfl (by decide +kernel) ⟨Nat.le_of_ble_eq_true rfl, Nat.le_of_ble_eq_true rfl⟩) hE (fun q h => hA q (Nat.le_trans hS.1 h)) (q_snd hP) (va_recv hE.K (q_snd hP) (ci := 4) (q0 := 0) rfl rfl) rfl hl.1 rfl (Nat.le_of_ble_eq_true rfl) dL_law_265 ⟨by show _ ≤ 1200130; omega, by show _ ≤ 5501080; omega⟩ ?_
                                refine lv_iload hx hb dL_law_268 (lv_at hl 13 rfl) ?_
                                refine lv_iload hx hb dL_law_270 (lv_at hl 3 rfl) ?_
                                refine q_imul (v := nI ((sL z) * j)) hx hb dL_law_272 (pk_mul _ _) ?_
                                refine q_iadd (v := nI (j * sL z + sdl z k)) hx hb dL_law_273 (by rw [nI_add, Nat.add_comm, Nat.mul_comm]) ?_
                                refine q_roV (As := [.int (nI (scd z k)), .int (nI (j * sL z + sdl z k))]) (rest := [.int (hearF (sL z) (kM z) (scd z k) (j * sL z + sdl z k))]) ⟨hx, hb, hml, hown, hts⟩ (k_hear hI (a := scd z k) (t := j * sL z + sdl z k) hd_.1 (by have := mul16 (a := j) hL.2; omega)) (cwV 2 hts gL_law_X3_hear rfl rfl rfl (by decide +kernel) ⟨Nat.le_of_ble_eq_true rfl, Nat.le_of_ble_eq_true rfl⟩) hE (fun q h => hA q (Nat.le_trans hS.1 h)) (q_snd hP) (va_recv hE.K (q_snd hP) (ci := 4) (q0 := 0) rfl rfl) rfl hl.1 rfl (Nat.le_of_ble_eq_true rfl) dL_law_274 ⟨by show _ ≤ 1200130; omega, by show _ ≤ 5501080; omega⟩ ?_
                                refine lv_icmp_ne (tgt := 290) hx hb dL_law_277 (by decide) (fun c_190 => ?_) (fun c_190 => ?_)
                                · exact absurd rfl c_190
                                · refine lv_iload hx hb dL_law_280 (lv_at hl 1 rfl) ?_
                                  refine q_mabs (v := ab (hearF (sL z) (kM z) (scd z k) (j * sL z + sdl z k))) hx hb (hml.trans hl.1.symm) hown (hts _ (List.mem_of_getElem? (i := 3) rfl)) (hts _ (List.mem_of_getElem? (i := 4) rfl)) (hts _ (List.mem_of_getElem? (i := 5) rfl)) (hts _ (List.mem_of_getElem? (i := 6) rfl)) (Nat.le_of_ble_eq_true rfl) (Nat.le_of_ble_eq_true rfl) (by show _ ≤ 1200130; omega) (by show _ ≤ 5501080; omega) dL_law_282 rfl ?_
                                  refine lv_iload hx hb dL_law_285 (lv_at hl 5 rfl) ?_
                                  refine lv_icmp_ge (tgt := 292) hx hb dL_law_287 (by decide) (fun c_191 => ?_) (fun c_191 => ?_)
                                  · refine lv_iload hx hb dL_law_292 (lv_at hl 4 rfl) ?_
                                    refine lv_iload hx hb dL_law_294 (lv_at hl 1 rfl) ?_
                                    refine q_mabs (v := ab (hearF (sL z) (kM z) (scd z k) (j * sL z + sdl z k))) hx hb (hml.trans hl.1.symm) hown (hts _ (List.mem_of_getElem? (i := 3) rfl)) (hts _ (List.mem_of_getElem? (i := 4) rfl)) (hts _ (List.mem_of_getElem? (i := 5) rfl)) (hts _ (List.mem_of_getElem? (i := 6) rfl)) (Nat.le_of_ble_eq_true rfl) (Nat.le_of_ble_eq_true rfl) (by show _ ≤ 1200130; omega) (by show _ ≤ 5501080; omega) dL_law_296 rfl ?_
                                    refine lv_iload hx hb dL_law_299 (lv_at hl 5 rfl) ?_
                                    refine lv_icmp_ne (tgt := 308) hx hb dL_law_301 (by decide) (fun c_l => ?_) (fun c_l => ?_)
                                    · refine lv_iconst (v := nI 0) hx hb dL_law_308 (by decide) ?_
                                      refine q_ior (v := bI (lsB (fun w => hearF (sL z) (kM z) (scd z k) (w * sL z + sdl z k)) (fnF (fun w => hearF (sL z) (kM z) (scd z k) (w * sL z + sdl z k)) (ssd z k)) (ssd z k) (j + 1) = true)) hx hb dL_law_309 ((congrArg (fun q => bI (lsB (fun w => hearF (sL z) (kM z) (scd z k) (w * sL z + sdl z k)) (fnF (fun w => hearF (sL z) (kM z) (scd z k) (w * sL z + sdl z k)) (ssd z k)) (ssd z k) j = true) ||| q) (show nI 0 = bI (ab (hearF (sL z) (kM z) (scd z k) (j * sL z + sdl z k)) = fnF (fun w => hearF (sL z) (kM z) (scd z k) (w * sL z + sdl z k)) (ssd z k)) from (bI_f c_l))).trans (lsB_s (x := (fun w => hearF (sL z) (kM z) (scd z k) (w * sL z + sdl z k))))) ?_
                                      refine lv_istore (lv' := [(15, .int (bI (lsB (fun w => hearF (sL z) (kM z) (scd z k) (w * sL z + sdl z k)) (fnF (fun w => hearF (sL z) (kM z) (scd z k) (w * sL z + sdl z k)) (ssd z k)) (ssd z k) (j + 1) = true))), (13, .int (nI (wrF (sL z) (kM z) (scd z k) (sdl z k) (swd z k) (j + 1)))), (18, .int (hearF (sL z) (kM z) (scd z k) (j * sL z + sdl z k))), (17, .int (swd z k j)), (16, .int (nI j)), (14, .int (fnF (fun w => hearF (sL z) (kM z) (scd z k) (w * sL z + sdl z k)) (ssd z k))), (12, .int (nI (ssd z k))), (11, .int (nI k)), (10, .int (nI (endA z k))), (9, .int (nI (allW z (kM z) k))), (8, .int (nI (sumN (ssd z) k))), (7, .int (nI (sumN (ssr z) (k + 1)))), (6, .int (nI (sn z))), (5, .int (nI (sL z))), (4, .int x), (3, .int (nI tt)), (2, .ref (b 0)), (1, .ref (ad 0)), (0, .ref (gB g))]) hx hb dL_law_310 hl (by decide) rfl (fun ls hl => ?_)
                                      refine lv_iinc (v := nI (j + 1)) (lv' := [(16, .int (nI (j + 1))), (15, .int (bI (lsB (fun w => hearF (sL z) (kM z) (scd z k) (w * sL z + sdl z k)) (fnF (fun w => hearF (sL z) (kM z) (scd z k) (w * sL z + sdl z k)) (ssd z k)) (ssd z k) (j + 1) = true))), (13, .int (nI (wrF (sL z) (kM z) (scd z k) (sdl z k) (swd z k) (j + 1)))), (18, .int (hearF (sL z) (kM z) (scd z k) (j * sL z + sdl z k))), (17, .int (swd z k j)), (14, .int (fnF (fun w => hearF (sL z) (kM z) (scd z k) (w * sL z + sdl z k)) (ssd z k))), (12, .int (nI (ssd z k))), (11, .int (nI k)), (10, .int (nI (endA z k))), (9, .int (nI (allW z (kM z) k))), (8, .int (nI (sumN (ssd z) k))), (7, .int (nI (sumN (ssr z) (k + 1)))), (6, .int (nI (sn z))), (5, .int (nI (sL z))), (4, .int x), (3, .int (nI tt)), (2, .ref (b 0)), (1, .ref (ad 0)), (0, .ref (gB g))]) hx hb dL_law_312 hl (k := 4) rfl (nI_1 _) (by decide) rfl (fun ls hl => ?_)
                                      refine lv_goto (tgt := 142) hx hb dL_law_315 (by decide) ?_
                                      exact ih_142 (j + 1)  (by omega) (by omega)  _ _ hP hD hS hE _ (lv_sub hl [0, 1, 2, 5, 6, 7, 8, 9, 10, 11, 12, 13, 14, 15, 16, 17, 18] rfl)
                                    · refine lv_iconst (v := nI 1) hx hb dL_law_304 (by decide) ?_
                                      refine lv_goto (tgt := 309) hx hb dL_law_305 (by decide) ?_
                                      refine q_ior (v := bI (lsB (fun w => hearF (sL z) (kM z) (scd z k) (w * sL z + sdl z k)) (fnF (fun w => hearF (sL z) (kM z) (scd z k) (w * sL z + sdl z k)) (ssd z k)) (ssd z k) (j + 1) = true)) hx hb dL_law_309 ((congrArg (fun q => bI (lsB (fun w => hearF (sL z) (kM z) (scd z k) (w * sL z + sdl z k)) (fnF (fun w => hearF (sL z) (kM z) (scd z k) (w * sL z + sdl z k)) (ssd z k)) (ssd z k) j = true) ||| q) (show nI 1 = bI (ab (hearF (sL z) (kM z) (scd z k) (j * sL z + sdl z k)) = fnF (fun w => hearF (sL z) (kM z) (scd z k) (w * sL z + sdl z k)) (ssd z k)) from (bI_t c_l))).trans (lsB_s (x := (fun w => hearF (sL z) (kM z) (scd z k) (w * sL z + sdl z k))))) ?_
                                      refine lv_istore (lv' := [(15, .int (bI (lsB (fun w => hearF (sL z) (kM z) (scd z k) (w * sL z + sdl z k)) (fnF (fun w => hearF (sL z) (kM z) (scd z k) (w * sL z + sdl z k)) (ssd z k)) (ssd z k) (j + 1) = true))), (13, .int (nI (wrF (sL z) (kM z) (scd z k) (sdl z k) (swd z k) (j + 1)))), (18, .int (hearF (sL z) (kM z) (scd z k) (j * sL z + sdl z k))), (17, .int (swd z k j)), (16, .int (nI j)), (14, .int (fnF (fun w => hearF (sL z) (kM z) (scd z k) (w * sL z + sdl z k)) (ssd z k))), (12, .int (nI (ssd z k))), (11, .int (nI k)), (10, .int (nI (endA z k))), (9, .int (nI (allW z (kM z) k))), (8, .int (nI (sumN (ssd z) k))), (7, .int (nI (sumN (ssr z) (k + 1)))), (6, .int (nI (sn z))), (5, .int (nI (sL z))), (4, .int x), (3, .int (nI tt)), (2, .ref (b 0)), (1, .ref (ad 0)), (0, .ref (gB g))]) hx hb dL_law_310 hl (by decide) rfl (fun ls hl => ?_)
                                      refine lv_iinc (v := nI (j + 1)) (lv' := [(16, .int (nI (j + 1))), (15, .int (bI (lsB (fun w => hearF (sL z) (kM z) (scd z k) (w * sL z + sdl z k)) (fnF (fun w => hearF (sL z) (kM z) (scd z k) (w * sL z + sdl z k)) (ssd z k)) (ssd z k) (j + 1) = true))), (13, .int (nI (wrF (sL z) (kM z) (scd z k) (sdl z k) (swd z k) (j + 1)))), (18, .int (hearF (sL z) (kM z) (scd z k) (j * sL z + sdl z k))), (17, .int (swd z k j)), (14, .int (fnF (fun w => hearF (sL z) (kM z) (scd z k) (w * sL z + sdl z k)) (ssd z k))), (12, .int (nI (ssd z k))), (11, .int (nI k)), (10, .int (nI (endA z k))), (9, .int (nI (allW z (kM z) k))), (8, .int (nI (sumN (ssd z) k))), (7, .int (nI (sumN (ssr z) (k + 1)))), (6, .int (nI (sn z))), (5, .int (nI (sL z))), (4, .int x), (3, .int (nI tt)), (2, .ref (b 0)), (1, .ref (ad 0)), (0, .ref (gB g))]) hx hb dL_law_312 hl (k := 4) rfl (nI_1 _) (by decide) rfl (fun ls hl => ?_)
                                      refine lv_goto (tgt := 142) hx hb dL_law_315 (by decide) ?_
                                      exact ih_142 (j + 1)  (by omega) (by omega)  _ _ hP hD hS hE _ (lv_sub hl [0, 1, 2, 5, 6, 7, 8, 9, 10, 11, 12, 13, 14, 15, 16, 17, 18] rfl)
                                  · exact absurd (fnF_le (x := (fun w => hearF (sL z) (kM z) (scd z k) (w * sL z + sdl z k))) c_w) c_191
                        · refine lv_iconst (v := nI 1) hx hb dL_law_225 (by decide) ?_
                          refine lv_goto (tgt := 230) hx hb dL_law_226 (by decide) ?_
                          refine lv_iload hx hb dL_law_230 (lv_at hl 2 rfl) ?_
                          refine lv_if_le (tgt := 239) hx hb dL_law_232 (by decide) (fun c_q => ?_) (fun c_q => ?_)
                          · refine lv_iconst (v := nI 0) hx hb dL_law_239 (by decide) ?_
                            refine q_icmp_eq (tgt := 247) hx hb (by omega) (by omega) dL_law_240 (by decide) (fun c_192 => ?_) (fun c_192 => ?_)
                            · exact absurd c_192 (by decide)
                            · refine lv_iconst (v := nI 1) hx hb dL_law_243 (by decide) ?_
                              refine lv_goto (tgt := 248) hx hb dL_law_244 (by decide) ?_
                              refine q_icmp_ne (tgt := 290) hx hb (by omega) (by omega) dL_law_248 (by decide) (fun c_193 => ?_) (fun c_193 => ?_)
                              · exact absurd rfl c_193
                              · refine lv_iload hx hb dL_law_251 (lv_at hl 1 rfl) ?_
                                refine lv_aload_n hx hb dL_law_253 rfl (lv_at hl 17 rfl) ?_
                                refine lv_aload_n hx hb dL_law_254 rfl (lv_at hl 17 rfl) ?_
                                refine lv_iload hx hb dL_law_255 (lv_at hl 7 rfl) ?_
                                refine lv_iconst (v := nI 0) hx hb dL_law_257 (by decide) ?_
                                refine q_roV (As := [.int (nI k), .int (nI 0)]) (rest := [.ref (ad 0), .int (hearF (sL z) (kM z) (scd z k) (j * sL z + sdl z k))]) ⟨hx, hb, hml, hown, hts⟩ (k_about0 hI c_k) (cwV 2 hts gL_law_X3_about rfl rfl rfl (by decide +kernel) ⟨Nat.le_of_ble_eq_true rfl, Nat.le_of_ble_eq_true rfl⟩) hE (fun q h => hA q (Nat.le_trans hS.1 h)) (q_snd hP) (va_recv hE.K (q_snd hP) (ci := 4) (q0 := 0) rfl rfl) rfl hl.1 rfl (Nat.le_of_ble_eq_true rfl) dL_law_258 ⟨by show _ ≤ 1200130; omega, by show _ ≤ 5501080; omega⟩ ?_
                                refine lv_aload_n hx hb dL_law_261 rfl (lv_at hl 17 rfl) ?_
                                refine lv_iload hx hb dL_law_262 (lv_at hl 7 rfl) ?_
                                refine lv_iconst (v := nI 2) hx hb dL_law_264 (by decide) ?_
                                refine q_roV (As := [.int (nI k), .int (nI 2)]) (rest := [.int (nI (scd z k)), .ref (ad 0), .int (hearF (sL z) (kM z) (scd z k) (j * sL z + sdl z k))]) ⟨hx, hb, hml, hown, hts⟩ (k_about2 hI c_k) (cwV 2 hts gL_law_X3_about rfl rfl rfl (by decide +kernel) ⟨Nat.le_of_ble_eq_true rfl, Nat.le_of_ble_eq_true rfl⟩) hE (fun q h => hA q (Nat.le_trans hS.1 h)) (q_snd hP) (va_recv hE.K (q_snd hP) (ci := 4) (q0 := 0) rfl rfl) rfl hl.1 rfl (Nat.le_of_ble_eq_true rfl) dL_law_265 ⟨by show _ ≤ 1200130; omega, by show _ ≤ 5501080; omega⟩ ?_
                                refine lv_iload hx hb dL_law_268 (lv_at hl 13 rfl) ?_
                                refine lv_iload hx hb dL_law_270 (lv_at hl 3 rfl) ?_
                                refine q_imul (v := nI ((sL z) * j)) hx hb dL_law_272 (pk_mul _ _) ?_
                                refine q_iadd (v := nI (j * sL z + sdl z k)) hx hb dL_law_273 (by rw [nI_add, Nat.add_comm, Nat.mul_comm]) ?_
                                refine q_roV (As := [.int (nI (scd z k)), .int (nI (j * sL z + sdl z k))]) (rest := [.int (hearF (sL z) (kM z) (scd z k) (j * sL z + sdl z k))]) ⟨hx, hb, hml, hown, hts⟩ (k_hear hI (a := scd z k) (t := j * sL z + sdl z k) hd_.1 (by have := mul16 (a := j) hL.2; omega)) (cwV 2 hts gL_law_X3_hear rfl rfl rfl (by decide +kernel) ⟨Nat.le_of_ble_eq_true rfl, Nat.le_of_ble_eq_true rfl⟩) hE (fun q h => hA q (Nat.le_trans hS.1 h)) (q_snd hP) (va_recv hE.K (q_snd hP) (ci := 4) (q0 := 0) rfl rfl) rfl hl.1 rfl (Nat.le_of_ble_eq_true rfl) dL_law_274 ⟨by show _ ≤ 1200130; omega, by show _ ≤ 5501080; omega⟩ ?_
                                refine lv_icmp_ne (tgt := 290) hx hb dL_law_277 (by decide) (fun c_194 => ?_) (fun c_194 => ?_)
                                · exact absurd rfl c_194
                                · refine lv_iload hx hb dL_law_280 (lv_at hl 1 rfl) ?_
                                  refine q_mabs (v := ab (hearF (sL z) (kM z) (scd z k) (j * sL z + sdl z k))) hx hb (hml.trans hl.1.symm) hown (hts _ (List.mem_of_getElem? (i := 3) rfl)) (hts _ (List.mem_of_getElem? (i := 4) rfl)) (hts _ (List.mem_of_getElem? (i := 5) rfl)) (hts _ (List.mem_of_getElem? (i := 6) rfl)) (Nat.le_of_ble_eq_true rfl) (Nat.le_of_ble_eq_true rfl) (by show _ ≤ 1200130; omega) (by show _ ≤ 5501080; omega) dL_law_282 rfl ?_
                                  refine lv_iload hx hb dL_law_285 (lv_at hl 5 rfl) ?_
                                  refine lv_icmp_ge (tgt := 292) hx hb dL_law_287 (by decide) (fun c_195 => ?_) (fun c_195 => ?_)
                                  · refine lv_iload hx hb dL_law_292 (lv_at hl 4 rfl) ?_
                                    refine lv_iload hx hb dL_law_294 (lv_at hl 1 rfl) ?_
                                    refine q_mabs (v := ab (hearF (sL z) (kM z) (scd z k) (j * sL z + sdl z k))) hx hb (hml.trans hl.1.symm) hown (hts _ (List.mem_of_getElem? (i := 3) rfl)) (hts _ (List.mem_of_getElem? (i := 4) rfl)) (hts _ (List.mem_of_getElem? (i := 5) rfl)) (hts _ (List.mem_of_getElem? (i := 6) rfl)) (Nat.le_of_ble_eq_true rfl) (Nat.le_of_ble_eq_true rfl) (by show _ ≤ 1200130; omega) (by show _ ≤ 5501080; omega) dL_law_296 rfl ?_
                                    refine lv_iload hx hb dL_law_299 (lv_at hl 5 rfl) ?_
                                    refine lv_icmp_ne (tgt := 308) hx hb dL_law_301 (by decide) (fun c_l => ?_) (fun c_l => ?_)
                                    · refine lv_iconst (v := nI 0) hx hb dL_law_308 (by decide) ?_
                                      refine q_ior (v := bI (lsB (fun w => hearF (sL z) (kM z) (scd z k) (w * sL z + sdl z k)) (fnF (fun w => hearF (sL z) (kM z) (scd z k) (w * sL z + sdl z k)) (ssd z k)) (ssd z k) (j + 1) = true)) hx hb dL_law_309 ((congrArg (fun q => bI (lsB (fun w => hearF (sL z) (kM z) (scd z k) (w * sL z + sdl z k)) (fnF (fun w => hearF (sL z) (kM z) (scd z k) (w * sL z + sdl z k)) (ssd z k)) (ssd z k) j = true) ||| q) (show nI 0 = bI (ab (hearF (sL z) (kM z) (scd z k) (j * sL z + sdl z k)) = fnF (fun w => hearF (sL z) (kM z) (scd z k) (w * sL z + sdl z k)) (ssd z k)) from (bI_f c_l))).trans (lsB_s (x := (fun w => hearF (sL z) (kM z) (scd z k) (w * sL z + sdl z k))))) ?_
                                      refine lv_istore (lv' := [(15, .int (bI (lsB (fun w => hearF (sL z) (kM z) (scd z k) (w * sL z + sdl z k)) (fnF (fun w => hearF (sL z) (kM z) (scd z k) (w * sL z + sdl z k)) (ssd z k)) (ssd z k) (j + 1) = true))), (13, .int (nI (wrF (sL z) (kM z) (scd z k) (sdl z k) (swd z k) (j + 1)))), (18, .int (hearF (sL z) (kM z) (scd z k) (j * sL z + sdl z k))), (17, .int (swd z k j)), (16, .int (nI j)), (14, .int (fnF (fun w => hearF (sL z) (kM z) (scd z k) (w * sL z + sdl z k)) (ssd z k))), (12, .int (nI (ssd z k))), (11, .int (nI k)), (10, .int (nI (endA z k))), (9, .int (nI (allW z (kM z) k))), (8, .int (nI (sumN (ssd z) k))), (7, .int (nI (sumN (ssr z) (k + 1)))), (6, .int (nI (sn z))), (5, .int (nI (sL z))), (4, .int x), (3, .int (nI tt)), (2, .ref (b 0)), (1, .ref (ad 0)), (0, .ref (gB g))]) hx hb dL_law_310 hl (by decide) rfl (fun ls hl => ?_)
                                      refine lv_iinc (v := nI (j + 1)) (lv' := [(16, .int (nI (j + 1))), (15, .int (bI (lsB (fun w => hearF (sL z) (kM z) (scd z k) (w * sL z + sdl z k)) (fnF (fun w => hearF (sL z) (kM z) (scd z k) (w * sL z + sdl z k)) (ssd z k)) (ssd z k) (j + 1) = true))), (13, .int (nI (wrF (sL z) (kM z) (scd z k) (sdl z k) (swd z k) (j + 1)))), (18, .int (hearF (sL z) (kM z) (scd z k) (j * sL z + sdl z k))), (17, .int (swd z k j)), (14, .int (fnF (fun w => hearF (sL z) (kM z) (scd z k) (w * sL z + sdl z k)) (ssd z k))), (12, .int (nI (ssd z k))), (11, .int (nI k)), (10, .int (nI (endA z k))), (9, .int (nI (allW z (kM z) k))), (8, .int (nI (sumN (ssd z) k))), (7, .int (nI (sumN (ssr z) (k + 1)))), (6, .int (nI (sn z))), (5, .int (nI (sL z))), (4, .int x), (3, .int (nI tt)), (2, .ref (b 0)), (1, .ref (ad 0)), (0, .ref (gB g))]) hx hb dL_law_312 hl (k := 4) rfl (nI_1 _) (by decide) rfl (fun ls hl => ?_)
                                      refine lv_goto (tgt := 142) hx hb dL_law_315 (by decide) ?_
                                      exact ih_142 (j + 1)  (by omega) (by omega)  _ _ hP hD hS hE _ (lv_sub hl [0, 1, 2, 5, 6, 7, 8, 9, 10, 11, 12, 13, 14, 15, 16, 17, 18] rfl)
                                    · refine lv_iconst (v := nI 1) hx hb dL_law_304 (by decide) ?_
                                      refine lv_goto (tgt := 309) hx hb dL_law_305 (by decide) ?_
                                      refine q_ior (v := bI (lsB (fun w => hearF (sL z) (kM z) (scd z k) (w * sL z + sdl z k)) (fnF (fun w => hearF (sL z) (kM z) (scd z k) (w * sL z + sdl z k)) (ssd z k)) (ssd z k) (j + 1) = true)) hx hb dL_law_309 ((congrArg (fun q => bI (lsB (fun w => hearF (sL z) (kM z) (scd z k) (w * sL z + sdl z k)) (fnF (fun w => hearF (sL z) (kM z) (scd z k) (w * sL z + sdl z k)) (ssd z k)) (ssd z k) j = true) ||| q) (show nI 1 = bI (ab (hearF (sL z) (kM z) (scd z k) (j * sL z + sdl z k)) = fnF (fun w => hearF (sL z) (kM z) (scd z k) (w * sL z + sdl z k)) (ssd z k)) from (bI_t c_l))).trans (lsB_s (x := (fun w => hearF (sL z) (kM z) (scd z k) (w * sL z + sdl z k))))) ?_
                                      refine lv_istore (lv' := [(15, .int (bI (lsB (fun w => hearF (sL z) (kM z) (scd z k) (w * sL z + sdl z k)) (fnF (fun w => hearF (sL z) (kM z) (scd z k) (w * sL z + sdl z k)) (ssd z k)) (ssd z k) (j + 1) = true))), (13, .int (nI (wrF (sL z) (kM z) (scd z k) (sdl z k) (swd z k) (j + 1)))), (18, .int (hearF (sL z) (kM z) (scd z k) (j * sL z + sdl z k))), (17, .int (swd z k j)), (16, .int (nI j)), (14, .int (fnF (fun w => hearF (sL z) (kM z) (scd z k) (w * sL z + sdl z k)) (ssd z k))), (12, .int (nI (ssd z k))), (11, .int (nI k)), (10, .int (nI (endA z k))), (9, .int (nI (allW z (kM z) k))), (8, .int (nI (sumN (ssd z) k))), (7, .int (nI (sumN (ssr z) (k + 1)))), (6, .int (nI (sn z))), (5, .int (nI (sL z))), (4, .int x), (3, .int (nI tt)), (2, .ref (b 0)), (1, .ref (ad 0)), (0, .ref (gB g))]) hx hb dL_law_310 hl (by decide) rfl (fun ls hl => ?_)
                                      refine lv_iinc (v := nI (j + 1)) (lv' := [(16, .int (nI (j + 1))), (15, .int (bI (lsB (fun w => hearF (sL z) (kM z) (scd z k) (w * sL z + sdl z k)) (fnF (fun w => hearF (sL z) (kM z) (scd z k) (w * sL z + sdl z k)) (ssd z k)) (ssd z k) (j + 1) = true))), (13, .int (nI (wrF (sL z) (kM z) (scd z k) (sdl z k) (swd z k) (j + 1)))), (18, .int (hearF (sL z) (kM z) (scd z k) (j * sL z + sdl z k))), (17, .int (swd z k j)), (14, .int (fnF (fun w => hearF (sL z) (kM z) (scd z k) (w * sL z + sdl z k)) (ssd z k))), (12, .int (nI (ssd z k))), (11, .int (nI k)), (10, .int (nI (endA z k))), (9, .int (nI (allW z (kM z) k))), (8, .int (nI (sumN (ssd z) k))), (7, .int (nI (sumN (ssr z) (k + 1)))), (6, .int (nI (sn z))), (5, .int (nI (sL z))), (4, .int x), (3, .int (nI tt)), (2, .ref (b 0)), (1, .ref (ad 0)), (0, .ref (gB g))]) hx hb dL_law_312 hl (k := 4) rfl (nI_1 _) (by decide) rfl (fun ls hl => ?_)
                                      refine lv_goto (tgt := 142) hx hb dL_law_315 (by decide) ?_
                                      exact ih_142 (j + 1)  (by omega) (by omega)  _ _ hP hD hS hE _ (lv_sub hl [0, 1, 2, 5, 6, 7, 8, 9, 10, 11, 12, 13, 14, 15, 16, 17, 18] rfl)
                                  · exact absurd (fnF_le (x := (fun w => hearF (sL z) (kM z) (scd z k) (w * sL z + sdl z k))) c_w) c_195
                          · refine lv_iconst (v := nI 1) hx hb dL_law_235 (by decide) ?_
                            refine lv_goto (tgt := 240) hx hb dL_law_236 (by decide) ?_
                            refine q_icmp_eq (tgt := 247) hx hb (by omega) (by omega) dL_law_240 (by decide) (fun c_196 => ?_) (fun c_196 => ?_)
                            · refine lv_iconst (v := nI 0) hx hb dL_law_247 (by decide) ?_
                              refine q_icmp_ne (tgt := 290) hx hb (by omega) (by omega) dL_law_248 (by decide) (fun c_197 => ?_) (fun c_197 => ?_)
                              · exact (wr_d hX_ hw_ c_3 c_x c_p c_q).elim
                              · exact absurd c_197 (by decide)
                            · exact absurd rfl c_196
                  · refine lv_iload hx hb dL_law_191 (lv_at hl 2 rfl) ?_
                    refine lv_iconst (v := (-1 : Int32)) hx hb dL_law_193 (by decide) ?_
                    refine lv_icmp_ne (tgt := 290) hx hb dL_law_194 (by decide) (fun c_198 => ?_) (fun c_198 => ?_)
                    · exact (hw_.elim (fun q => c_1 q) (fun q => c_198 q)).elim
                    · refine lv_aload_n hx hb dL_law_197 rfl (lv_at hl 17 rfl) ?_
                      refine lv_iload hx hb dL_law_198 (lv_at hl 7 rfl) ?_
                      refine lv_iload hx hb dL_law_200 (lv_at hl 3 rfl) ?_
                      refine lv_iconst (v := nI 2) hx hb dL_law_202 (by decide) ?_
                      refine q_roV (As := [.int (nI k), .int (nI j), .int (nI 2)]) (rest := []) ⟨hx, hb, hml, hown, hts⟩ (k_word2 hI (k := k) (w := j) c_k c_w) (cwV 3 hts gL_law_X3_word rfl rfl rfl (by decide +kernel) ⟨Nat.le_of_ble_eq_true rfl, Nat.le_of_ble_eq_true rfl⟩) hE (fun q h => hA q (Nat.le_trans hS.1 h)) (q_snd hP) (va_recv hE.K (q_snd hP) (ci := 4) (q0 := 0) rfl rfl) rfl hl.1 rfl (Nat.le_of_ble_eq_true rfl) dL_law_203 ⟨by show _ ≤ 1200130; omega, by show _ ≤ 5501080; omega⟩ ?_
                      refine lv_iconst (v := nI 1) hx hb dL_law_206 (by decide) ?_
                      refine q_icmp_ne (tgt := 214) hx hb (by have := wrC_le (hearF (sL z) (kM z) (scd z k) (j * sL z + sdl z k)) (swd z k j); omega) (by omega) dL_law_207 (by decide) (fun c_3 => ?_) (fun c_3 => ?_)
                      · refine lv_iconst (v := nI 0) hx hb dL_law_214 (by decide) ?_
                        refine lv_iload hx hb dL_law_215 (lv_at hl 1 rfl) ?_
                        refine lv_if_eq (tgt := 243) hx hb dL_law_217 (by decide) (fun c_x => ?_) (fun c_x => ?_)
                        · refine lv_iconst (v := nI 1) hx hb dL_law_243 (by decide) ?_
                          refine lv_goto (tgt := 248) hx hb dL_law_244 (by decide) ?_
                          refine q_icmp_ne (tgt := 290) hx hb (by omega) (by omega) dL_law_248 (by decide) (fun c_199 => ?_) (fun c_199 => ?_)
                          · exact (wr_a hX_ hw_ c_3 c_x).elim
                          · exact absurd c_199 (by decide)
                        · refine lv_iload hx hb dL_law_220 (lv_at hl 1 rfl) ?_
                          refine lv_if_le (tgt := 229) hx hb dL_law_222 (by decide) (fun c_p => ?_) (fun c_p => ?_)
                          · refine lv_iconst (v := nI 0) hx hb dL_law_229 (by decide) ?_
                            refine lv_iload hx hb dL_law_230 (lv_at hl 2 rfl) ?_
                            refine lv_if_le (tgt := 239) hx hb dL_law_232 (by decide) (fun c_q => ?_) (fun c_q => ?_)
                            · refine lv_iconst (v := nI 0) hx hb dL_law_239 (by decide) ?_
                              refine q_icmp_eq (tgt := 247) hx hb (by omega) (by omega) dL_law_240 (by decide) (fun c_200 => ?_) (fun c_200 => ?_)
                              · refine lv_iconst (v := nI 0) hx hb dL_law_247 (by decide) ?_
                                refine q_icmp_ne (tgt := 290) hx hb (by omega) (by omega) dL_law_248 (by decide) (fun c_201 => ?_) (fun c_201 => ?_)
                                · exact absurd rfl c_201
                                · refine lv_iload hx hb dL_law_251 (lv_at hl 1 rfl) ?_
                                  refine lv_aload_n hx hb dL_law_253 rfl (lv_at hl 17 rfl) ?_
                                  refine lv_aload_n hx hb dL_law_254 rfl (lv_at hl 17 rfl) ?_
                                  refine lv_iload hx hb dL_law_255 (lv_at hl 7 rfl) ?_
                                  refine lv_iconst (v := nI 0) hx hb dL_law_257 (by decide) ?_
                                  refine q_roV (As := [.int (nI k), .int (nI 0)]) (rest := [.ref (ad 0), .int (hearF (sL z) (kM z) (scd z k) (j * sL z + sdl z k))]) ⟨hx, hb, hml, hown, hts⟩ (k_about0 hI c_k) (cwV 2 hts gL_law_X3_about rfl rfl rfl (by decide +kernel) ⟨Nat.le_of_ble_eq_true rfl, Nat.le_of_ble_eq_true rfl⟩) hE (fun q h => hA q (Nat.le_trans hS.1 h)) (q_snd hP) (va_recv hE.K (q_snd hP) (ci := 4) (q0 := 0) rfl rfl) rfl hl.1 rfl (Nat.le_of_ble_eq_true rfl) dL_law_258 ⟨by show _ ≤ 1200130; omega, by show _ ≤ 5501080; omega⟩ ?_
                                  refine lv_aload_n hx hb dL_law_261 rfl (lv_at hl 17 rfl) ?_
                                  refine lv_iload hx hb dL_law_262 (lv_at hl 7 rfl) ?_
                                  refine lv_iconst (v := nI 2) hx hb dL_law_264 (by decide) ?_
                                  refine q_roV (As := [.int (nI k), .int (nI 2)]) (rest := [.int (nI (scd z k)), .ref (ad 0), .int (hearF (sL z) (kM z) (scd z k) (j * sL z + sdl z k))]) ⟨hx, hb, hml, hown, hts⟩ (k_about2 hI c_k) (cwV 2 hts gL_law_X3_about rfl rfl rfl (by decide +kernel) ⟨Nat.le_of_ble_eq_true rfl, Nat.le_of_ble_eq_true rfl⟩) hE (fun q h => hA q (Nat.le_trans hS.1 h)) (q_snd hP) (va_recv hE.K (q_snd hP) (ci := 4) (q0 := 0) rfl rfl) rfl hl.1 rfl (Nat.le_of_ble_eq_true rfl) dL_law_265 ⟨by show _ ≤ 1200130; omega, by show _ ≤ 5501080; omega⟩ ?_
                                  refine lv_iload hx hb dL_law_268 (lv_at hl 13 rfl) ?_
                                  refine lv_iload hx hb dL_law_270 (lv_at hl 3 rfl) ?_
                                  refine q_imul (v := nI ((sL z) * j)) hx hb dL_law_272 (pk_mul _ _) ?_
                                  refine q_iadd (v := nI (j * sL z + sdl z k)) hx hb dL_law_273 (by rw [nI_add, Nat.add_comm, Nat.mul_comm]) ?_
                                  refine q_roV (As := [.int (nI (scd z k)), .int (nI (j * sL z + sdl z k))]) (rest := [.int (hearF (sL z) (kM z) (scd z k) (j * sL z + sdl z k))]) ⟨hx, hb, hml, hown, hts⟩ (k_hear hI (a := scd z k) (t := j * sL z + sdl z k) hd_.1 (by have := mul16 (a := j) hL.2; omega)) (cwV 2 hts gL_law_X3_hear rfl rfl rfl (by decide +kernel) ⟨Nat.le_of_ble_eq_true rfl, Nat.le_of_ble_eq_true rfl⟩) hE (fun q h => hA q (Nat.le_trans hS.1 h)) (q_snd hP) (va_recv hE.K (q_snd hP) (ci := 4) (q0 := 0) rfl rfl) rfl hl.1 rfl (Nat.le_of_ble_eq_true rfl) dL_law_274 ⟨by show _ ≤ 1200130; omega, by show _ ≤ 5501080; omega⟩ ?_
                                  refine lv_icmp_ne (tgt := 290) hx hb dL_law_277 (by decide) (fun c_202 => ?_) (fun c_202 => ?_)
                                  · exact absurd rfl c_202
                                  · refine lv_iload hx hb dL_law_280 (lv_at hl 1 rfl) ?_
                                    refine q_mabs (v := ab (hearF (sL z) (kM z) (scd z k) (j * sL z + sdl z k))) hx hb (hml.trans hl.1.symm) hown (hts _ (List.mem_of_getElem? (i := 3) rfl)) (hts _ (List.mem_of_getElem? (i := 4) rfl)) (hts _ (List.mem_of_getElem? (i := 5) rfl)) (hts _ (List.mem_of_getElem? (i := 6) rfl)) (Nat.le_of_ble_eq_true rfl) (Nat.le_of_ble_eq_true rfl) (by show _ ≤ 1200130; omega) (by show _ ≤ 5501080; omega) dL_law_282 rfl ?_
                                    refine lv_iload hx hb dL_law_285 (lv_at hl 5 rfl) ?_
                                    refine lv_icmp_ge (tgt := 292) hx hb dL_law_287 (by decide) (fun c_203 => ?_) (fun c_203 => ?_)
                                    · refine lv_iload hx hb dL_law_292 (lv_at hl 4 rfl) ?_
                                      refine lv_iload hx hb dL_law_294 (lv_at hl 1 rfl) ?_
                                      refine q_mabs (v := ab (hearF (sL z) (kM z) (scd z k) (j * sL z + sdl z k))) hx hb (hml.trans hl.1.symm) hown (hts _ (List.mem_of_getElem? (i := 3) rfl)) (hts _ (List.mem_of_getElem? (i := 4) rfl)) (hts _ (List.mem_of_getElem? (i := 5) rfl)) (hts _ (List.mem_of_getElem? (i := 6) rfl)) (Nat.le_of_ble_eq_true rfl) (Nat.le_of_ble_eq_true rfl) (by show _ ≤ 1200130; omega) (by show _ ≤ 5501080; omega) dL_law_296 rfl ?_
                                      refine lv_iload hx hb dL_law_299 (lv_at hl 5 rfl) ?_
                                      refine lv_icmp_ne (tgt := 308) hx hb dL_law_301 (by decide) (fun c_l => ?_) (fun c_l => ?_)
                                      · refine lv_iconst (v := nI 0) hx hb dL_law_308 (by decide) ?_
                                        refine q_ior (v := bI (lsB (fun w => hearF (sL z) (kM z) (scd z k) (w * sL z + sdl z k)) (fnF (fun w => hearF (sL z) (kM z) (scd z k) (w * sL z + sdl z k)) (ssd z k)) (ssd z k) (j + 1) = true)) hx hb dL_law_309 ((congrArg (fun q => bI (lsB (fun w => hearF (sL z) (kM z) (scd z k) (w * sL z + sdl z k)) (fnF (fun w => hearF (sL z) (kM z) (scd z k) (w * sL z + sdl z k)) (ssd z k)) (ssd z k) j = true) ||| q) (show nI 0 = bI (ab (hearF (sL z) (kM z) (scd z k) (j * sL z + sdl z k)) = fnF (fun w => hearF (sL z) (kM z) (scd z k) (w * sL z + sdl z k)) (ssd z k)) from (bI_f c_l))).trans (lsB_s (x := (fun w => hearF (sL z) (kM z) (scd z k) (w * sL z + sdl z k))))) ?_
                                        refine lv_istore (lv' := [(15, .int (bI (lsB (fun w => hearF (sL z) (kM z) (scd z k) (w * sL z + sdl z k)) (fnF (fun w => hearF (sL z) (kM z) (scd z k) (w * sL z + sdl z k)) (ssd z k)) (ssd z k) (j + 1) = true))), (13, .int (nI (wrF (sL z) (kM z) (scd z k) (sdl z k) (swd z k) (j + 1)))), (18, .int (hearF (sL z) (kM z) (scd z k) (j * sL z + sdl z k))), (17, .int (swd z k j)), (16, .int (nI j)), (14, .int (fnF (fun w => hearF (sL z) (kM z) (scd z k) (w * sL z + sdl z k)) (ssd z k))), (12, .int (nI (ssd z k))), (11, .int (nI k)), (10, .int (nI (endA z k))), (9, .int (nI (allW z (kM z) k))), (8, .int (nI (sumN (ssd z) k))), (7, .int (nI (sumN (ssr z) (k + 1)))), (6, .int (nI (sn z))), (5, .int (nI (sL z))), (4, .int x), (3, .int (nI tt)), (2, .ref (b 0)), (1, .ref (ad 0)), (0, .ref (gB g))]) hx hb dL_law_310 hl (by decide) rfl (fun ls hl => ?_)
                                        refine lv_iinc (v := nI (j + 1)) (lv' := [(16, .int (nI (j + 1))), (15, .int (bI (lsB (fun w => hearF (sL z) (kM z) (scd z k) (w * sL z + sdl z k)) (fnF (fun w => hearF (sL z) (kM z) (scd z k) (w * sL z + sdl z k)) (ssd z k)) (ssd z k) (j + 1) = true))), (13, .int (nI (wrF (sL z) (kM z) (scd z k) (sdl z k) (swd z k) (j + 1)))), (18, .int (hearF (sL z) (kM z) (scd z k) (j * sL z + sdl z k))), (17, .int (swd z k j)), (14, .int (fnF (fun w => hearF (sL z) (kM z) (scd z k) (w * sL z + sdl z k)) (ssd z k))), (12, .int (nI (ssd z k))), (11, .int (nI k)), (10, .int (nI (endA z k))), (9, .int (nI (allW z (kM z) k))), (8, .int (nI (sumN (ssd z) k))), (7, .int (nI (sumN (ssr z) (k + 1)))), (6, .int (nI (sn z))), (5, .int (nI (sL z))), (4, .int x), (3, .int (nI tt)), (2, .ref (b 0)), (1, .ref (ad 0)), (0, .ref (gB g))]) hx hb dL_law_312 hl (k := 4) rfl (nI_1 _) (by decide) rfl (fun ls hl => ?_)
                                        refine lv_goto (tgt := 142) hx hb dL_law_315 (by decide) ?_
                                        exact ih_142 (j + 1)  (by omega) (by omega)  _ _ hP hD hS hE _ (lv_sub hl [0, 1, 2, 5, 6, 7, 8, 9, 10, 11, 12, 13, 14, 15, 16, 17, 18] rfl)
                                      · refine lv_iconst (v := nI 1) hx hb dL_law_304 (by decide) ?_
                                        refine lv_goto (tgt := 309) hx hb dL_law_305 (by decide) ?_
                                        refine q_ior (v := bI (lsB (fun w => hearF (sL z) (kM z) (scd z k) (w * sL z + sdl z k)) (fnF (fun w => hearF (sL z) (kM z) (scd z k) (w * sL z + sdl z k)) (ssd z k)) (ssd z k) (j + 1) = true)) hx hb dL_law_309 ((congrArg (fun q => bI (lsB (fun w => hearF (sL z) (kM z) (scd z k) (w * sL z + sdl z k)) (fnF (fun w => hearF (sL z) (kM z) (scd z k) (w * sL z + sdl z k)) (ssd z k)) (ssd z k) j = true) ||| q) (show nI 1 = bI (ab (hearF (sL z) (kM z) (scd z k) (j * sL z + sdl z k)) = fnF (fun w => hearF (sL z) (kM z) (scd z k) (w * sL z + sdl z k)) (ssd z k)) from (bI_t c_l))).trans (lsB_s (x := (fun w => hearF (sL z) (kM z) (scd z k) (w * sL z + sdl z k))))) ?_
                                        refine lv_istore (lv' := [(15, .int (bI (lsB (fun w => hearF (sL z) (kM z) (scd z k) (w * sL z + sdl z k)) (fnF (fun w => hearF (sL z) (kM z) (scd z k) (w * sL z + sdl z k)) (ssd z k)) (ssd z k) (j + 1) = true))), (13, .int (nI (wrF (sL z) (kM z) (scd z k) (sdl z k) (swd z k) (j + 1)))), (18, .int (hearF (sL z) (kM z) (scd z k) (j * sL z + sdl z k))), (17, .int (swd z k j)), (16, .int (nI j)), (14, .int (fnF (fun w => hearF (sL z) (kM z) (scd z k) (w * sL z + sdl z k)) (ssd z k))), (12, .int (nI (ssd z k))), (11, .int (nI k)), (10, .int (nI (endA z k))), (9, .int (nI (allW z (kM z) k))), (8, .int (nI (sumN (ssd z) k))), (7, .int (nI (sumN (ssr z) (k + 1)))), (6, .int (nI (sn z))), (5, .int (nI (sL z))), (4, .int x), (3, .int (nI tt)), (2, .ref (b 0)), (1, .ref (ad 0)), (0, .ref (gB g))]) hx hb dL_law_310 hl (by decide) rfl (fun ls hl => ?_)
                                        refine lv_iinc (v := nI (j + 1)) (lv' := [(16, .int (nI (j + 1))), (15, .int (bI (lsB (fun w => hearF (sL z) (kM z) (scd z k) (w * sL z + sdl z k)) (fnF (fun w => hearF (sL z) (kM z) (scd z k) (w * sL z + sdl z k)) (ssd z k)) (ssd z k) (j + 1) = true))), (13, .int (nI (wrF (sL z) (kM z) (scd z k) (sdl z k) (swd z k) (j + 1)))), (18, .int (hearF (sL z) (kM z) (scd z k) (j * sL z + sdl z k))), (17, .int (swd z k j)), (14, .int (fnF (fun w => hearF (sL z) (kM z) (scd z k) (w * sL z + sdl z k)) (ssd z k))), (12, .int (nI (ssd z k))), (11, .int (nI k)), (10, .int (nI (endA z k))), (9, .int (nI (allW z (kM z) k))), (8, .int (nI (sumN (ssd z) k))), (7, .int (nI (sumN (ssr z) (k + 1)))), (6, .int (nI (sn z))), (5, .int (nI (sL z))), (4, .int x), (3, .int (nI tt)), (2, .ref (b 0)), (1, .ref (ad 0)), (0, .ref (gB g))]) hx hb dL_law_312 hl (k := 4) rfl (nI_1 _) (by decide) rfl (fun ls hl => ?_)
                                        refine lv_goto (tgt := 142) hx hb dL_law_315 (by decide) ?_
                                        exact ih_142 (j + 1)  (by omega) (by omega)  _ _ hP hD hS hE _ (lv_sub hl [0, 1, 2, 5, 6, 7, 8, 9, 10, 11, 12, 13, 14, 15, 16, 17, 18] rfl)
                                    · exact absurd (fnF_le (x := (fun w => hearF (sL z) (kM z) (scd z k) (w * sL z + sdl z k))) c_w) c_203
                              · exact absurd rfl c_200
                            · refine lv_iconst (v := nI 1) hx hb dL_law_235 (by decide) ?_
                              refine lv_goto (tgt := 240) hx hb dL_law_236 (by decide) ?_
                              refine q_icmp_eq (tgt := 247) hx hb (by omega) (by omega) dL_law_240 (by decide) (fun c_204 => ?_) (fun c_204 => ?_)
                              · exact absurd c_204 (by decide)
                              · refine lv_iconst (v := nI 1) hx hb dL_law_243 (by decide) ?_
                                refine lv_goto (tgt := 248) hx hb dL_law_244 (by decide) ?_
                                refine q_icmp_ne (tgt := 290) hx hb (by omega) (by omega) dL_law_248 (by decide) (fun c_205 => ?_) (fun c_205 => ?_)
                                · exact (wr_c hX_ hw_ c_3 c_p c_q).elim
                                · exact absurd c_205 (by decide)
                          · refine lv_iconst (v := nI 1) hx hb dL_law_225 (by decide) ?_
                            refine lv_goto (tgt := 230) hx hb dL_law_226 (by decide) ?_
                            refine lv_iload hx hb dL_law_230 (lv_at hl 2 rfl) ?_
                            refine lv_if_le (tgt := 239) hx hb dL_law_232 (by decide) (fun c_q => ?_) (fun c_q => ?_)
                            · refine lv_iconst (v := nI 0) hx hb dL_law_239 (by decide) ?_
                              refine q_icmp_eq (tgt := 247) hx hb (by omega) (by omega) dL_law_240 (by decide) (fun c_206 => ?_) (fun c_206 => ?_)
                              · exact absurd c_206 (by decide)
                              · refine lv_iconst (v := nI 1) hx hb dL_law_243 (by decide) ?_
                                refine lv_goto (tgt := 248) hx hb dL_law_244 (by decide) ?_
                                refine q_icmp_ne (tgt := 290) hx hb (by omega) (by omega) dL_law_248 (by decide) (fun c_207 => ?_) (fun c_207 => ?_)
                                · exact (wr_b hX_ hw_ c_3 c_p c_q).elim
                                · exact absurd c_207 (by decide)
                            · refine lv_iconst (v := nI 1) hx hb dL_law_235 (by decide) ?_
                              refine lv_goto (tgt := 240) hx hb dL_law_236 (by decide) ?_
                              refine q_icmp_eq (tgt := 247) hx hb (by omega) (by omega) dL_law_240 (by decide) (fun c_208 => ?_) (fun c_208 => ?_)
                              · refine lv_iconst (v := nI 0) hx hb dL_law_247 (by decide) ?_
                                refine q_icmp_ne (tgt := 290) hx hb (by omega) (by omega) dL_law_248 (by decide) (fun c_209 => ?_) (fun c_209 => ?_)
                                · exact absurd rfl c_209
                                · refine lv_iload hx hb dL_law_251 (lv_at hl 1 rfl) ?_
                                  refine lv_aload_n hx hb dL_law_253 rfl (lv_at hl 17 rfl) ?_
                                  refine lv_aload_n hx hb dL_law_254 rfl (lv_at hl 17 rfl) ?_
                                  refine lv_iload hx hb dL_law_255 (lv_at hl 7 rfl) ?_
                                  refine lv_iconst (v := nI 0) hx hb dL_law_257 (by decide) ?_
                                  refine q_roV (As := [.int (nI k), .int (nI 0)]) (rest := [.ref (ad 0), .int (hearF (sL z) (kM z) (scd z k) (j * sL z + sdl z k))]) ⟨hx, hb, hml, hown, hts⟩ (k_about0 hI c_k) (cwV 2 hts gL_law_X3_about rfl rfl rfl (by decide +kernel) ⟨Nat.le_of_ble_eq_true rfl, Nat.le_of_ble_eq_true rfl⟩) hE (fun q h => hA q (Nat.le_trans hS.1 h)) (q_snd hP) (va_recv hE.K (q_snd hP) (ci := 4) (q0 := 0) rfl rfl) rfl hl.1 rfl (Nat.le_of_ble_eq_true rfl) dL_law_258 ⟨by show _ ≤ 1200130; omega, by show _ ≤ 5501080; omega⟩ ?_
                                  refine lv_aload_n hx hb dL_law_261 rfl (lv_at hl 17 rfl) ?_
                                  refine lv_iload hx hb dL_law_262 (lv_at hl 7 rfl) ?_
                                  refine lv_iconst (v := nI 2) hx hb dL_law_264 (by decide) ?_
                                  refine q_roV (As := [.int (nI k), .int (nI 2)]) (rest := [.int (nI (scd z k)), .ref (ad 0), .int (hearF (sL z) (kM z) (scd z k) (j * sL z + sdl z k))]) ⟨hx, hb, hml, hown, hts⟩ (k_about2 hI c_k) (cwV 2 hts gL_law_X3_about rfl rfl rfl (by decide +kernel) ⟨Nat.le_of_ble_eq_true rfl, Nat.le_of_ble_eq_true rfl⟩) hE (fun q h => hA q (Nat.le_trans hS.1 h)) (q_snd hP) (va_recv hE.K (q_snd hP) (ci := 4) (q0 := 0) rfl rfl) rfl hl.1 rfl (Nat.le_of_ble_eq_true rfl) dL_law_265 ⟨by show _ ≤ 1200130; omega, by show _ ≤ 5501080; omega⟩ ?_
                                  refine lv_iload hx hb dL_law_268 (lv_at hl 13 rfl) ?_
                                  refine lv_iload hx hb dL_law_270 (lv_at hl 3 rfl) ?_
                                  refine q_imul (v := nI ((sL z) * j)) hx hb dL_law_272 (pk_mul _ _) ?_
                                  refine q_iadd (v := nI (j * sL z + sdl z k)) hx hb dL_law_273 (by rw [nI_add, Nat.add_comm, Nat.mul_comm]) ?_
                                  refine q_roV (As := [.int (nI (scd z k)), .int (nI (j * sL z + sdl z k))]) (rest := [.int (hearF (sL z) (kM z) (scd z k) (j * sL z + sdl z k))]) ⟨hx, hb, hml, hown, hts⟩ (k_hear hI (a := scd z k) (t := j * sL z + sdl z k) hd_.1 (by have := mul16 (a := j) hL.2; omega)) (cwV 2 hts gL_law_X3_hear rfl rfl rfl (by decide +kernel) ⟨Nat.le_of_ble_eq_true rfl, Nat.le_of_ble_eq_true rfl⟩) hE (fun q h => hA q (Nat.le_trans hS.1 h)) (q_snd hP) (va_recv hE.K (q_snd hP) (ci := 4) (q0 := 0) rfl rfl) rfl hl.1 rfl (Nat.le_of_ble_eq_true rfl) dL_law_274 ⟨by show _ ≤ 1200130; omega, by show _ ≤ 5501080; omega⟩ ?_
                                  refine lv_icmp_ne (tgt := 290) hx hb dL_law_277 (by decide) (fun c_210 => ?_) (fun c_210 => ?_)
                                  · exact absurd rfl c_210
                                  · refine lv_iload hx hb dL_law_280 (lv_at hl 1 rfl) ?_
                                    refine q_mabs (v := ab (hearF (sL z) (kM z) (scd z k) (j * sL z + sdl z k))) hx hb (hml.trans hl.1.symm) hown (hts _ (List.mem_of_getElem? (i := 3) rfl)) (hts _ (List.mem_of_getElem? (i := 4) rfl)) (hts _ (List.mem_of_getElem? (i := 5) rfl)) (hts _ (List.mem_of_getElem? (i := 6) rfl)) (Nat.le_of_ble_eq_true rfl) (Nat.le_of_ble_eq_true rfl) (by show _ ≤ 1200130; omega) (by show _ ≤ 5501080; omega) dL_law_282 rfl ?_
                                    refine lv_iload hx hb dL_law_285 (lv_at hl 5 rfl) ?_
                                    refine lv_icmp_ge (tgt := 292) hx hb dL_law_287 (by decide) (fun c_211 => ?_) (fun c_211 => ?_)
                                    · refine lv_iload hx hb dL_law_292 (lv_at hl 4 rfl) ?_
                                      refine lv_iload hx hb dL_law_294 (lv_at hl 1 rfl) ?_
                                      refine q_mabs (v := ab (hearF (sL z) (kM z) (scd z k) (j * sL z + sdl z k))) hx hb (hml.trans hl.1.symm) hown (hts _ (List.mem_of_getElem? (i := 3) rfl)) (hts _ (List.mem_of_getElem? (i := 4) rfl)) (hts _ (List.mem_of_getElem? (i := 5) rfl)) (hts _ (List.mem_of_getElem? (i := 6) rfl)) (Nat.le_of_ble_eq_true rfl) (Nat.le_of_ble_eq_true rfl) (by show _ ≤ 1200130; omega) (by show _ ≤ 5501080; omega) dL_law_296 rfl ?_
                                      refine lv_iload hx hb dL_law_299 (lv_at hl 5 rfl) ?_
                                      refine lv_icmp_ne (tgt := 308) hx hb dL_law_301 (by decide) (fun c_l => ?_) (fun c_l => ?_)
                                      · refine lv_iconst (v := nI 0) hx hb dL_law_308 (by decide) ?_
                                        refine q_ior (v := bI (lsB (fun w => hearF (sL z) (kM z) (scd z k) (w * sL z + sdl z k)) (fnF (fun w => hearF (sL z) (kM z) (scd z k) (w * sL z + sdl z k)) (ssd z k)) (ssd z k) (j + 1) = true)) hx hb dL_law_309 ((congrArg (fun q => bI (lsB (fun w => hearF (sL z) (kM z) (scd z k) (w * sL z + sdl z k)) (fnF (fun w => hearF (sL z) (kM z) (scd z k) (w * sL z + sdl z k)) (ssd z k)) (ssd z k) j = true) ||| q) (show nI 0 = bI (ab (hearF (sL z) (kM z) (scd z k) (j * sL z + sdl z k)) = fnF (fun w => hearF (sL z) (kM z) (scd z k) (w * sL z + sdl z k)) (ssd z k)) from (bI_f c_l))).trans (lsB_s (x := (fun w => hearF (sL z) (kM z) (scd z k) (w * sL z + sdl z k))))) ?_
                                        refine lv_istore (lv' := [(15, .int (bI (lsB (fun w => hearF (sL z) (kM z) (scd z k) (w * sL z + sdl z k)) (fnF (fun w => hearF (sL z) (kM z) (scd z k) (w * sL z + sdl z k)) (ssd z k)) (ssd z k) (j + 1) = true))), (13, .int (nI (wrF (sL z) (kM z) (scd z k) (sdl z k) (swd z k) (j + 1)))), (18, .int (hearF (sL z) (kM z) (scd z k) (j * sL z + sdl z k))), (17, .int (swd z k j)), (16, .int (nI j)), (14, .int (fnF (fun w => hearF (sL z) (kM z) (scd z k) (w * sL z + sdl z k)) (ssd z k))), (12, .int (nI (ssd z k))), (11, .int (nI k)), (10, .int (nI (endA z k))), (9, .int (nI (allW z (kM z) k))), (8, .int (nI (sumN (ssd z) k))), (7, .int (nI (sumN (ssr z) (k + 1)))), (6, .int (nI (sn z))), (5, .int (nI (sL z))), (4, .int x), (3, .int (nI tt)), (2, .ref (b 0)), (1, .ref (ad 0)), (0, .ref (gB g))]) hx hb dL_law_310 hl (by decide) rfl (fun ls hl => ?_)
                                        refine lv_iinc (v := nI (j + 1)) (lv' := [(16, .int (nI (j + 1))), (15, .int (bI (lsB (fun w => hearF (sL z) (kM z) (scd z k) (w * sL z + sdl z k)) (fnF (fun w => hearF (sL z) (kM z) (scd z k) (w * sL z + sdl z k)) (ssd z k)) (ssd z k) (j + 1) = true))), (13, .int (nI (wrF (sL z) (kM z) (scd z k) (sdl z k) (swd z k) (j + 1)))), (18, .int (hearF (sL z) (kM z) (scd z k) (j * sL z + sdl z k))), (17, .int (swd z k j)), (14, .int (fnF (fun w => hearF (sL z) (kM z) (scd z k) (w * sL z + sdl z k)) (ssd z k))), (12, .int (nI (ssd z k))), (11, .int (nI k)), (10, .int (nI (endA z k))), (9, .int (nI (allW z (kM z) k))), (8, .int (nI (sumN (ssd z) k))), (7, .int (nI (sumN (ssr z) (k + 1)))), (6, .int (nI (sn z))), (5, .int (nI (sL z))), (4, .int x), (3, .int (nI tt)), (2, .ref (b 0)), (1, .ref (ad 0)), (0, .ref (gB g))]) hx hb dL_law_312 hl (k := 4) rfl (nI_1 _) (by decide) rfl (fun ls hl => ?_)
                                        refine lv_goto (tgt := 142) hx hb dL_law_315 (by decide) ?_
                                        exact ih_142 (j + 1)  (by omega) (by omega)  _ _ hP hD hS hE _ (lv_sub hl [0, 1, 2, 5, 6, 7, 8, 9, 10, 11, 12, 13, 14, 15, 16, 17, 18] rfl)
                                      · refine lv_iconst (v := nI 1) hx hb dL_law_304 (by decide) ?_
                                        refine lv_goto (tgt := 309) hx hb dL_law_305 (by decide) ?_
                                        refine q_ior (v := bI (lsB (fun w => hearF (sL z) (kM z) (scd z k) (w * sL z + sdl z k)) (fnF (fun w => hearF (sL z) (kM z) (scd z k) (w * sL z + sdl z k)) (ssd z k)) (ssd z k) (j + 1) = true)) hx hb dL_law_309 ((congrArg (fun q => bI (lsB (fun w => hearF (sL z) (kM z) (scd z k) (w * sL z + sdl z k)) (fnF (fun w => hearF (sL z) (kM z) (scd z k) (w * sL z + sdl z k)) (ssd z k)) (ssd z k) j = true) ||| q) (show nI 1 = bI (ab (hearF (sL z) (kM z) (scd z k) (j * sL z + sdl z k)) = fnF (fun w => hearF (sL z) (kM z) (scd z k) (w * sL z + sdl z k)) (ssd z k)) from (bI_t c_l))).trans (lsB_s (x := (fun w => hearF (sL z) (kM z) (scd z k) (w * sL z + sdl z k))))) ?_
                                        refine lv_istore (lv' := [(15, .int (bI (lsB (fun w => hearF (sL z) (kM z) (scd z k) (w * sL z + sdl z k)) (fnF (fun w => hearF (sL z) (kM z) (scd z k) (w * sL z + sdl z k)) (ssd z k)) (ssd z k) (j + 1) = true))), (13, .int (nI (wrF (sL z) (kM z) (scd z k) (sdl z k) (swd z k) (j + 1)))), (18, .int (hearF (sL z) (kM z) (scd z k) (j * sL z + sdl z k))), (17, .int (swd z k j)), (16, .int (nI j)), (14, .int (fnF (fun w => hearF (sL z) (kM z) (scd z k) (w * sL z + sdl z k)) (ssd z k))), (12, .int (nI (ssd z k))), (11, .int (nI k)), (10, .int (nI (endA z k))), (9, .int (nI (allW z (kM z) k))), (8, .int (nI (sumN (ssd z) k))), (7, .int (nI (sumN (ssr z) (k + 1)))), (6, .int (nI (sn z))), (5, .int (nI (sL z))), (4, .int x), (3, .int (nI tt)), (2, .ref (b 0)), (1, .ref (ad 0)), (0, .ref (gB g))]) hx hb dL_law_310 hl (by decide) rfl (fun ls hl => ?_)
                                        refine lv_iinc (v := nI (j + 1)) (lv' := [(16, .int (nI (j + 1))), (15, .int (bI (lsB (fun w => hearF (sL z) (kM z) (scd z k) (w * sL z + sdl z k)) (fnF (fun w => hearF (sL z) (kM z) (scd z k) (w * sL z + sdl z k)) (ssd z k)) (ssd z k) (j + 1) = true))), (13, .int (nI (wrF (sL z) (kM z) (scd z k) (sdl z k) (swd z k) (j + 1)))), (18, .int (hearF (sL z) (kM z) (scd z k) (j * sL z + sdl z k))), (17, .int (swd z k j)), (14, .int (fnF (fun w => hearF (sL z) (kM z) (scd z k) (w * sL z + sdl z k)) (ssd z k))), (12, .int (nI (ssd z k))), (11, .int (nI k)), (10, .int (nI (endA z k))), (9, .int (nI (allW z (kM z) k))), (8, .int (nI (sumN (ssd z) k))), (7, .int (nI (sumN (ssr z) (k + 1)))), (6, .int (nI (sn z))), (5, .int (nI (sL z))), (4, .int x), (3, .int (nI tt)), (2, .ref (b 0)), (1, .ref (ad 0)), (0, .ref (gB g))]) hx hb dL_law_312 hl (k := 4) rfl (nI_1 _) (by decide) rfl (fun ls hl => ?_)
                                        refine lv_goto (tgt := 142) hx hb dL_law_315 (by decide) ?_
                                        exact ih_142 (j + 1)  (by omega) (by omega)  _ _ hP hD hS hE _ (lv_sub hl [0, 1, 2, 5, 6, 7, 8, 9, 10, 11, 12, 13, 14, 15, 16, 17, 18] rfl)
                                    · exact absurd (fnF_le (x := (fun w => hearF (sL z) (kM z) (scd z k) (w * sL z + sdl z k))) c_w) c_211
                              · exact absurd rfl c_208
                      · refine lv_iconst (v := nI 1) hx hb dL_law_210 (by decide) ?_
                        refine lv_goto (tgt := 215) hx hb dL_law_211 (by decide) ?_
                        refine lv_iload hx hb dL_law_215 (lv_at hl 1 rfl) ?_
                        refine lv_if_eq (tgt := 243) hx hb dL_law_217 (by decide) (fun c_x => ?_) (fun c_x => ?_)
                        · refine lv_iconst (v := nI 1) hx hb dL_law_243 (by decide) ?_
                          refine lv_goto (tgt := 248) hx hb dL_law_244 (by decide) ?_
                          refine q_icmp_ne (tgt := 290) hx hb (by omega) (by omega) dL_law_248 (by decide) (fun c_212 => ?_) (fun c_212 => ?_)
                          · exact absurd rfl c_212
                          · refine lv_iload hx hb dL_law_251 (lv_at hl 1 rfl) ?_
                            refine lv_aload_n hx hb dL_law_253 rfl (lv_at hl 17 rfl) ?_
                            refine lv_aload_n hx hb dL_law_254 rfl (lv_at hl 17 rfl) ?_
                            refine lv_iload hx hb dL_law_255 (lv_at hl 7 rfl) ?_
                            refine lv_iconst (v := nI 0) hx hb dL_law_257 (by decide) ?_
                            refine q_roV (As := [.int (nI k), .int (nI 0)]) (rest := [.ref (ad 0), .int (hearF (sL z) (kM z) (scd z k) (j * sL z + sdl z k))]) ⟨hx, hb, hml, hown, hts⟩ (k_about0 hI c_k) (cwV 2 hts gL_law_X3_about rfl rfl rfl (by decide +kernel) ⟨Nat.le_of_ble_eq_true rfl, Nat.le_of_ble_eq_true rfl⟩) hE (fun q h => hA q (Nat.le_trans hS.1 h)) (q_snd hP) (va_recv hE.K (q_snd hP) (ci := 4) (q0 := 0) rfl rfl) rfl hl.1 rfl (Nat.le_of_ble_eq_true rfl) dL_law_258 ⟨by show _ ≤ 1200130; omega, by show _ ≤ 5501080; omega⟩ ?_
                            refine lv_aload_n hx hb dL_law_261 rfl (lv_at hl 17 rfl) ?_
                            refine lv_iload hx hb dL_law_262 (lv_at hl 7 rfl) ?_
                            refine lv_iconst (v := nI 2) hx hb dL_law_264 (by decide) ?_
                            refine q_roV (As := [.int (nI k), .int (nI 2)]) (rest := [.int (nI (scd z k)), .ref (ad 0), .int (hearF (sL z) (kM z) (scd z k) (j * sL z + sdl z k))]) ⟨hx, hb, hml, hown, hts⟩ (k_about2 hI c_k) (cwV 2 hts gL_law_X3_about rfl rfl rfl (by decide +kernel) ⟨Nat.le_of_ble_eq_true rfl, Nat.le_of_ble_eq_true rfl⟩) hE (fun q h => hA q (Nat.le_trans hS.1 h)) (q_snd hP) (va_recv hE.K (q_snd hP) (ci := 4) (q0 := 0) rfl rfl) rfl hl.1 rfl (Nat.le_of_ble_eq_true rfl) dL_law_265 ⟨by show _ ≤ 1200130; omega, by show _ ≤ 5501080; omega⟩ ?_
                            refine lv_iload hx hb dL_law_268 (lv_at hl 13 rfl) ?_
                            refine lv_iload hx hb dL_law_270 (lv_at hl 3 rfl) ?_
                            refine q_imul (v := nI ((sL z) * j)) hx hb dL_law_272 (pk_mul _ _) ?_
                            refine q_iadd (v := nI (j * sL z + sdl z k)) hx hb dL_law_273 (by rw [nI_add, Nat.add_comm, Nat.mul_comm]) ?_
                            refine q_roV (As := [.int (nI (scd z k)), .int (nI (j * sL z + sdl z k))]) (rest := [.int (hearF (sL z) (kM z) (scd z k) (j * sL z + sdl z k))]) ⟨hx, hb, hml, hown, hts⟩ (k_hear hI (a := scd z k) (t := j * sL z + sdl z k) hd_.1 (by have := mul16 (a := j) hL.2; omega)) (cwV 2 hts gL_law_X3_hear rfl rfl rfl (by decide +kernel) ⟨Nat.le_of_ble_eq_true rfl, Nat.le_of_ble_eq_true rfl⟩) hE (fun q h => hA q (Nat.le_trans hS.1 h)) (q_snd hP) (va_recv hE.K (q_snd hP) (ci := 4) (q0 := 0) rfl rfl) rfl hl.1 rfl (Nat.le_of_ble_eq_true rfl) dL_law_274 ⟨by show _ ≤ 1200130; omega, by show _ ≤ 5501080; omega⟩ ?_
                            refine lv_icmp_ne (tgt := 290) hx hb dL_law_277 (by decide) (fun c_213 => ?_) (fun c_213 => ?_)
                            · exact absurd rfl c_213
                            · refine lv_iload hx hb dL_law_280 (lv_at hl 1 rfl) ?_
                              refine q_mabs (v := ab (hearF (sL z) (kM z) (scd z k) (j * sL z + sdl z k))) hx hb (hml.trans hl.1.symm) hown (hts _ (List.mem_of_getElem? (i := 3) rfl)) (hts _ (List.mem_of_getElem? (i := 4) rfl)) (hts _ (List.mem_of_getElem? (i := 5) rfl)) (hts _ (List.mem_of_getElem? (i := 6) rfl)) (Nat.le_of_ble_eq_true rfl) (Nat.le_of_ble_eq_true rfl) (by show _ ≤ 1200130; omega) (by show _ ≤ 5501080; omega) dL_law_282 rfl ?_
                              refine lv_iload hx hb dL_law_285 (lv_at hl 5 rfl) ?_
                              refine lv_icmp_ge (tgt := 292) hx hb dL_law_287 (by decide) (fun c_214 => ?_) (fun c_214 => ?_)
                              · refine lv_iload hx hb dL_law_292 (lv_at hl 4 rfl) ?_
                                refine lv_iload hx hb dL_law_294 (lv_at hl 1 rfl) ?_
                                refine q_mabs (v := ab (hearF (sL z) (kM z) (scd z k) (j * sL z + sdl z k))) hx hb (hml.trans hl.1.symm) hown (hts _ (List.mem_of_getElem? (i := 3) rfl)) (hts _ (List.mem_of_getElem? (i := 4) rfl)) (hts _ (List.mem_of_getElem? (i := 5) rfl)) (hts _ (List.mem_of_getElem? (i := 6) rfl)) (Nat.le_of_ble_eq_true rfl) (Nat.le_of_ble_eq_true rfl) (by show _ ≤ 1200130; omega) (by show _ ≤ 5501080; omega) dL_law_296 rfl ?_
                                refine lv_iload hx hb dL_law_299 (lv_at hl 5 rfl) ?_
                                refine lv_icmp_ne (tgt := 308) hx hb dL_law_301 (by decide) (fun c_l => ?_) (fun c_l => ?_)
                                · refine lv_iconst (v := nI 0) hx hb dL_law_308 (by decide) ?_
                                  refine q_ior (v := bI (lsB (fun w => hearF (sL z) (kM z) (scd z k) (w * sL z + sdl z k)) (fnF (fun w => hearF (sL z) (kM z) (scd z k) (w * sL z + sdl z k)) (ssd z k)) (ssd z k) (j + 1) = true)) hx hb dL_law_309 ((congrArg (fun q => bI (lsB (fun w => hearF (sL z) (kM z) (scd z k) (w * sL z + sdl z k)) (fnF (fun w => hearF (sL z) (kM z) (scd z k) (w * sL z + sdl z k)) (ssd z k)) (ssd z k) j = true) ||| q) (show nI 0 = bI (ab (hearF (sL z) (kM z) (scd z k) (j * sL z + sdl z k)) = fnF (fun w => hearF (sL z) (kM z) (scd z k) (w * sL z + sdl z k)) (ssd z k)) from (bI_f c_l))).trans (lsB_s (x := (fun w => hearF (sL z) (kM z) (scd z k) (w * sL z + sdl z k))))) ?_
                                  refine lv_istore (lv' := [(15, .int (bI (lsB (fun w => hearF (sL z) (kM z) (scd z k) (w * sL z + sdl z k)) (fnF (fun w => hearF (sL z) (kM z) (scd z k) (w * sL z + sdl z k)) (ssd z k)) (ssd z k) (j + 1) = true))), (13, .int (nI (wrF (sL z) (kM z) (scd z k) (sdl z k) (swd z k) (j + 1)))), (18, .int (hearF (sL z) (kM z) (scd z k) (j * sL z + sdl z k))), (17, .int (swd z k j)), (16, .int (nI j)), (14, .int (fnF (fun w => hearF (sL z) (kM z) (scd z k) (w * sL z + sdl z k)) (ssd z k))), (12, .int (nI (ssd z k))), (11, .int (nI k)), (10, .int (nI (endA z k))), (9, .int (nI (allW z (kM z) k))), (8, .int (nI (sumN (ssd z) k))), (7, .int (nI (sumN (ssr z) (k + 1)))), (6, .int (nI (sn z))), (5, .int (nI (sL z))), (4, .int x), (3, .int (nI tt)), (2, .ref (b 0)), (1, .ref (ad 0)), (0, .ref (gB g))]) hx hb dL_law_310 hl (by decide) rfl (fun ls hl => ?_)
                                  refine lv_iinc (v := nI (j + 1)) (lv' := [(16, .int (nI (j + 1))), (15, .int (bI (lsB (fun w => hearF (sL z) (kM z) (scd z k) (w * sL z + sdl z k)) (fnF (fun w => hearF (sL z) (kM z) (scd z k) (w * sL z + sdl z k)) (ssd z k)) (ssd z k) (j + 1) = true))), (13, .int (nI (wrF (sL z) (kM z) (scd z k) (sdl z k) (swd z k) (j + 1)))), (18, .int (hearF (sL z) (kM z) (scd z k) (j * sL z + sdl z k))), (17, .int (swd z k j)), (14, .int (fnF (fun w => hearF (sL z) (kM z) (scd z k) (w * sL z + sdl z k)) (ssd z k))), (12, .int (nI (ssd z k))), (11, .int (nI k)), (10, .int (nI (endA z k))), (9, .int (nI (allW z (kM z) k))), (8, .int (nI (sumN (ssd z) k))), (7, .int (nI (sumN (ssr z) (k + 1)))), (6, .int (nI (sn z))), (5, .int (nI (sL z))), (4, .int x), (3, .int (nI tt)), (2, .ref (b 0)), (1, .ref (ad 0)), (0, .ref (gB g))]) hx hb dL_law_312 hl (k := 4) rfl (nI_1 _) (by decide) rfl (fun ls hl => ?_)
                                  refine lv_goto (tgt := 142) hx hb dL_law_315 (by decide) ?_
                                  exact ih_142 (j + 1)  (by omega) (by omega)  _ _ hP hD hS hE _ (lv_sub hl [0, 1, 2, 5, 6, 7, 8, 9, 10, 11, 12, 13, 14, 15, 16, 17, 18] rfl)
                                · refine lv_iconst (v := nI 1) hx hb dL_law_304 (by decide) ?_
                                  refine lv_goto (tgt := 309) hx hb dL_law_305 (by decide) ?_
                                  refine q_ior (v := bI (lsB (fun w => hearF (sL z) (kM z) (scd z k) (w * sL z + sdl z k)) (fnF (fun w => hearF (sL z) (kM z) (scd z k) (w * sL z + sdl z k)) (ssd z k)) (ssd z k) (j + 1) = true)) hx hb dL_law_309 ((congrArg (fun q => bI (lsB (fun w => hearF (sL z) (kM z) (scd z k) (w * sL z + sdl z k)) (fnF (fun w => hearF (sL z) (kM z) (scd z k) (w * sL z + sdl z k)) (ssd z k)) (ssd z k) j = true) ||| q) (show nI 1 = bI (ab (hearF (sL z) (kM z) (scd z k) (j * sL z + sdl z k)) = fnF (fun w => hearF (sL z) (kM z) (scd z k) (w * sL z + sdl z k)) (ssd z k)) from (bI_t c_l))).trans (lsB_s (x := (fun w => hearF (sL z) (kM z) (scd z k) (w * sL z + sdl z k))))) ?_
                                  refine lv_istore (lv' := [(15, .int (bI (lsB (fun w => hearF (sL z) (kM z) (scd z k) (w * sL z + sdl z k)) (fnF (fun w => hearF (sL z) (kM z) (scd z k) (w * sL z + sdl z k)) (ssd z k)) (ssd z k) (j + 1) = true))), (13, .int (nI (wrF (sL z) (kM z) (scd z k) (sdl z k) (swd z k) (j + 1)))), (18, .int (hearF (sL z) (kM z) (scd z k) (j * sL z + sdl z k))), (17, .int (swd z k j)), (16, .int (nI j)), (14, .int (fnF (fun w => hearF (sL z) (kM z) (scd z k) (w * sL z + sdl z k)) (ssd z k))), (12, .int (nI (ssd z k))), (11, .int (nI k)), (10, .int (nI (endA z k))), (9, .int (nI (allW z (kM z) k))), (8, .int (nI (sumN (ssd z) k))), (7, .int (nI (sumN (ssr z) (k + 1)))), (6, .int (nI (sn z))), (5, .int (nI (sL z))), (4, .int x), (3, .int (nI tt)), (2, .ref (b 0)), (1, .ref (ad 0)), (0, .ref (gB g))]) hx hb dL_law_310 hl (by decide) rfl (fun ls hl => ?_)
                                  refine lv_iinc (v := nI (j + 1)) (lv' := [(16, .int (nI (j + 1))), (15, .int (bI (lsB (fun w => hearF (sL z) (kM z) (scd z k) (w * sL z + sdl z k)) (fnF (fun w => hearF (sL z) (kM z) (scd z k) (w * sL z + sdl z k)) (ssd z k)) (ssd z k) (j + 1) = true))), (13, .int (nI (wrF (sL z) (kM z) (scd z k) (sdl z k) (swd z k) (j + 1)))), (18, .int (hearF (sL z) (kM z) (scd z k) (j * sL z + sdl z k))), (17, .int (swd z k j)), (14, .int (fnF (fun w => hearF (sL z) (kM z) (scd z k) (w * sL z + sdl z k)) (ssd z k))), (12, .int (nI (ssd z k))), (11, .int (nI k)), (10, .int (nI (endA z k))), (9, .int (nI (allW z (kM z) k))), (8, .int (nI (sumN (ssd z) k))), (7, .int (nI (sumN (ssr z) (k + 1)))), (6, .int (nI (sn z))), (5, .int (nI (sL z))), (4, .int x), (3, .int (nI tt)), (2, .ref (b 0)), (1, .ref (ad 0)), (0, .ref (gB g))]) hx hb dL_law_312 hl (k := 4) rfl (nI_1 _) (by decide) rfl (fun ls hl => ?_)
                                  refine lv_goto (tgt := 142) hx hb dL_law_315 (by decide) ?_
                                  exact ih_142 (j + 1)  (by omega) (by omega)  _ _ hP hD hS hE _ (lv_sub hl [0, 1, 2, 5, 6, 7, 8, 9, 10, 11, 12, 13, 14, 15, 16, 17, 18] rfl)
                              · exact absurd (fnF_le (x := (fun w => hearF (sL z) (kM z) (scd z k) (w * sL z + sdl z k))) c_w) c_214
                        · refine lv_iload hx hb dL_law_220 (lv_at hl 1 rfl) ?_
                          refine lv_if_le (tgt := 229) hx hb dL_law_222 (by decide) (fun c_p => ?_) (fun c_p => ?_)
                          · refine lv_iconst (v := nI 0) hx hb dL_law_229 (by decide) ?_
                            refine lv_iload hx hb dL_law_230 (lv_at hl 2 rfl) ?_
                            refine lv_if_le (tgt := 239) hx hb dL_law_232 (by decide) (fun c_q => ?_) (fun c_q => ?_)
                            · refine lv_iconst (v := nI 0) hx hb dL_law_239 (by decide) ?_
                              refine q_icmp_eq (tgt := 247) hx hb (by omega) (by omega) dL_law_240 (by decide) (fun c_215 => ?_) (fun c_215 => ?_)
                              · refine lv_iconst (v := nI 0) hx hb dL_law_247 (by decide) ?_
                                refine q_icmp_ne (tgt := 290) hx hb (by omega) (by omega) dL_law_248 (by decide) (fun c_216 => ?_) (fun c_216 => ?_)
                                · exact (wr_e hX_ hw_ c_3 c_x c_p c_q).elim
                                · exact absurd c_216 (by decide)
                              · exact absurd rfl c_215
                            · refine lv_iconst (v := nI 1) hx hb dL_law_235 (by decide) ?_
                              refine lv_goto (tgt := 240) hx hb dL_law_236 (by decide) ?_
                              refine q_icmp_eq (tgt := 247) hx hb (by omega) (by omega) dL_law_240 (by decide) (fun c_217 => ?_) (fun c_217 => ?_)
                              · exact absurd c_217 (by decide)
                              · refine lv_iconst (v := nI 1) hx hb dL_law_243 (by decide) ?_
                                refine lv_goto (tgt := 248) hx hb dL_law_244 (by decide) ?_
                                refine q_icmp_ne (tgt := 290) hx hb (by omega) (by omega) dL_law_248 (by decide) (fun c_218 => ?_) (fun c_218 => ?_)
                                · exact absurd rfl c_218
                                · refine lv_iload hx hb dL_law_251 (lv_at hl 1 rfl) ?_
                                  refine lv_aload_n hx hb dL_law_253 rfl (lv_at hl 17 rfl) ?_
                                  refine lv_aload_n hx hb dL_law_254 rfl (lv_at hl 17 rfl) ?_
                                  refine lv_iload hx hb dL_law_255 (lv_at hl 7 rfl) ?_
                                  refine lv_iconst (v := nI 0) hx hb dL_law_257 (by decide) ?_
                                  refine q_roV (As := [.int (nI k), .int (nI 0)]) (rest := [.ref (ad 0), .int (hearF (sL z) (kM z) (scd z k) (j * sL z + sdl z k))]) ⟨hx, hb, hml, hown, hts⟩ (k_about0 hI c_k) (cwV 2 hts gL_law_X3_about rfl rfl rfl (by decide +kernel) ⟨Nat.le_of_ble_eq_true rfl, Nat.le_of_ble_eq_true rfl⟩) hE (fun q h => hA q (Nat.le_trans hS.1 h)) (q_snd hP) (va_recv hE.K (q_snd hP) (ci := 4) (q0 := 0) rfl rfl) rfl hl.1 rfl (Nat.le_of_ble_eq_true rfl) dL_law_258 ⟨by show _ ≤ 1200130; omega, by show _ ≤ 5501080; omega⟩ ?_
                                  refine lv_aload_n hx hb dL_law_261 rfl (lv_at hl 17 rfl) ?_
                                  refine lv_iload hx hb dL_law_262 (lv_at hl 7 rfl) ?_
                                  refine lv_iconst (v := nI 2) hx hb dL_law_264 (by decide) ?_
                                  refine q_roV (As := [.int (nI k), .int (nI 2)]) (rest := [.int (nI (scd z k)), .ref (ad 0), .int (hearF (sL z) (kM z) (scd z k) (j * sL z + sdl z k))]) ⟨hx, hb, hml, hown, hts⟩ (k_about2 hI c_k) (cwV 2 hts gL_law_X3_about rfl rfl rfl (by decide +kernel) ⟨Nat.le_of_ble_eq_true rfl, Nat.le_of_ble_eq_true rfl⟩) hE (fun q h => hA q (Nat.le_trans hS.1 h)) (q_snd hP) (va_recv hE.K (q_snd hP) (ci := 4) (q0 := 0) rfl rfl) rfl hl.1 rfl (Nat.le_of_ble_eq_true rfl) dL_law_265 ⟨by show _ ≤ 1200130; omega, by show _ ≤ 5501080; omega⟩ ?_
                                  refine lv_iload hx hb dL_law_268 (lv_at hl 13 rfl) ?_
                                  refine lv_iload hx hb dL_law_270 (lv_at hl 3 rfl) ?_
                                  refine q_imul (v := nI ((sL z) * j)) hx hb dL_law_272 (pk_mul _ _) ?_
                                  refine q_iadd (v := nI (j * sL z + sdl z k)) hx hb dL_law_273 (by rw [nI_add, Nat.add_comm, Nat.mul_comm]) ?_
                                  refine q_roV (As := [.int (nI (scd z k)), .int (nI (j * sL z + sdl z k))]) (rest := [.int (hearF (sL z) (kM z) (scd z k) (j * sL z + sdl z k))]) ⟨hx, hb, hml, hown, hts⟩ (k_hear hI (a := scd z k) (t := j * sL z + sdl z k) hd_.1 (by have := mul16 (a := j) hL.2; omega)) (cwV 2 hts gL_law_X3_hear rfl rfl rfl (by decide +kernel) ⟨Nat.le_of_ble_eq_true rfl, Nat.le_of_ble_eq_true rfl⟩) hE (fun q h => hA q (Nat.le_trans hS.1 h)) (q_snd hP) (va_recv hE.K (q_snd hP) (ci := 4) (q0 := 0) rfl rfl) rfl hl.1 rfl (Nat.le_of_ble_eq_true rfl) dL_law_274 ⟨by show _ ≤ 1200130; omega, by show _ ≤ 5501080; omega⟩ ?_
                                  refine lv_icmp_ne (tgt := 290) hx hb dL_law_277 (by decide) (fun c_219 => ?_) (fun c_219 => ?_)
                                  · exact absurd rfl c_219
                                  · refine lv_iload hx hb dL_law_280 (lv_at hl 1 rfl) ?_
                                    refine q_mabs (v := ab (hearF (sL z) (kM z) (scd z k) (j * sL z + sdl z k))) hx hb (hml.trans hl.1.symm) hown (hts _ (List.mem_of_getElem? (i := 3) rfl)) (hts _ (List.mem_of_getElem? (i := 4) rfl)) (hts _ (List.mem_of_getElem? (i := 5) rfl)) (hts _ (List.mem_of_getElem? (i := 6) rfl)) (Nat.le_of_ble_eq_true rfl) (Nat.le_of_ble_eq_true rfl) (by show _ ≤ 1200130; omega) (by show _ ≤ 5501080; omega) dL_law_282 rfl ?_
                                    refine lv_iload hx hb dL_law_285 (lv_at hl 5 rfl) ?_
                                    refine lv_icmp_ge (tgt := 292) hx hb dL_law_287 (by decide) (fun c_220 => ?_) (fun c_220 => ?_)
                                    · refine lv_iload hx hb dL_law_292 (lv_at hl 4 rfl) ?_
                                      refine lv_iload hx hb dL_law_294 (lv_at hl 1 rfl) ?_
                                      refine q_mabs (v := ab (hearF (sL z) (kM z) (scd z k) (j * sL z + sdl z k))) hx hb (hml.trans hl.1.symm) hown (hts _ (List.mem_of_getElem? (i := 3) rfl)) (hts _ (List.mem_of_getElem? (i := 4) rfl)) (hts _ (List.mem_of_getElem? (i := 5) rfl)) (hts _ (List.mem_of_getElem? (i := 6) rfl)) (Nat.le_of_ble_eq_true rfl) (Nat.le_of_ble_eq_true rfl) (by show _ ≤ 1200130; omega) (by show _ ≤ 5501080; omega) dL_law_296 rfl ?_
                                      refine lv_iload hx hb dL_law_299 (lv_at hl 5 rfl) ?_
                                      refine lv_icmp_ne (tgt := 308) hx hb dL_law_301 (by decide) (fun c_l => ?_) (fun c_l => ?_)
                                      · refine lv_iconst (v := nI 0) hx hb dL_law_308 (by decide) ?_
                                        refine q_ior (v := bI (lsB (fun w => hearF (sL z) (kM z) (scd z k) (w * sL z + sdl z k)) (fnF (fun w => hearF (sL z) (kM z) (scd z k) (w * sL z + sdl z k)) (ssd z k)) (ssd z k) (j + 1) = true)) hx hb dL_law_309 ((congrArg (fun q => bI (lsB (fun w => hearF (sL z) (kM z) (scd z k) (w * sL z + sdl z k)) (fnF (fun w => hearF (sL z) (kM z) (scd z k) (w * sL z + sdl z k)) (ssd z k)) (ssd z k) j = true) ||| q) (show nI 0 = bI (ab (hearF (sL z) (kM z) (scd z k) (j * sL z + sdl z k)) = fnF (fun w => hearF (sL z) (kM z) (scd z k) (w * sL z + sdl z k)) (ssd z k)) from (bI_f c_l))).trans (lsB_s (x := (fun w => hearF (sL z) (kM z) (scd z k) (w * sL z + sdl z k))))) ?_
                                        refine lv_istore (lv' := [(15, .int (bI (lsB (fun w => hearF (sL z) (kM z) (scd z k) (w * sL z + sdl z k)) (fnF (fun w => hearF (sL z) (kM z) (scd z k) (w * sL z + sdl z k)) (ssd z k)) (ssd z k) (j + 1) = true))), (13, .int (nI (wrF (sL z) (kM z) (scd z k) (sdl z k) (swd z k) (j + 1)))), (18, .int (hearF (sL z) (kM z) (scd z k) (j * sL z + sdl z k))), (17, .int (swd z k j)), (16, .int (nI j)), (14, .int (fnF (fun w => hearF (sL z) (kM z) (scd z k) (w * sL z + sdl z k)) (ssd z k))), (12, .int (nI (ssd z k))), (11, .int (nI k)), (10, .int (nI (endA z k))), (9, .int (nI (allW z (kM z) k))), (8, .int (nI (sumN (ssd z) k))), (7, .int (nI (sumN (ssr z) (k + 1)))), (6, .int (nI (sn z))), (5, .int (nI (sL z))), (4, .int x), (3, .int (nI tt)), (2, .ref (b 0)), (1, .ref (ad 0)), (0, .ref (gB g))]) hx hb dL_law_310 hl (by decide) rfl (fun ls hl => ?_)
                                        refine lv_iinc (v := nI (j + 1)) (lv' := [(16, .int (nI (j + 1))), (15, .int (bI (lsB (fun w => hearF (sL z) (kM z) (scd z k) (w * sL z + sdl z k)) (fnF (fun w => hearF (sL z) (kM z) (scd z k) (w * sL z + sdl z k)) (ssd z k)) (ssd z k) (j + 1) = true))), (13, .int (nI (wrF (sL z) (kM z) (scd z k) (sdl z k) (swd z k) (j + 1)))), (18, .int (hearF (sL z) (kM z) (scd z k) (j * sL z + sdl z k))), (17, .int (swd z k j)), (14, .int (fnF (fun w => hearF (sL z) (kM z) (scd z k) (w * sL z + sdl z k)) (ssd z k))), (12, .int (nI (ssd z k))), (11, .int (nI k)), (10, .int (nI (endA z k))), (9, .int (nI (allW z (kM z) k))), (8, .int (nI (sumN (ssd z) k))), (7, .int (nI (sumN (ssr z) (k + 1)))), (6, .int (nI (sn z))), (5, .int (nI (sL z))), (4, .int x), (3, .int (nI tt)), (2, .ref (b 0)), (1, .ref (ad 0)), (0, .ref (gB g))]) hx hb dL_law_312 hl (k := 4) rfl (nI_1 _) (by decide) rfl (fun ls hl => ?_)
                                        refine lv_goto (tgt := 142) hx hb dL_law_315 (by decide) ?_
                                        exact ih_142 (j + 1)  (by omega) (by omega)  _ _ hP hD hS hE _ (lv_sub hl [0, 1, 2, 5, 6, 7, 8, 9, 10, 11, 12, 13, 14, 15, 16, 17, 18] rfl)
                                      · refine lv_iconst (v := nI 1) hx hb dL_law_304 (by decide) ?_
                                        refine lv_goto (tgt := 309) hx hb dL_law_305 (by decide) ?_
                                        refine q_ior (v := bI (lsB (fun w => hearF (sL z) (kM z) (scd z k) (w * sL z + sdl z k)) (fnF (fun w => hearF (sL z) (kM z) (scd z k) (w * sL z + sdl z k)) (ssd z k)) (ssd z k) (j + 1) = true)) hx hb dL_law_309 ((congrArg (fun q => bI (lsB (fun w => hearF (sL z) (kM z) (scd z k) (w * sL z + sdl z k)) (fnF (fun w => hearF (sL z) (kM z) (scd z k) (w * sL z + sdl z k)) (ssd z k)) (ssd z k) j = true) ||| q) (show nI 1 = bI (ab (hearF (sL z) (kM z) (scd z k) (j * sL z + sdl z k)) = fnF (fun w => hearF (sL z) (kM z) (scd z k) (w * sL z + sdl z k)) (ssd z k)) from (bI_t c_l))).trans (lsB_s (x := (fun w => hearF (sL z) (kM z) (scd z k) (w * sL z + sdl z k))))) ?_
                                        refine lv_istore (lv' := [(15, .int (bI (lsB (fun w => hearF (sL z) (kM z) (scd z k) (w * sL z + sdl z k)) (fnF (fun w => hearF (sL z) (kM z) (scd z k) (w * sL z + sdl z k)) (ssd z k)) (ssd z k) (j + 1) = true))), (13, .int (nI (wrF (sL z) (kM z) (scd z k) (sdl z k) (swd z k) (j + 1)))), (18, .int (hearF (sL z) (kM z) (scd z k) (j * sL z + sdl z k))), (17, .int (swd z k j)), (16, .int (nI j)), (14, .int (fnF (fun w => hearF (sL z) (kM z) (scd z k) (w * sL z + sdl z k)) (ssd z k))), (12, .int (nI (ssd z k))), (11, .int (nI k)), (10, .int (nI (endA z k))), (9, .int (nI (allW z (kM z) k))), (8, .int (nI (sumN (ssd z) k))), (7, .int (nI (sumN (ssr z) (k + 1)))), (6, .int (nI (sn z))), (5, .int (nI (sL z))), (4, .int x), (3, .int (nI tt)), (2, .ref (b 0)), (1, .ref (ad 0)), (0, .ref (gB g))]) hx hb dL_law_310 hl (by decide) rfl (fun ls hl => ?_)
                                        refine lv_iinc (v := nI (j + 1)) (lv' := [(16, .int (nI (j + 1))), (15, .int (bI (lsB (fun w => hearF (sL z) (kM z) (scd z k) (w * sL z + sdl z k)) (fnF (fun w => hearF (sL z) (kM z) (scd z k) (w * sL z + sdl z k)) (ssd z k)) (ssd z k) (j + 1) = true))), (13, .int (nI (wrF (sL z) (kM z) (scd z k) (sdl z k) (swd z k) (j + 1)))), (18, .int (hearF (sL z) (kM z) (scd z k) (j * sL z + sdl z k))), (17, .int (swd z k j)), (14, .int (fnF (fun w => hearF (sL z) (kM z) (scd z k) (w * sL z + sdl z k)) (ssd z k))), (12, .int (nI (ssd z k))), (11, .int (nI k)), (10, .int (nI (endA z k))), (9, .int (nI (allW z (kM z) k))), (8, .int (nI (sumN (ssd z) k))), (7, .int (nI (sumN (ssr z) (k + 1)))), (6, .int (nI (sn z))), (5, .int (nI (sL z))), (4, .int x), (3, .int (nI tt)), (2, .ref (b 0)), (1, .ref (ad 0)), (0, .ref (gB g))]) hx hb dL_law_312 hl (k := 4) rfl (nI_1 _) (by decide) rfl (fun ls hl => ?_)
                                        refine lv_goto (tgt := 142) hx hb dL_law_315 (by decide) ?_
                                        exact ih_142 (j + 1)  (by omega) (by omega)  _ _ hP hD hS hE _ (lv_sub hl [0, 1, 2, 5, 6, 7, 8, 9, 10, 11, 12, 13, 14, 15, 16, 17, 18] rfl)
                                    · exact absurd (fnF_le (x := (fun w => hearF (sL z) (kM z) (scd z k) (w * sL z + sdl z k))) c_w) c_220
                          · refine lv_iconst (v := nI 1) hx hb dL_law_225 (by decide) ?_
                            refine lv_goto (tgt := 230) hx hb dL_law_226 (by decide) ?_
                            refine lv_iload hx hb dL_law_230 (lv_at hl 2 rfl) ?_
                            refine lv_if_le (tgt := 239) hx hb dL_law_232 (by decide) (fun c_q => ?_) (fun c_q => ?_)
                            · refine lv_iconst (v := nI 0) hx hb dL_law_239 (by decide) ?_
                              refine q_icmp_eq (tgt := 247) hx hb (by omega) (by omega) dL_law_240 (by decide) (fun c_221 => ?_) (fun c_221 => ?_)
                              · exact absurd c_221 (by decide)
                              · refine lv_iconst (v := nI 1) hx hb dL_law_243 (by decide) ?_
                                refine lv_goto (tgt := 248) hx hb dL_law_244 (by decide) ?_
                                refine q_icmp_ne (tgt := 290) hx hb (by omega) (by omega) dL_law_248 (by decide) (fun c_222 => ?_) (fun c_222 => ?_)
                                · exact absurd rfl c_222
                                · refine lv_iload hx hb dL_law_251 (lv_at hl 1 rfl) ?_
                                  refine lv_aload_n hx hb dL_law_253 rfl (lv_at hl 17 rfl) ?_
                                  refine lv_aload_n hx hb dL_law_254 rfl (lv_at hl 17 rfl) ?_
                                  refine lv_iload hx hb dL_law_255 (lv_at hl 7 rfl) ?_
                                  refine lv_iconst (v := nI 0) hx hb dL_law_257 (by decide) ?_
                                  refine q_roV (As := [.int (nI k), .int (nI 0)]) (rest := [.ref (ad 0), .int (hearF (sL z) (kM z) (scd z k) (j * sL z + sdl z k))]) ⟨hx, hb, hml, hown, hts⟩ (k_about0 hI c_k) (cwV 2 hts gL_law_X3_about rfl rfl rfl (by decide +kernel) ⟨Nat.le_of_ble_eq_true rfl, Nat.le_of_ble_eq_true rfl⟩) hE (fun q h => hA q (Nat.le_trans hS.1 h)) (q_snd hP) (va_recv hE.K (q_snd hP) (ci := 4) (q0 := 0) rfl rfl) rfl hl.1 rfl (Nat.le_of_ble_eq_true rfl) dL_law_258 ⟨by show _ ≤ 1200130; omega, by show _ ≤ 5501080; omega⟩ ?_
                                  refine lv_aload_n hx hb dL_law_261 rfl (lv_at hl 17 rfl) ?_
                                  refine lv_iload hx hb dL_law_262 (lv_at hl 7 rfl) ?_
                                  refine lv_iconst (v := nI 2) hx hb dL_law_264 (by decide) ?_
                                  refine q_roV (As := [.int (nI k), .int (nI 2)]) (rest := [.int (nI (scd z k)), .ref (ad 0), .int (hearF (sL z) (kM z) (scd z k) (j * sL z + sdl z k))]) ⟨hx, hb, hml, hown, hts⟩ (k_about2 hI c_k) (cwV 2 hts gL_law_X3_about rfl rfl rfl (by decide +kernel) ⟨Nat.le_of_ble_eq_true rfl, Nat.le_of_ble_eq_true rfl⟩) hE (fun q h => hA q (Nat.le_trans hS.1 h)) (q_snd hP) (va_recv hE.K (q_snd hP) (ci := 4) (q0 := 0) rfl rfl) rfl hl.1 rfl (Nat.le_of_ble_eq_true rfl) dL_law_265 ⟨by show _ ≤ 1200130; omega, by show _ ≤ 5501080; omega⟩ ?_
                                  refine lv_iload hx hb dL_law_268 (lv_at hl 13 rfl) ?_
                                  refine lv_iload hx hb dL_law_270 (lv_at hl 3 rfl) ?_
                                  refine q_imul (v := nI ((sL z) * j)) hx hb dL_law_272 (pk_mul _ _) ?_
                                  refine q_iadd (v := nI (j * sL z + sdl z k)) hx hb dL_law_273 (by rw [nI_add, Nat.add_comm, Nat.mul_comm]) ?_
                                  refine q_roV (As := [.int (nI (scd z k)), .int (nI (j * sL z + sdl z k))]) (rest := [.int (hearF (sL z) (kM z) (scd z k) (j * sL z + sdl z k))]) ⟨hx, hb, hml, hown, hts⟩ (k_hear hI (a := scd z k) (t := j * sL z + sdl z k) hd_.1 (by have := mul16 (a := j) hL.2; omega)) (cwV 2 hts gL_law_X3_hear rfl rfl rfl (by decide +kernel) ⟨Nat.le_of_ble_eq_true rfl, Nat.le_of_ble_eq_true rfl⟩) hE (fun q h => hA q (Nat.le_trans hS.1 h)) (q_snd hP) (va_recv hE.K (q_snd hP) (ci := 4) (q0 := 0) rfl rfl) rfl hl.1 rfl (Nat.le_of_ble_eq_true rfl) dL_law_274 ⟨by show _ ≤ 1200130; omega, by show _ ≤ 5501080; omega⟩ ?_
                                  refine lv_icmp_ne (tgt := 290) hx hb dL_law_277 (by decide) (fun c_223 => ?_) (fun c_223 => ?_)
                                  · exact absurd rfl c_223
                                  · refine lv_iload hx hb dL_law_280 (lv_at hl 1 rfl) ?_
                                    refine q_mabs (v := ab (hearF (sL z) (kM z) (scd z k) (j * sL z + sdl z k))) hx hb (hml.trans hl.1.symm) hown (hts _ (List.mem_of_getElem? (i := 3) rfl)) (hts _ (List.mem_of_getElem? (i := 4) rfl)) (hts _ (List.mem_of_getElem? (i := 5) rfl)) (hts _ (List.mem_of_getElem? (i := 6) rfl)) (Nat.le_of_ble_eq_true rfl) (Nat.le_of_ble_eq_true rfl) (by show _ ≤ 1200130; omega) (by show _ ≤ 5501080; omega) dL_law_282 rfl ?_
                                    refine lv_iload hx hb dL_law_285 (lv_at hl 5 rfl) ?_
                                    refine lv_icmp_ge (tgt := 292) hx hb dL_law_287 (by decide) (fun c_224 => ?_) (fun c_224 => ?_)
                                    · refine lv_iload hx hb dL_law_292 (lv_at hl 4 rfl) ?_
                                      refine lv_iload hx hb dL_law_294 (lv_at hl 1 rfl) ?_
                                      refine q_mabs (v := ab (hearF (sL z) (kM z) (scd z k) (j * sL z + sdl z k))) hx hb (hml.trans hl.1.symm) hown (hts _ (List.mem_of_getElem? (i := 3) rfl)) (hts _ (List.mem_of_getElem? (i := 4) rfl)) (hts _ (List.mem_of_getElem? (i := 5) rfl)) (hts _ (List.mem_of_getElem? (i := 6) rfl)) (Nat.le_of_ble_eq_true rfl) (Nat.le_of_ble_eq_true rfl) (by show _ ≤ 1200130; omega) (by show _ ≤ 5501080; omega) dL_law_296 rfl ?_
                                      refine lv_iload hx hb dL_law_299 (lv_at hl 5 rfl) ?_
                                      refine lv_icmp_ne (tgt := 308) hx hb dL_law_301 (by decide) (fun c_l => ?_) (fun c_l => ?_)
                                      · refine lv_iconst (v := nI 0) hx hb dL_law_308 (by decide) ?_
                                        refine q_ior (v := bI (lsB (fun w => hearF (sL z) (kM z) (scd z k) (w * sL z + sdl z k)) (fnF (fun w => hearF (sL z) (kM z) (scd z k) (w * sL z + sdl z k)) (ssd z k)) (ssd z k) (j + 1) = true)) hx hb dL_law_309 ((congrArg (fun q => bI (lsB (fun w => hearF (sL z) (kM z) (scd z k) (w * sL z + sdl z k)) (fnF (fun w => hearF (sL z) (kM z) (scd z k) (w * sL z + sdl z k)) (ssd z k)) (ssd z k) j = true) ||| q) (show nI 0 = bI (ab (hearF (sL z) (kM z) (scd z k) (j * sL z + sdl z k)) = fnF (fun w => hearF (sL z) (kM z) (scd z k) (w * sL z + sdl z k)) (ssd z k)) from (bI_f c_l))).trans (lsB_s (x := (fun w => hearF (sL z) (kM z) (scd z k) (w * sL z + sdl z k))))) ?_
                                        refine lv_istore (lv' := [(15, .int (bI (lsB (fun w => hearF (sL z) (kM z) (scd z k) (w * sL z + sdl z k)) (fnF (fun w => hearF (sL z) (kM z) (scd z k) (w * sL z + sdl z k)) (ssd z k)) (ssd z k) (j + 1) = true))), (13, .int (nI (wrF (sL z) (kM z) (scd z k) (sdl z k) (swd z k) (j + 1)))), (18, .int (hearF (sL z) (kM z) (scd z k) (j * sL z + sdl z k))), (17, .int (swd z k j)), (16, .int (nI j)), (14, .int (fnF (fun w => hearF (sL z) (kM z) (scd z k) (w * sL z + sdl z k)) (ssd z k))), (12, .int (nI (ssd z k))), (11, .int (nI k)), (10, .int (nI (endA z k))), (9, .int (nI (allW z (kM z) k))), (8, .int (nI (sumN (ssd z) k))), (7, .int (nI (sumN (ssr z) (k + 1)))), (6, .int (nI (sn z))), (5, .int (nI (sL z))), (4, .int x), (3, .int (nI tt)), (2, .ref (b 0)), (1, .ref (ad 0)), (0, .ref (gB g))]) hx hb dL_law_310 hl (by decide) rfl (fun ls hl => ?_)
                                        refine lv_iinc (v := nI (j + 1)) (lv' := [(16, .int (nI (j + 1))), (15, .int (bI (lsB (fun w => hearF (sL z) (kM z) (scd z k) (w * sL z + sdl z k)) (fnF (fun w => hearF (sL z) (kM z) (scd z k) (w * sL z + sdl z k)) (ssd z k)) (ssd z k) (j + 1) = true))), (13, .int (nI (wrF (sL z) (kM z) (scd z k) (sdl z k) (swd z k) (j + 1)))), (18, .int (hearF (sL z) (kM z) (scd z k) (j * sL z + sdl z k))), (17, .int (swd z k j)), (14, .int (fnF (fun w => hearF (sL z) (kM z) (scd z k) (w * sL z + sdl z k)) (ssd z k))), (12, .int (nI (ssd z k))), (11, .int (nI k)), (10, .int (nI (endA z k))), (9, .int (nI (allW z (kM z) k))), (8, .int (nI (sumN (ssd z) k))), (7, .int (nI (sumN (ssr z) (k + 1)))), (6, .int (nI (sn z))), (5, .int (nI (sL z))), (4, .int x), (3, .int (nI tt)), (2, .ref (b 0)), (1, .ref (ad 0)), (0, .ref (gB g))]) hx hb dL_law_312 hl (k := 4) rfl (nI_1 _) (by decide) rfl (fun ls hl => ?_)
                                        refine lv_goto (tgt := 142) hx hb dL_law_315 (by decide) ?_
                                        exact ih_142 (j + 1)  (by omega) (by omega)  _ _ hP hD hS hE _ (lv_sub hl [0, 1, 2, 5, 6, 7, 8, 9, 10, 11, 12, 13, 14, 15, 16, 17, 18] rfl)
                                      · refine lv_iconst (v := nI 1) hx hb dL_law_304 (by decide) ?_
                                        refine lv_goto (tgt := 309) hx hb dL_law_305 (by decide) ?_
                                        refine q_ior (v := bI (lsB (fun w => hearF (sL z) (kM z) (scd z k) (w * sL z + sdl z k)) (fnF (fun w => hearF (sL z) (kM z) (scd z k) (w * sL z + sdl z k)) (ssd z k)) (ssd z k) (j + 1) = true)) hx hb dL_law_309 ((congrArg (fun q => bI (lsB (fun w => hearF (sL z) (kM z) (scd z k) (w * sL z + sdl z k)) (fnF (fun w => hearF (sL z) (kM z) (scd z k) (w * sL z + sdl z k)) (ssd z k)) (ssd z k) j = true) ||| q) (show nI 1 = bI (ab (hearF (sL z) (kM z) (scd z k) (j * sL z + sdl z k)) = fnF (fun w => hearF (sL z) (kM z) (scd z k) (w * sL z + sdl z k)) (ssd z k)) from (bI_t c_l))).trans (lsB_s (x := (fun w => hearF (sL z) (kM z) (scd z k) (w * sL z + sdl z k))))) ?_
                                        refine lv_istore (lv' := [(15, .int (bI (lsB (fun w => hearF (sL z) (kM z) (scd z k) (w * sL z + sdl z k)) (fnF (fun w => hearF (sL z) (kM z) (scd z k) (w * sL z + sdl z k)) (ssd z k)) (ssd z k) (j + 1) = true))), (13, .int (nI (wrF (sL z) (kM z) (scd z k) (sdl z k) (swd z k) (j + 1)))), (18, .int (hearF (sL z) (kM z) (scd z k) (j * sL z + sdl z k))), (17, .int (swd z k j)), (16, .int (nI j)), (14, .int (fnF (fun w => hearF (sL z) (kM z) (scd z k) (w * sL z + sdl z k)) (ssd z k))), (12, .int (nI (ssd z k))), (11, .int (nI k)), (10, .int (nI (endA z k))), (9, .int (nI (allW z (kM z) k))), (8, .int (nI (sumN (ssd z) k))), (7, .int (nI (sumN (ssr z) (k + 1)))), (6, .int (nI (sn z))), (5, .int (nI (sL z))), (4, .int x), (3, .int (nI tt)), (2, .ref (b 0)), (1, .ref (ad 0)), (0, .ref (gB g))]) hx hb dL_law_310 hl (by decide) rfl (fun ls hl => ?_)
                                        refine lv_iinc (v := nI (j + 1)) (lv' := [(16, .int (nI (j + 1))), (15, .int (bI (lsB (fun w => hearF (sL z) (kM z) (scd z k) (w * sL z + sdl z k)) (fnF (fun w => hearF (sL z) (kM z) (scd z k) (w * sL z + sdl z k)) (ssd z k)) (ssd z k) (j + 1) = true))), (13, .int (nI (wrF (sL z) (kM z) (scd z k) (sdl z k) (swd z k) (j + 1)))), (18, .int (hearF (sL z) (kM z) (scd z k) (j * sL z + sdl z k))), (17, .int (swd z k j)), (14, .int (fnF (fun w => hearF (sL z) (kM z) (scd z k) (w * sL z + sdl z k)) (ssd z k))), (12, .int (nI (ssd z k))), (11, .int (nI k)), (10, .int (nI (endA z k))), (9, .int (nI (allW z (kM z) k))), (8, .int (nI (sumN (ssd z) k))), (7, .int (nI (sumN (ssr z) (k + 1)))), (6, .int (nI (sn z))), (5, .int (nI (sL z))), (4, .int x), (3, .int (nI tt)), (2, .ref (b 0)), (1, .ref (ad 0)), (0, .ref (gB g))]) hx hb dL_law_312 hl (k := 4) rfl (nI_1 _) (by decide) rfl (fun ls hl => ?_)
                                        refine lv_goto (tgt := 142) hx hb dL_law_315 (by decide) ?_
                                        exact ih_142 (j + 1)  (by omega) (by omega)  _ _ hP hD hS hE _ (lv_sub hl [0, 1, 2, 5, 6, 7, 8, 9, 10, 11, 12, 13, 14, 15, 16, 17, 18] rfl)
                                    · exact absurd (fnF_le (x := (fun w => hearF (sL z) (kM z) (scd z k) (w * sL z + sdl z k))) c_w) c_224
                            · refine lv_iconst (v := nI 1) hx hb dL_law_235 (by decide) ?_
                              refine lv_goto (tgt := 240) hx hb dL_law_236 (by decide) ?_
                              refine q_icmp_eq (tgt := 247) hx hb (by omega) (by omega) dL_law_240 (by decide) (fun c_225 => ?_) (fun c_225 => ?_)
                              · refine lv_iconst (v := nI 0) hx hb dL_law_247 (by decide) ?_
                                refine q_icmp_ne (tgt := 290) hx hb (by omega) (by omega) dL_law_248 (by decide) (fun c_226 => ?_) (fun c_226 => ?_)
                                · exact (wr_d hX_ hw_ c_3 c_x c_p c_q).elim
                                · exact absurd c_226 (by decide)
                              · exact absurd rfl c_225
            
            exact lp_142 (ssd z k + 1) 0  (Nat.zero_le _) (by omega)  _ _ hP hD hS hE _ (lv_sub hl [0, 1, 3, 2, 4, 6, 7, 8, 9, 5, 10, 11, 12, 13, 14, 15, 16] rfl)
  
  exact lp_81 (sn z + 1) 0  (Nat.zero_le _) (by omega)  _ _ hP hD hS hE _ (lv_sub hl [0, 1, 2, 3, 4, 5, 6, 7, 8, 9, 10, 11] rfl)
