/-! ===== in the end all is as by hand ===== -/
theorem fp_cmp {x : Int32} {e : Nat} (hx : x.toInt.natAbs < 1048576) (h0 : 0 < e) (he : e < 208) : FP.Core.dcmp (FP.Core.ddiv (FP.i2d x) (FP.i2d (Int32.ofNat e))) (FP.Core.ddiv (FP.i2d x) (FP.i2d (Int32.ofNat e))) = some .eq := by
  refine FP.Core.dcmp_self ?_
  rw [FP.Core.val64_ddiv]
  obtain ⟨s, c, q, h1⟩ := fp_i2d x hx
  have h2 := fp_i2e e he h0
  unfold fpO at h2
  have h1 : FP.Core.val64 (FP.i2d x) = .fin s c q := h1
  rw [h1]
  cases h3 : FP.Core.decode FP.Core.b64 (FP.i2d (Int32.ofNat e)).toNat with
  | nan => rw [h3] at h2; cases h2
  | inf s => rw [h3] at h2; cases h2
  | fin t d r =>
    rw [h3] at h2
    have h3 : FP.Core.val64 (FP.i2d (Int32.ofNat e)) = .fin t d r := h3
    rw [h3]
    unfold FP.Core.quotient
    dsimp only
    rw [if_neg (of_decide_eq_true h2)]
    intro h
    have := fp_rr (!(s == t)) c d (q - r)
    first
      | (rw [h] at this; exact this)
      | (have h5 := fp_rr (s != t) c d (q - r); rw [h] at h5; exact h5)
      | (have h5 := fp_rr _ _ _ _ ▸ h; exact absurd h (fun q => by have := fp_rr _ _ _ _ ; rw [q] at this; exact this))
theorem mn_big {x : Int32} : mn 2147483647 x = x := by
  unfold mn
  by_cases c : x < 2147483647
  · rw [if_pos c]
  · rw [if_neg c]
    have h := q_rng x
    have h2 := Int32.not_lt.mp c
    have h3 := Int32.le_iff_toInt_le.mp h2
    have h4 : (2147483647 : Int32).toInt = 2147483647 := rfl
    exact Int32.toInt_inj.mp (by omega)
/-- the least so far -/
def lsM (x : Nat → Int32) (sd : Nat) : Nat → Int32
  | 0 => if sd = 0 then nI 0 else 2147483647
  | n + 1 => mn (lsM x sd n) (ab (x n))
theorem lsM_f {x : Nat → Int32} {sd : Nat} (h : 0 < sd) : ∀ {n : Nat}, 0 < n → lsM x sd n = fnF x n
  | 0, h0 => absurd h0 (Nat.lt_irrefl 0)
  | 1, _ => by
    show mn (if sd = 0 then nI 0 else 2147483647) (ab (x 0)) = _
    rw [if_neg (by omega), mn_big, fnF, if_pos (Or.inl rfl)]
  | n + 2, _ => by
    show mn (lsM x sd (n + 1)) (ab (x (n + 1))) = _
    rw [lsM_f h (by omega)]
    show mn (fnF x (n + 1)) (ab (x (n + 1))) = if n + 1 = 0 ∨ ab (x (n + 1)) < fnF x (n + 1) then ab (x (n + 1)) else fnF x (n + 1)
    unfold mn
    by_cases c : ab (x (n + 1)) < fnF x (n + 1)
    · rw [if_pos c, if_pos (Or.inr c)]
    · rw [if_neg c, if_neg (fun q => q.elim (by omega) c)]
theorem lsM_e {x : Nat → Int32} {sd : Nat} : lsM x sd sd = fnF x sd := by
  by_cases c : sd = 0
  · subst c; rfl
  · exact lsM_f (by omega) (by omega)
theorem told_e {z : sT} {K : Nat → Int32} {k : Nat} : ∀ j, j < 7 → upd (upd (upd (upd (upd (upd (upd (fun _ => 0) 0 (nI (scd z k))) 1 (nI (ssr z k))) 2 (nI (sdl z k))) 3 (nI (ssd z k))) 4 (nI (wrF (sL z) K (scd z k) (sdl z k) (swd z k) (ssd z k)))) 5 (nI (endF (sL z) (ssd z k) (sdl z k)))) 6 (fnF (fun w => hearF (sL z) K (scd z k) (w * sL z + sdl z k)) (ssd z k)) j = abtV z K k j := by
  intro j hj
  rcases (show j = 0 ∨ j = 1 ∨ j = 2 ∨ j = 3 ∨ j = 4 ∨ j = 5 ∨ j = 6 by omega) with rfl | rfl | rfl | rfl | rfl | rfl | rfl <;> rfl
theorem counts_e {z : sT} {K : Nat → Int32} : ∀ j, j < 7 → upd (upd (upd (upd (upd (upd (upd (fun _ => 0) 0 (nI (sL z))) 1 (nI (sn z))) 2 (nI (sumN (ssd z) (sn z)))) 3 (nI (allW z K (sn z)))) 4 (nI (endA z (sn z)))) 5 (hiF K (endA z (sn z)))) 6 (nI (freeN z)) j = cntV z K j := by
  intro j hj
  rcases (show j = 0 ∨ j = 1 ∨ j = 2 ∨ j = 3 ∨ j = 4 ∨ j = 5 ∨ j = 6 by omega) with rfl | rfl | rfl | rfl | rfl | rfl | rfl <;> rfl
section QDC
variable {p : Program} {l : Launch} {e : Env} {R : Room} {s : State} {m : MethodId} {args : Array Value} {below : List Frame} {meth : Method} {c : Code} {H : Heap} {locs : List Loc} {cells slots : Nat} {Q : State → Prop}
variable {cc : ByteArray} {pc : Nat} {ls : Array Slot} {rest : List Value}
theorem q_dcmpE (hx : p.tables.exec = Jvm.exec) (hb : c.code = cc) {x y : UInt64} {op : CmpOp} (d : decode cc pc = .ok (.dcmp op, 1)) (he : FP.dcmp x y = some .eq) (k : W p l e R s m args below meth c H locs cells slots Q (F0 m (pc + 1) ls (.int (nI 0) :: rest))) : W p l e R s m args below meth c H locs cells slots Q (F0 m pc ls (.double y :: .double x :: rest)) := by
  refine lv_dcmp hx hb d ?_
  rw [he]
  exact k
end QDC
set_option maxHeartbeats 4000000 in
set_option maxRecDepth 100000 in
theorem c_X4_isSame {l : Launch} {g : gT} {sz : Nat} {b ad : Nat → Nat} {mc : Int32} {M : Nat} {sig : Nat → Int32} {z : sT} (hI : IW z M sig) : NW (S := Unit) l yX4_isSame wsX4_isSame ({ frames := 7, cells := 12, slots := 2200, locals := 154 } : Room) [.ref (b 0), .ref (ad 0)] g (fun H => va_P g.1 vwCl (wS g b z) H ∧ va_P g.1 vwCl (wC g ad mc M sig z) H) sz (fun _ : Unit => []) (fun _ => some (.int (nI 1))) 12 2200 := by
  refine NW.of (cc := cX4_isSame) (maxL := 11) (ret := (some .boolean)) (by decide) rfl (Nat.le_of_ble_eq_true rfl) ?_
  intro p e s m below meth c hx hb hml hr hlocks hown hin0 hts hsz hE0 hF ls hl
  subst hsz
  have hown : s.vm.findClass RX4 = some m.cls := hown
  have hA : ∀ q, s.heap.size ≤ q → va_A [] s.heap.size q := fun q h => Or.inr h
  have hE := hE0
  have hS : va_S (va_A [] s.heap.size) s.heap s.heap [] := va_S.rf
  have hP : va_P g.1 vwCl [] s.heap := q_Pnil
  have hD : va_D (va_A [] s.heap.size) [] := q_Dnil
  obtain ⟨hQ0, hC0⟩ := hF
  have hQ := hQ0
  have hC := hC0
  have hl : lv_has ls 11 [(0, .ref (b 0)), (1, .ref (ad 0))] := hl
  have hV := hI.V
  have hM := hI.M
  have hL := hV.L
  have hn := hV.n
  have hen := endA_le hV (Nat.le_refl (sn z))
  refine lv_aload_n hx hb dX4_isSame_0 rfl (lv_at hl 0 rfl) ?_
  refine q_nwV (wr := []) (As := []) (rest := []) ⟨hx, hb, hml, hown, hts⟩ (c_X4_sky hV) (cwV 0 hts gX4_isSame_X4_sky rfl rfl rfl (by decide +kernel) ⟨Nat.le_of_ble_eq_true rfl, Nat.le_of_ble_eq_true rfl⟩) hE hP hD hS hA hQ (va_recv hE.K hQ (ci := 5) (q0 := 0) rfl rfl) rfl hl.1 rfl (Nat.le_of_ble_eq_true rfl) dX4_isSame_1 ⟨Nat.le_of_ble_eq_true rfl, Nat.le_of_ble_eq_true rfl⟩ (fun y H locs hP hD hS hE => ?_)
  have hP : va_P g.1 vwCl ([(y, ints g 1020 (kM z))]) H := hP
  have hD : va_D (va_A [] s.heap.size) ([(y, ints g 1020 (kM z))]) := hD
  have hQ := q_keep hQ0 hS
  have hC := q_keep hC0 hS
  refine lv_astore_n (lv' := [(2, .ref y), (0, .ref (b 0)), (1, .ref (ad 0))]) hx hb dX4_isSame_4 rfl hl (by decide) rfl (fun ls hl => ?_)
  refine lv_iconst (v := nI 0) hx hb dX4_isSame_5 (by decide) ?_
  refine lv_istore_n (lv' := [(3, .int (nI 0)), (2, .ref y), (0, .ref (b 0)), (1, .ref (ad 0))]) hx hb dX4_isSame_6 rfl hl (by decide) rfl (fun ls hl => ?_)
  refine lv_iconst (v := nI 0) hx hb dX4_isSame_7 (by decide) ?_
  refine lv_istore (lv' := [(4, .int (nI 0)), (3, .int (nI 0)), (2, .ref y), (0, .ref (b 0)), (1, .ref (ad 0))]) hx hb dX4_isSame_8 hl (by decide) rfl (fun ls hl => ?_)
  refine lv_iconst (v := nI 0) hx hb dX4_isSame_10 (by decide) ?_
  refine lv_istore (lv' := [(5, .int (nI 0)), (4, .int (nI 0)), (3, .int (nI 0)), (2, .ref y), (0, .ref (b 0)), (1, .ref (ad 0))]) hx hb dX4_isSame_11 hl (by decide) rfl (fun ls hl => ?_)
  refine lv_iconst (v := nI 0) hx hb dX4_isSame_13 (by decide) ?_
  refine lv_istore (lv' := [(6, .int (nI 0)), (5, .int (nI 0)), (4, .int (nI 0)), (3, .int (nI 0)), (2, .ref y), (0, .ref (b 0)), (1, .ref (ad 0))]) hx hb dX4_isSame_14 hl (by decide) rfl (fun ls hl => ?_)
  refine lv_iconst (v := nI 0) hx hb dX4_isSame_16 (by decide) ?_
  refine lv_istore (lv' := [(7, .int (nI 0)), (6, .int (nI 0)), (5, .int (nI 0)), (4, .int (nI 0)), (3, .int (nI 0)), (2, .ref y), (0, .ref (b 0)), (1, .ref (ad 0))]) hx hb dX4_isSame_17 hl (by decide) rfl (fun ls hl => ?_)
  have lp_19 : ∀ (n_ i : Nat) , i ≤ endA z (sn z) → endA z (sn z) + 1 ≤ i + n_ → ∀ (H : Heap) (locs : List Loc), va_P g.1 vwCl ([(y, ints g 1020 (kM z))]) H → va_D (va_A [] s.heap.size) ([(y, ints g 1020 (kM z))]) → va_S (va_A [] s.heap.size) s.heap H locs → Ev g (va_A [] s.heap.size) s H → ∀ (ls : Array Slot), lv_has ls 11 [(7, .int (nI i)), (6, .int (nI 0)), (5, .int (sumI (kM z) i)), (4, .int (hiF (kM z) i)), (3, .int (nI 0)), (0, .ref (b 0)), (1, .ref (ad 0)), (2, .ref y)] → W p l e ({ frames := 7, cells := 12, slots := 2200, locals := 154 } : Room) s m ([.ref (b 0), .ref (ad 0)] : List Value).toArray below meth c H locs (0 + 1) (0 + 1020) (MQ below (q_Qw (fun _ : Unit => []) (fun _ => some (.int (nI 1))) g [] s.heap.size) ([.ref (b 0), .ref (ad 0)] : List Value).toArray s 12 2200 (va_A [] s.heap.size)) (F0 m 19 ls []) := by
    intro n_
    induction n_ with
    | zero => intro i  hi_ hn_; exact absurd hn_ (by omega)
    | succ n_ ih_19 =>
      intro i  hi_i hn_i  H locs hP hD hS hE ls hl
      have hQ := q_keep hQ0 hS
      have hC := q_keep hC0 hS
      refine lv_iload hx hb dX4_isSame_19 (lv_at hl 0 rfl) ?_
      refine lv_aload_n hx hb dX4_isSame_21 rfl (lv_at hl 5 rfl) ?_
      refine q_roV (As := []) (rest := [.int (nI i)]) ⟨hx, hb, hml, hown, hts⟩ (c_X4_end_ hV) (cwV 0 hts gX4_isSame_X4_end_ rfl rfl rfl (by decide +kernel) ⟨Nat.le_of_ble_eq_true rfl, Nat.le_of_ble_eq_true rfl⟩) hE (fun q h => hA q (Nat.le_trans hS.1 h)) hQ (va_recv hE.K hQ (ci := 5) (q0 := 0) rfl rfl) rfl hl.1 rfl (Nat.le_of_ble_eq_true rfl) dX4_isSame_22 ⟨by show _ ≤ 12; omega, by show _ ≤ 2200; omega⟩ ?_
      refine q_icmp_ge (tgt := 57) hx hb (by omega) (by omega) dX4_isSame_25 (by decide) (fun c_1 => ?_) (fun c_1 => ?_)
      · have ei : i = endA z (sn z) := by omega
        rw [ei] at hl
        refine lv_iconst (v := nI 0) hx hb dX4_isSame_57 (by decide) ?_
        refine lv_istore (lv' := [(7, .int (nI 0)), (6, .int (nI 0)), (5, .int (sumI (kM z) (endA z (sn z)))), (4, .int (hiF (kM z) (endA z (sn z)))), (3, .int (nI 0)), (0, .ref (b 0)), (1, .ref (ad 0)), (2, .ref y)]) hx hb dX4_isSame_58 hl (by decide) rfl (fun ls hl => ?_)
        have lp_60 : ∀ (n_ i : Nat) , i ≤ sL z → sL z + 1 ≤ i + n_ → ∀ (H : Heap) (locs : List Loc), va_P g.1 vwCl ([(y, ints g 1020 (kM z))]) H → va_D (va_A [] s.heap.size) ([(y, ints g 1020 (kM z))]) → va_S (va_A [] s.heap.size) s.heap H locs → Ev g (va_A [] s.heap.size) s H → ∀ (ls : Array Slot), lv_has ls 11 [(7, .int (nI i)), (6, .int (nI (sumN (fun c => if takB z c (sn z) = true then 0 else 1) i))), (5, .int (sumI (kM z) (endA z (sn z)))), (4, .int (hiF (kM z) (endA z (sn z)))), (3, .int (nI 0)), (0, .ref (b 0)), (1, .ref (ad 0)), (2, .ref y)] → W p l e ({ frames := 7, cells := 12, slots := 2200, locals := 154 } : Room) s m ([.ref (b 0), .ref (ad 0)] : List Value).toArray below meth c H locs (0 + 1) (0 + 1020) (MQ below (q_Qw (fun _ : Unit => []) (fun _ => some (.int (nI 1))) g [] s.heap.size) ([.ref (b 0), .ref (ad 0)] : List Value).toArray s 12 2200 (va_A [] s.heap.size)) (F0 m 60 ls []) := by
          intro n_
          induction n_ with
          | zero => intro i  hi_ hn_; exact absurd hn_ (by omega)
          | succ n_ ih_60 =>
            intro i  hi_i hn_i  H locs hP hD hS hE ls hl
            have hQ := q_keep hQ0 hS
            have hC := q_keep hC0 hS
            refine lv_iload hx hb dX4_isSame_60 (lv_at hl 0 rfl) ?_
            refine lv_aload_n hx hb dX4_isSame_62 rfl (lv_at hl 5 rfl) ?_
            refine q_roV (As := []) (rest := [.int (nI i)]) ⟨hx, hb, hml, hown, hts⟩ (c_X4_length hV) (cwV 0 hts gX4_isSame_X4_length rfl rfl rfl (by decide +kernel) ⟨Nat.le_of_ble_eq_true rfl, Nat.le_of_ble_eq_true rfl⟩) hE (fun q h => hA q (Nat.le_trans hS.1 h)) hQ (va_recv hE.K hQ (ci := 5) (q0 := 0) rfl rfl) rfl hl.1 rfl (Nat.le_of_ble_eq_true rfl) dX4_isSame_63 ⟨by show _ ≤ 12; omega, by show _ ≤ 2200; omega⟩ ?_
            refine q_icmp_ge (tgt := 94) hx hb (by omega) (by omega) dX4_isSame_66 (by decide) (fun c_2 => ?_) (fun c_2 => ?_)
            · have ei : i = sL z := by omega
              rw [ei] at hl
              have hl : lv_has ls 11 [(7, .int (nI (sL z))), (6, .int (nI (freeN z))), (5, .int (sumI (kM z) (endA z (sn z)))), (4, .int (hiF (kM z) (endA z (sn z)))), (3, .int (nI 0)), (0, .ref (b 0)), (1, .ref (ad 0)), (2, .ref y)] := hl
              refine lv_iconst (v := nI 0) hx hb dX4_isSame_94 (by decide) ?_
              refine lv_istore (lv' := [(7, .int (nI 0)), (6, .int (nI (freeN z))), (5, .int (sumI (kM z) (endA z (sn z)))), (4, .int (hiF (kM z) (endA z (sn z)))), (3, .int (nI 0)), (0, .ref (b 0)), (1, .ref (ad 0)), (2, .ref y)]) hx hb dX4_isSame_95 hl (by decide) rfl (fun ls hl => ?_)
              have lp_97 : ∀ (n_ i : Nat) , i ≤ sn z → sn z + 1 ≤ i + n_ → ∀ (H : Heap) (locs : List Loc), va_P g.1 vwCl ([(y, ints g 1020 (kM z))]) H → va_D (va_A [] s.heap.size) ([(y, ints g 1020 (kM z))]) → va_S (va_A [] s.heap.size) s.heap H locs → Ev g (va_A [] s.heap.size) s H → ∀ (ls : Array Slot), lv_has ls 11 [(7, .int (nI i)), (3, .int (nI (sumN (ssd z) i))), (6, .int (nI (freeN z))), (5, .int (sumI (kM z) (endA z (sn z)))), (4, .int (hiF (kM z) (endA z (sn z)))), (0, .ref (b 0)), (1, .ref (ad 0)), (2, .ref y)] → W p l e ({ frames := 7, cells := 12, slots := 2200, locals := 154 } : Room) s m ([.ref (b 0), .ref (ad 0)] : List Value).toArray below meth c H locs (1 + i) (1020 + 7 * i) (MQ below (q_Qw (fun _ : Unit => []) (fun _ => some (.int (nI 1))) g [] s.heap.size) ([.ref (b 0), .ref (ad 0)] : List Value).toArray s 12 2200 (va_A [] s.heap.size)) (F0 m 97 ls []) := by
                intro n_
                induction n_ with
                | zero => intro i  hi_ hn_; exact absurd hn_ (by omega)
                | succ n_ ih_97 =>
                  intro i  hi_i hn_i  H locs hP hD hS hE ls hl
                  have hQ := q_keep hQ0 hS
                  have hC := q_keep hC0 hS
                  refine lv_iload hx hb dX4_isSame_97 (lv_at hl 0 rfl) ?_
                  refine lv_aload_n hx hb dX4_isSame_99 rfl (lv_at hl 5 rfl) ?_
                  refine va_get (v := .ref (b 3)) (C := RX4) (T := TX4) (N := 4) hx hb hts (q_sub wsX40 203 rfl) hown hE.K hQ 0 rfl rfl 1 (by decide) (hts _ (List.mem_of_getElem? (i := 8) rfl)) (fun _ h9 => h9) rfl dX4_isSame_100 ?_
                  refine q_alenA (v := nI (sn z)) hx hb hE (hQ 3 _ rfl) dX4_isSame_103 rfl ?_
                  refine q_icmp_ge (tgt := 371) hx hb (by omega) (by omega) dX4_isSame_104 (by decide) (fun c_h => ?_) (fun c_h => ?_)
                  · have ei : i = sn z := by omega
                    rw [ei] at hl
                    refine W.widen (k := 9) (n := 1076) (by omega) (by omega) ?_
                    refine lv_bipush (v := nI 7) hx hb dX4_isSame_371 (by decide) ?_
                    refine q_newI (n := 7) hx hb (hts _ (List.mem_of_getElem? (i := 14) rfl)) hE hP hD hS hA (by omega) (Nat.le_of_ble_eq_true rfl) (Nat.le_of_ble_eq_true rfl) dX4_isSame_373 (fun q H hP hD hS => ?_)
                    have hP : va_P g.1 vwCl ([(y, ints g 1020 (kM z)), (q, ints g 7 (fun _ => 0))]) H := hP
                    have hD : va_D (va_A [] s.heap.size) ([(y, ints g 1020 (kM z)), (q, ints g 7 (fun _ => 0))]) := hD
                    have hE := hE0.kept hS.2.1
                    have hQ := q_keep hQ0 hS
                    have hC := q_keep hC0 hS
                    refine lv_dup hx hb dX4_isSame_375 rfl ?_
                    refine lv_iconst (v := nI 0) hx hb dX4_isSame_376 (by decide) ?_
                    refine lv_aload_n hx hb dX4_isSame_377 rfl (lv_at hl 5 rfl) ?_
                    refine q_roV (As := []) (rest := [.int (nI 0), .ref q, .ref q]) ⟨hx, hb, hml, hown, hts⟩ (c_X4_length hV) (cwV 0 hts gX4_isSame_X4_length rfl rfl rfl (by decide +kernel) ⟨Nat.le_of_ble_eq_true rfl, Nat.le_of_ble_eq_true rfl⟩) hE (fun q h => hA q (Nat.le_trans hS.1 h)) hQ (va_recv hE.K hQ (ci := 5) (q0 := 0) rfl rfl) rfl hl.1 rfl (Nat.le_of_ble_eq_true rfl) dX4_isSame_378 ⟨by show _ ≤ 12; omega, by show _ ≤ 2200; omega⟩ ?_
                    refine q_iast hx hb hE hP hD hS (q0 := 1) rfl (by omega) (by omega) dX4_isSame_381 (fun H locs hP hD hS => ?_)
                    have hP : va_P g.1 vwCl ([(y, ints g 1020 (kM z)), (q, ints g 7 (upd (fun _ => 0) 0 (nI (sL z))))]) H := hP
                    have hD : va_D (va_A [] s.heap.size) ([(y, ints g 1020 (kM z)), (q, ints g 7 (upd (fun _ => 0) 0 (nI (sL z))))]) := hD
                    have hE := hE0.kept hS.2.1
                    have hQ := q_keep hQ0 hS
                    have hC := q_keep hC0 hS
                    refine lv_dup hx hb dX4_isSame_382 rfl ?_
                    refine lv_iconst (v := nI 1) hx hb dX4_isSame_383 (by decide) ?_
                    refine lv_aload_n hx hb dX4_isSame_384 rfl (lv_at hl 5 rfl) ?_
                    refine va_get (v := .ref (b 3)) (C := RX4) (T := TX4) (N := 4) hx hb hts (q_sub wsX40 203 rfl) hown hE.K hQ 0 rfl rfl 1 (by decide) (hts _ (List.mem_of_getElem? (i := 8) rfl)) (fun _ h9 => h9) rfl dX4_isSame_385 ?_
                    refine q_alenA (v := nI (sn z)) hx hb hE (hQ 3 _ rfl) dX4_isSame_388 rfl ?_
                    refine q_iast hx hb hE hP hD hS (q0 := 1) rfl (by omega) (by omega) dX4_isSame_389 (fun H locs hP hD hS => ?_)
                    have hP : va_P g.1 vwCl ([(y, ints g 1020 (kM z)), (q, ints g 7 (upd (upd (fun _ => 0) 0 (nI (sL z))) 1 (nI (sn z))))]) H := hP
                    have hD : va_D (va_A [] s.heap.size) ([(y, ints g 1020 (kM z)), (q, ints g 7 (upd (upd (fun _ => 0) 0 (nI (sL z))) 1 (nI (sn z))))]) := hD
                    have hE := hE0.kept hS.2.1
                    have hQ := q_keep hQ0 hS
                    have hC := q_keep hC0 hS
                    refine lv_dup hx hb dX4_isSame_390 rfl ?_
                    refine lv_iconst (v := nI 2) hx hb dX4_isSame_391 (by decide) ?_
                    refine lv_iload_n hx hb dX4_isSame_392 rfl (lv_at hl 1 rfl) ?_
                    refine q_iast hx hb hE hP hD hS (q0 := 1) rfl (by omega) (by omega) dX4_isSame_393 (fun H locs hP hD hS => ?_)
                    have hP : va_P g.1 vwCl ([(y, ints g 1020 (kM z)), (q, ints g 7 (upd (upd (upd (fun _ => 0) 0 (nI (sL z))) 1 (nI (sn z))) 2 (nI (sumN (ssd z) (sn z)))))]) H := hP
                    have hD : va_D (va_A [] s.heap.size) ([(y, ints g 1020 (kM z)), (q, ints g 7 (upd (upd (upd (fun _ => 0) 0 (nI (sL z))) 1 (nI (sn z))) 2 (nI (sumN (ssd z) (sn z)))))]) := hD
                    have hE := hE0.kept hS.2.1
                    have hQ := q_keep hQ0 hS
                    have hC := q_keep hC0 hS
                    refine lv_dup hx hb dX4_isSame_394 rfl ?_
                    refine lv_iconst (v := nI 3) hx hb dX4_isSame_395 (by decide) ?_
                    refine lv_aload_n hx hb dX4_isSame_396 rfl (lv_at hl 5 rfl) ?_
                    refine q_nwV (wr := [(y, ints g 1020 (kM z)), (q, ints g 7 (upd (upd (upd (fun _ => 0) 0 (nI (sL z))) 1 (nI (sn z))) 2 (nI (sumN (ssd z) (sn z)))))]) (As := []) (rest := [.int (nI 3), .ref q, .ref q]) ⟨hx, hb, hml, hown, hts⟩ (c_X4_wrong_ hV) (cwV 0 hts gX4_isSame_X4_wrong_ rfl rfl rfl (by decide +kernel) ⟨Nat.le_of_ble_eq_true rfl, Nat.le_of_ble_eq_true rfl⟩) hE hP hD hS hA hQ (va_recv hE.K hQ (ci := 5) (q0 := 0) rfl rfl) rfl hl.1 rfl (Nat.le_of_ble_eq_true rfl) dX4_isSame_397 ⟨Nat.le_of_ble_eq_true rfl, Nat.le_of_ble_eq_true rfl⟩ (fun _u H locs hP hD hS hE => ?_)
                    have hP : va_P g.1 vwCl ([(y, ints g 1020 (kM z)), (q, ints g 7 (upd (upd (upd (fun _ => 0) 0 (nI (sL z))) 1 (nI (sn z))) 2 (nI (sumN (ssd z) (sn z)))))]) H :=  hP
                    have hD : va_D (va_A [] s.heap.size) ([(y, ints g 1020 (kM z)), (q, ints g 7 (upd (upd (upd (fun _ => 0) 0 (nI (sL z))) 1 (nI (sn z))) 2 (nI (sumN (ssd z) (sn z)))))]) :=  hD
                    have hQ := q_keep hQ0 hS
                    have hC := q_keep hC0 hS
                    refine q_iast hx hb hE hP hD hS (q0 := 1) rfl (by omega) (by omega) dX4_isSame_400 (fun H locs hP hD hS => ?_)
                    have hP : va_P g.1 vwCl ([(y, ints g 1020 (kM z)), (q, ints g 7 (upd (upd (upd (upd (fun _ => 0) 0 (nI (sL z))) 1 (nI (sn z))) 2 (nI (sumN (ssd z) (sn z)))) 3 (nI (allW z (kM z) (sn z)))))]) H := hP
                    have hD : va_D (va_A [] s.heap.size) ([(y, ints g 1020 (kM z)), (q, ints g 7 (upd (upd (upd (upd (fun _ => 0) 0 (nI (sL z))) 1 (nI (sn z))) 2 (nI (sumN (ssd z) (sn z)))) 3 (nI (allW z (kM z) (sn z)))))]) := hD
                    have hE := hE0.kept hS.2.1
                    have hQ := q_keep hQ0 hS
                    have hC := q_keep hC0 hS
                    refine lv_dup hx hb dX4_isSame_401 rfl ?_
                    refine lv_iconst (v := nI 4) hx hb dX4_isSame_402 (by decide) ?_
                    refine lv_aload_n hx hb dX4_isSame_403 rfl (lv_at hl 5 rfl) ?_
                    refine q_roV (As := []) (rest := [.int (nI 4), .ref q, .ref q]) ⟨hx, hb, hml, hown, hts⟩ (c_X4_end_ hV) (cwV 0 hts gX4_isSame_X4_end_ rfl rfl rfl (by decide +kernel) ⟨Nat.le_of_ble_eq_true rfl, Nat.le_of_ble_eq_true rfl⟩) hE (fun q h => hA q (Nat.le_trans hS.1 h)) hQ (va_recv hE.K hQ (ci := 5) (q0 := 0) rfl rfl) rfl hl.1 rfl (Nat.le_of_ble_eq_true rfl) dX4_isSame_404 ⟨by show _ ≤ 12; omega, by show _ ≤ 2200; omega⟩ ?_
                    refine q_iast hx hb hE hP hD hS (q0 := 1) rfl (by omega) (by omega) dX4_isSame_407 (fun H locs hP hD hS => ?_)
                    have hP : va_P g.1 vwCl ([(y, ints g 1020 (kM z)), (q, ints g 7 (upd (upd (upd (upd (upd (fun _ => 0) 0 (nI (sL z))) 1 (nI (sn z))) 2 (nI (sumN (ssd z) (sn z)))) 3 (nI (allW z (kM z) (sn z)))) 4 (nI (endA z (sn z)))))]) H := hP
                    have hD : va_D (va_A [] s.heap.size) ([(y, ints g 1020 (kM z)), (q, ints g 7 (upd (upd (upd (upd (upd (fun _ => 0) 0 (nI (sL z))) 1 (nI (sn z))) 2 (nI (sumN (ssd z) (sn z)))) 3 (nI (allW z (kM z) (sn z)))) 4 (nI (endA z (sn z)))))]) := hD
                    have hE := hE0.kept hS.2.1
                    have hQ := q_keep hQ0 hS
                    have hC := q_keep hC0 hS
                    refine lv_dup hx hb dX4_isSame_408 rfl ?_
                    refine lv_iconst (v := nI 5) hx hb dX4_isSame_409 (by decide) ?_
                    refine lv_iload hx hb dX4_isSame_410 (lv_at hl 4 rfl) ?_
                    refine q_iast hx hb hE hP hD hS (q0 := 1) rfl (by omega) (by omega) dX4_isSame_412 (fun H locs hP hD hS => ?_)
                    have hP : va_P g.1 vwCl ([(y, ints g 1020 (kM z)), (q, ints g 7 (upd (upd (upd (upd (upd (upd (fun _ => 0) 0 (nI (sL z))) 1 (nI (sn z))) 2 (nI (sumN (ssd z) (sn z)))) 3 (nI (allW z (kM z) (sn z)))) 4 (nI (endA z (sn z)))) 5 (hiF (kM z) (endA z (sn z)))))]) H := hP
                    have hD : va_D (va_A [] s.heap.size) ([(y, ints g 1020 (kM z)), (q, ints g 7 (upd (upd (upd (upd (upd (upd (fun _ => 0) 0 (nI (sL z))) 1 (nI (sn z))) 2 (nI (sumN (ssd z) (sn z)))) 3 (nI (allW z (kM z) (sn z)))) 4 (nI (endA z (sn z)))) 5 (hiF (kM z) (endA z (sn z)))))]) := hD
                    have hE := hE0.kept hS.2.1
                    have hQ := q_keep hQ0 hS
                    have hC := q_keep hC0 hS
                    refine lv_dup hx hb dX4_isSame_413 rfl ?_
                    refine lv_bipush (v := nI 6) hx hb dX4_isSame_414 (by decide) ?_
                    refine lv_iload hx hb dX4_isSame_416 (lv_at hl 2 rfl) ?_
                    refine q_iast hx hb hE hP hD hS (q0 := 1) rfl (by omega) (by omega) dX4_isSame_418 (fun H locs hP hD hS => ?_)
                    have hP : va_P g.1 vwCl ([(y, ints g 1020 (kM z)), (q, ints g 7 (upd (upd (upd (upd (upd (upd (upd (fun _ => 0) 0 (nI (sL z))) 1 (nI (sn z))) 2 (nI (sumN (ssd z) (sn z)))) 3 (nI (allW z (kM z) (sn z)))) 4 (nI (endA z (sn z)))) 5 (hiF (kM z) (endA z (sn z)))) 6 (nI (freeN z))))]) H := hP
                    have hD : va_D (va_A [] s.heap.size) ([(y, ints g 1020 (kM z)), (q, ints g 7 (upd (upd (upd (upd (upd (upd (upd (fun _ => 0) 0 (nI (sL z))) 1 (nI (sn z))) 2 (nI (sumN (ssd z) (sn z)))) 3 (nI (allW z (kM z) (sn z)))) 4 (nI (endA z (sn z)))) 5 (hiF (kM z) (endA z (sn z)))) 6 (nI (freeN z))))]) := hD
                    have hE := hE0.kept hS.2.1
                    have hQ := q_keep hQ0 hS
                    have hC := q_keep hC0 hS
                    have hP : va_P g.1 vwCl ([(y, ints g 1020 (kM z)), (q, ints g 7 (fun j => cntV z (kM z) j))]) H := q_lastP (l := [(y, ints g 1020 (kM z))]) counts_e hP
                    have hD : va_D (va_A [] s.heap.size) ([(y, ints g 1020 (kM z)), (q, ints g 7 (fun j => cntV z (kM z) j))]) := q_lastD (l := [(y, ints g 1020 (kM z))]) hD
                    refine lv_astore (lv' := [(7, .ref q), (3, .int (nI (sumN (ssd z) (sn z)))), (6, .int (nI (freeN z))), (5, .int (sumI (kM z) (endA z (sn z)))), (4, .int (hiF (kM z) (endA z (sn z)))), (0, .ref (b 0)), (1, .ref (ad 0)), (2, .ref y)]) hx hb dX4_isSame_419 hl (by decide) rfl (fun ls hl => ?_)
                    refine lv_iconst (v := nI 0) hx hb dX4_isSame_421 (by decide) ?_
                    refine lv_istore (lv' := [(8, .int (nI 0)), (7, .ref q), (3, .int (nI (sumN (ssd z) (sn z)))), (6, .int (nI (freeN z))), (5, .int (sumI (kM z) (endA z (sn z)))), (4, .int (hiF (kM z) (endA z (sn z)))), (0, .ref (b 0)), (1, .ref (ad 0)), (2, .ref y)]) hx hb dX4_isSame_422 hl (by decide) rfl (fun ls hl => ?_)
                    have lp_424 : ∀ (n_ i : Nat) , i ≤ 7 → 7 + 1 ≤ i + n_ → ∀ (H : Heap) (locs : List Loc), va_P g.1 vwCl ([(y, ints g 1020 (kM z)), (q, ints g 7 (fun j => cntV z (kM z) j))]) H → va_D (va_A [] s.heap.size) ([(y, ints g 1020 (kM z)), (q, ints g 7 (fun j => cntV z (kM z) j))]) → va_S (va_A [] s.heap.size) s.heap H locs → Ev g (va_A [] s.heap.size) s H → ∀ (ls : Array Slot), lv_has ls 11 [(8, .int (nI i)), (7, .ref q), (5, .int (sumI (kM z) (endA z (sn z)))), (0, .ref (b 0)), (1, .ref (ad 0))] → W p l e ({ frames := 7, cells := 12, slots := 2200, locals := 154 } : Room) s m ([.ref (b 0), .ref (ad 0)] : List Value).toArray below meth c H locs (9 + 1 + 1) (1076 + 7 + 1020) (MQ below (q_Qw (fun _ : Unit => []) (fun _ => some (.int (nI 1))) g [] s.heap.size) ([.ref (b 0), .ref (ad 0)] : List Value).toArray s 12 2200 (va_A [] s.heap.size)) (F0 m 424 ls []) := by
                      intro n_
                      induction n_ with
                      | zero => intro i  hi_ hn_; exact absurd hn_ (by omega)
                      | succ n_ ih_424 =>
                        intro i  hi_i hn_i  H locs hP hD hS hE ls hl
                        have hQ := q_keep hQ0 hS
                        have hC := q_keep hC0 hS
                        refine lv_iload hx hb dX4_isSame_424 (lv_at hl 0 rfl) ?_
                        refine lv_bipush (v := nI 7) hx hb dX4_isSame_426 (by decide) ?_
                        refine q_icmp_ge (tgt := 453) hx hb (by omega) (by omega) dX4_isSame_428 (by decide) (fun c_3 => ?_) (fun c_3 => ?_)
                        · refine lv_aload_n hx hb dX4_isSame_453 rfl (lv_at hl 4 rfl) ?_
                          refine q_roV (As := []) (rest := []) ⟨hx, hb, hml, hown, hts⟩ (k_mean hI) (cwV 0 hts gX4_isSame_X3_mean rfl rfl rfl (by decide +kernel) ⟨Nat.le_of_ble_eq_true rfl, Nat.le_of_ble_eq_true rfl⟩) hE (fun q h => hA q (Nat.le_trans hS.1 h)) hC (va_recv hE.K hC (ci := 4) (q0 := 0) rfl rfl) rfl hl.1 rfl (Nat.le_of_ble_eq_true rfl) dX4_isSame_454 ⟨by show _ ≤ 12; omega, by show _ ≤ 2200; omega⟩ ?_
                          refine lv_aload_n hx hb dX4_isSame_457 rfl (lv_at hl 3 rfl) ?_
                          refine q_roV (As := []) (rest := [.double (mnV z (kM z))]) ⟨hx, hb, hml, hown, hts⟩ (c_X4_end_ hV) (cwV 0 hts gX4_isSame_X4_end_ rfl rfl rfl (by decide +kernel) ⟨Nat.le_of_ble_eq_true rfl, Nat.le_of_ble_eq_true rfl⟩) hE (fun q h => hA q (Nat.le_trans hS.1 h)) hQ (va_recv hE.K hQ (ci := 5) (q0 := 0) rfl rfl) rfl hl.1 rfl (Nat.le_of_ble_eq_true rfl) dX4_isSame_458 ⟨by show _ ≤ 12; omega, by show _ ≤ 2200; omega⟩ ?_
                          refine q_if_ne (tgt := 468) hx hb (by omega) dX4_isSame_461 (by decide) (fun c_e => ?_) (fun c_e => ?_)
                          · refine lv_iload hx hb dX4_isSame_468 (lv_at hl 2 rfl) ?_
                            refine lv_i2d hx hb dX4_isSame_470 ?_
                            refine lv_aload_n hx hb dX4_isSame_471 rfl (lv_at hl 3 rfl) ?_
                            refine q_roV (As := []) (rest := [.double (FP.i2d (sumI (kM z) (endA z (sn z)))), .double (mnV z (kM z))]) ⟨hx, hb, hml, hown, hts⟩ (c_X4_end_ hV) (cwV 0 hts gX4_isSame_X4_end_ rfl rfl rfl (by decide +kernel) ⟨Nat.le_of_ble_eq_true rfl, Nat.le_of_ble_eq_true rfl⟩) hE (fun q h => hA q (Nat.le_trans hS.1 h)) hQ (va_recv hE.K hQ (ci := 5) (q0 := 0) rfl rfl) rfl hl.1 rfl (Nat.le_of_ble_eq_true rfl) dX4_isSame_472 ⟨by show _ ≤ 12; omega, by show _ ≤ 2200; omega⟩ ?_
                            refine lv_i2d hx hb dX4_isSame_475 ?_
                            refine lv_ddiv hx hb dX4_isSame_476 (mnV_ok hV (fun t => bd_kM hV t) c_e) ?_
                            refine q_dcmpE hx hb dX4_isSame_477 (by unfold mnV; rw [if_neg (by omega)]; exact fp_cmp (by obtain ⟨h1, h2⟩ := bd_sum (f := kM z) (B := 171) (n := endA z (sn z)) (fun k _ => bd_kM hV k) (by omega); omega) c_e (by omega)) ?_
                            refine q_if_ne (tgt := 485) hx hb (by omega) dX4_isSame_478 (by decide) (fun c_4 => ?_) (fun c_4 => ?_)
                            · exact absurd c_4 (by decide)
                            · refine lv_iconst (v := nI 1) hx hb dX4_isSame_481 (by decide) ?_
                              refine lv_goto (tgt := 486) hx hb dX4_isSame_482 (by decide) ?_
                              refine W.widen (k := 12) (n := 2200) (by omega) (by omega) ?_
                              have hP : va_P g.1 vwCl [] H := q_Pnil
                              have hD : va_D (va_A [] s.heap.size) [] := q_Dnil
                              exact q_wzret (()) hx hb hr hlocks rfl hP hD hS dX4_isSame_486 rfl
                          · refine lv_dconst0 hx hb dX4_isSame_464 ?_
                            refine lv_goto (tgt := 477) hx hb dX4_isSame_465 (by decide) ?_
                            refine q_dcmpE hx hb dX4_isSame_477 (by unfold mnV; rw [if_pos c_e]; decide +kernel) ?_
                            refine q_if_ne (tgt := 485) hx hb (by omega) dX4_isSame_478 (by decide) (fun c_5 => ?_) (fun c_5 => ?_)
                            · exact absurd c_5 (by decide)
                            · refine lv_iconst (v := nI 1) hx hb dX4_isSame_481 (by decide) ?_
                              refine lv_goto (tgt := 486) hx hb dX4_isSame_482 (by decide) ?_
                              refine W.widen (k := 12) (n := 2200) (by omega) (by omega) ?_
                              have hP : va_P g.1 vwCl [] H := q_Pnil
                              have hD : va_D (va_A [] s.heap.size) [] := q_Dnil
                              exact q_wzret (()) hx hb hr hlocks rfl hP hD hS dX4_isSame_486 rfl
                        · refine lv_aload_n hx hb dX4_isSame_431 rfl (lv_at hl 4 rfl) ?_
                          refine lv_iload hx hb dX4_isSame_432 (lv_at hl 0 rfl) ?_
                          refine q_roV (As := [.int (nI i)]) (rest := []) ⟨hx, hb, hml, hown, hts⟩ (k_count hI (q := i) (by omega)) (cwV 1 hts gX4_isSame_X3_count rfl rfl rfl (by decide +kernel) ⟨Nat.le_of_ble_eq_true rfl, Nat.le_of_ble_eq_true rfl⟩) hE (fun q h => hA q (Nat.le_trans hS.1 h)) hC (va_recv hE.K hC (ci := 4) (q0 := 0) rfl rfl) rfl hl.1 rfl (Nat.le_of_ble_eq_true rfl) dX4_isSame_434 ⟨by show _ ≤ 12; omega, by show _ ≤ 2200; omega⟩ ?_
                          refine lv_aload hx hb dX4_isSame_437 (lv_at hl 1 rfl) ?_
                          refine lv_iload hx hb dX4_isSame_439 (lv_at hl 0 rfl) ?_
                          refine q_iald (v := cntV z (kM z) i) hx hb hE (hP 1 _ rfl) (by omega) (by omega) dX4_isSame_441 rfl ?_
                          refine lv_icmp_eq (tgt := 447) hx hb dX4_isSame_442 (by decide) (fun c_6 => ?_) (fun c_6 => ?_)
                          · refine lv_iinc (v := nI (i + 1)) (lv' := [(8, .int (nI (i + 1))), (7, .ref q), (5, .int (sumI (kM z) (endA z (sn z)))), (0, .ref (b 0)), (1, .ref (ad 0))]) hx hb dX4_isSame_447 hl (k := 0) rfl (nI_1 _) (by decide) rfl (fun ls hl => ?_)
                            refine lv_goto (tgt := 424) hx hb dX4_isSame_450 (by decide) ?_
                            exact ih_424 (i + 1)  (by omega) (by omega)  _ _ hP hD hS hE _ (lv_sub hl [0, 1, 2, 3, 4] rfl)
                          · exact absurd rfl c_6
                    
                    exact lp_424 (7 + 1) 0  (Nat.zero_le _) (by omega)  _ _ hP hD hS hE _ (lv_sub hl [0, 1, 4, 6, 7] rfl)
                  · have hb_ := hV.h c_h
                    have hd_ := hV.hL c_h
                    refine lv_aload_n hx hb dX4_isSame_107 rfl (lv_at hl 5 rfl) ?_
                    refine va_get (v := .ref (b 4)) (C := RX4) (T := TX4) (N := 4) hx hb hts (q_sub wsX40 203 rfl) hown hE.K hQ 0 rfl rfl 2 (by decide) (hts _ (List.mem_of_getElem? (i := 9) rfl)) (fun _ h9 => h9) rfl dX4_isSame_108 ?_
                    refine lv_iload hx hb dX4_isSame_111 (lv_at hl 0 rfl) ?_
                    refine q_aldA (n := sn z) (r := b (sL z + 2 * i + 6)) hx hb hE (hQ 4 _ rfl) (by omega) (by omega) dX4_isSame_113 (rfF_lt (by omega)) ?_
                    refine q_alen (v := nI (ssd z i)) hx hb hE (hQ _ _ (wS_w (by omega))) dX4_isSame_114 rfl ?_
                    refine q_if_ne (tgt := 122) hx hb (by omega) dX4_isSame_115 (by decide) (fun c_0 => ?_) (fun c_0 => ?_)
                    · have e8 : (2147483647 : Int32) = lsM (fun w => hearF (sL z) (kM z) (scd z i) (w * sL z + sdl z i)) (ssd z i) 0 := (if_neg (by omega)).symm
                      refine lv_ldc (v := 2147483647) hx hb hown (hts _ (List.mem_of_getElem? (i := 10) rfl)) dX4_isSame_122 ?_
                      refine W.eq (g2 := F0 m 124 ls [.int (lsM (fun w => hearF (sL z) (kM z) (scd z i) (w * sL z + sdl z i)) (ssd z i) 0)]) (by rw [← e8]) ?_
                      refine lv_istore (lv' := [(8, .int (lsM (fun w => hearF (sL z) (kM z) (scd z i) (w * sL z + sdl z i)) (ssd z i) 0)), (7, .int (nI i)), (3, .int (nI (sumN (ssd z) i))), (6, .int (nI (freeN z))), (5, .int (sumI (kM z) (endA z (sn z)))), (4, .int (hiF (kM z) (endA z (sn z)))), (0, .ref (b 0)), (1, .ref (ad 0)), (2, .ref y)]) hx hb dX4_isSame_124 hl (by decide) rfl (fun ls hl => ?_)
                      refine lv_iconst (v := nI 0) hx hb dX4_isSame_126 (by decide) ?_
                      refine lv_istore (lv' := [(9, .int (nI 0)), (8, .int (lsM (fun w => hearF (sL z) (kM z) (scd z i) (w * sL z + sdl z i)) (ssd z i) 0)), (7, .int (nI i)), (3, .int (nI (sumN (ssd z) i))), (6, .int (nI (freeN z))), (5, .int (sumI (kM z) (endA z (sn z)))), (4, .int (hiF (kM z) (endA z (sn z)))), (0, .ref (b 0)), (1, .ref (ad 0)), (2, .ref y)]) hx hb dX4_isSame_127 hl (by decide) rfl (fun ls hl => ?_)
                      have lp_129 : ∀ (n_ j : Nat) , j ≤ ssd z i → ssd z i + 1 ≤ j + n_ → ∀ (H : Heap) (locs : List Loc), va_P g.1 vwCl ([(y, ints g 1020 (kM z))]) H → va_D (va_A [] s.heap.size) ([(y, ints g 1020 (kM z))]) → va_S (va_A [] s.heap.size) s.heap H locs → Ev g (va_A [] s.heap.size) s H → ∀ (ls : Array Slot), lv_has ls 11 [(9, .int (nI j)), (8, .int (lsM (fun w => hearF (sL z) (kM z) (scd z i) (w * sL z + sdl z i)) (ssd z i) j)), (7, .int (nI i)), (3, .int (nI (sumN (ssd z) i))), (6, .int (nI (freeN z))), (5, .int (sumI (kM z) (endA z (sn z)))), (4, .int (hiF (kM z) (endA z (sn z)))), (0, .ref (b 0)), (1, .ref (ad 0)), (2, .ref y)] → W p l e ({ frames := 7, cells := 12, slots := 2200, locals := 154 } : Room) s m ([.ref (b 0), .ref (ad 0)] : List Value).toArray below meth c H locs (1 + i) (1020 + 7 * i) (MQ below (q_Qw (fun _ : Unit => []) (fun _ => some (.int (nI 1))) g [] s.heap.size) ([.ref (b 0), .ref (ad 0)] : List Value).toArray s 12 2200 (va_A [] s.heap.size)) (F0 m 129 ls []) := by
                        intro n_
                        induction n_ with
                        | zero => intro j  hi_ hn_; exact absurd hn_ (by omega)
                        | succ n_ ih_129 =>
                          intro j  hi_j hn_j  H locs hP hD hS hE ls hl
                          have hQ := q_keep hQ0 hS
                          have hC := q_keep hC0 hS
                          refine lv_iload hx hb dX4_isSame_129 (lv_at hl 0 rfl) ?_
                          refine lv_aload_n hx hb dX4_isSame_131 rfl (lv_at hl 7 rfl) ?_
                          refine va_get (v := .ref (b 4)) (C := RX4) (T := TX4) (N := 4) hx hb hts (q_sub wsX40 203 rfl) hown hE.K hQ 0 rfl rfl 2 (by decide) (hts _ (List.mem_of_getElem? (i := 9) rfl)) (fun _ h9 => h9) rfl dX4_isSame_132 ?_
                          refine lv_iload hx hb dX4_isSame_135 (lv_at hl 2 rfl) ?_
                          refine q_aldA (n := sn z) (r := b (sL z + 2 * i + 6)) hx hb hE (hQ 4 _ rfl) (by omega) (by omega) dX4_isSame_137 (rfF_lt (by omega)) ?_
                          refine q_alen (v := nI (ssd z i)) hx hb hE (hQ _ _ (wS_w (by omega))) dX4_isSame_138 rfl ?_
                          refine q_icmp_ge (tgt := 242) hx hb (by omega) (by omega) dX4_isSame_139 (by decide) (fun c_w => ?_) (fun c_w => ?_)
                          · have ej : j = ssd z i := by omega
                            rw [ej, lsM_e] at hl
                            refine lv_iload_n hx hb dX4_isSame_242 rfl (lv_at hl 3 rfl) ?_
                            refine lv_aload_n hx hb dX4_isSame_243 rfl (lv_at hl 7 rfl) ?_
                            refine va_get (v := .ref (b 4)) (C := RX4) (T := TX4) (N := 4) hx hb hts (q_sub wsX40 203 rfl) hown hE.K hQ 0 rfl rfl 2 (by decide) (hts _ (List.mem_of_getElem? (i := 9) rfl)) (fun _ h9 => h9) rfl dX4_isSame_244 ?_
                            refine lv_iload hx hb dX4_isSame_247 (lv_at hl 2 rfl) ?_
                            refine q_aldA (n := sn z) (r := b (sL z + 2 * i + 6)) hx hb hE (hQ 4 _ rfl) (by omega) (by omega) dX4_isSame_249 (rfF_lt (by omega)) ?_
                            refine q_alen (v := nI (ssd z i)) hx hb hE (hQ _ _ (wS_w (by omega))) dX4_isSame_250 rfl ?_
                            refine q_iadd (v := nI (sumN (ssd z) (i + 1))) hx hb dX4_isSame_251 (nI_add _ _) ?_
                            refine lv_istore_n (lv' := [(3, .int (nI (sumN (ssd z) (i + 1)))), (9, .int (nI (ssd z i))), (8, .int (fnF (fun w => hearF (sL z) (kM z) (scd z i) (w * sL z + sdl z i)) (ssd z i))), (7, .int (nI i)), (6, .int (nI (freeN z))), (5, .int (sumI (kM z) (endA z (sn z)))), (4, .int (hiF (kM z) (endA z (sn z)))), (0, .ref (b 0)), (1, .ref (ad 0)), (2, .ref y)]) hx hb dX4_isSame_252 rfl hl (by decide) rfl (fun ls hl => ?_)
                            refine lv_bipush (v := nI 7) hx hb dX4_isSame_253 (by decide) ?_
                            refine q_newI (n := 7) hx hb (hts _ (List.mem_of_getElem? (i := 14) rfl)) hE hP hD hS hA (by omega) (by show 1 + i + 1 ≤ 12; omega) (by show 1020 + 7 * i + 7 ≤ 2200; omega) dX4_isSame_255 (fun q H hP hD hS => ?_)
                            have hP : va_P g.1 vwCl ([(y, ints g 1020 (kM z)), (q, ints g 7 (fun _ => 0))]) H := hP
                            have hD : va_D (va_A [] s.heap.size) ([(y, ints g 1020 (kM z)), (q, ints g 7 (fun _ => 0))]) := hD
                            have hE := hE0.kept hS.2.1
                            have hQ := q_keep hQ0 hS
                            have hC := q_keep hC0 hS
                            refine lv_dup hx hb dX4_isSame_257 rfl ?_
                            refine lv_iconst (v := nI 0) hx hb dX4_isSame_258 (by decide) ?_
                            refine lv_aload_n hx hb dX4_isSame_259 rfl (lv_at hl 7 rfl) ?_
                            refine va_get (v := .ref (b 3)) (C := RX4) (T := TX4) (N := 4) hx hb hts (q_sub wsX40 203 rfl) hown hE.K hQ 0 rfl rfl 1 (by decide) (hts _ (List.mem_of_getElem? (i := 8) rfl)) (fun _ h9 => h9) rfl dX4_isSame_260 ?_
                            refine lv_iload hx hb dX4_isSame_263 (lv_at hl 3 rfl) ?_
                            refine q_aldA (n := sn z) (r := b (sL z + 2 * i + 5)) hx hb hE (hQ 3 _ rfl) (by omega) (by omega) dX4_isSame_265 (rfF_lt (by omega)) ?_
                            refine lv_iconst (v := nI 0) hx hb dX4_isSame_266 (by decide) ?_
                            refine q_iald (v := nI (scd z i)) hx hb hE (hQ _ _ (wS_h (by omega))) (by omega) (by omega) dX4_isSame_267 rfl ?_
                            refine q_iast hx hb hE hP hD hS (q0 := 1) rfl (by omega) (by omega) dX4_isSame_268 (fun H locs hP hD hS => ?_)
                            have hP : va_P g.1 vwCl ([(y, ints g 1020 (kM z)), (q, ints g 7 (upd (fun _ => 0) 0 (nI (scd z i))))]) H := hP
                            have hD : va_D (va_A [] s.heap.size) ([(y, ints g 1020 (kM z)), (q, ints g 7 (upd (fun _ => 0) 0 (nI (scd z i))))]) := hD
                            have hE := hE0.kept hS.2.1
                            have hQ := q_keep hQ0 hS
                            have hC := q_keep hC0 hS
                            refine lv_dup hx hb dX4_isSame_269 rfl ?_
                            refine lv_iconst (v := nI 1) hx hb dX4_isSame_270 (by decide) ?_
                            refine lv_aload_n hx hb dX4_isSame_271 rfl (lv_at hl 7 rfl) ?_
                            refine va_get (v := .ref (b 3)) (C := RX4) (T := TX4) (N := 4) hx hb hts (q_sub wsX40 203 rfl) hown hE.K hQ 0 rfl rfl 1 (by decide) (hts _ (List.mem_of_getElem? (i := 8) rfl)) (fun _ h9 => h9) rfl dX4_isSame_272 ?_
                            refine lv_iload hx hb dX4_isSame_275 (lv_at hl 3 rfl) ?_
                            refine q_aldA (n := sn z) (r := b (sL z + 2 * i + 5)) hx hb hE (hQ 3 _ rfl) (by omega) (by omega) dX4_isSame_277 (rfF_lt (by omega)) ?_
                            refine lv_iconst (v := nI 1) hx hb dX4_isSame_278 (by decide) ?_
                            refine q_iald (v := nI (ssr z i)) hx hb hE (hQ _ _ (wS_h (by omega))) (by omega) (by omega) dX4_isSame_279 rfl ?_
                            refine q_iast hx hb hE hP hD hS (q0 := 1) rfl (by omega) (by omega) dX4_isSame_280 (fun H locs hP hD hS => ?_)
                            have hP : va_P g.1 vwCl ([(y, ints g 1020 (kM z)), (q, ints g 7 (upd (upd (fun _ => 0) 0 (nI (scd z i))) 1 (nI (ssr z i))))]) H := hP
                            have hD : va_D (va_A [] s.heap.size) ([(y, ints g 1020 (kM z)), (q, ints g 7 (upd (upd (fun _ => 0) 0 (nI (scd z i))) 1 (nI (ssr z i))))]) := hD
                            have hE := hE0.kept hS.2.1
                            have hQ := q_keep hQ0 hS
                            have hC := q_keep hC0 hS
                            refine lv_dup hx hb dX4_isSame_281 rfl ?_
                            refine lv_iconst (v := nI 2) hx hb dX4_isSame_282 (by decide) ?_
                            refine lv_aload_n hx hb dX4_isSame_283 rfl (lv_at hl 7 rfl) ?_
                            refine va_get (v := .ref (b 3)) (C := RX4) (T := TX4) (N := 4) hx hb hts (q_sub wsX40 203 rfl) hown hE.K hQ 0 rfl rfl 1 (by decide) (hts _ (List.mem_of_getElem? (i := 8) rfl)) (fun _ h9 => h9) rfl dX4_isSame_284 ?_
                            refine lv_iload hx hb dX4_isSame_287 (lv_at hl 3 rfl) ?_
                            refine q_aldA (n := sn z) (r := b (sL z + 2 * i + 5)) hx hb hE (hQ 3 _ rfl) (by omega) (by omega) dX4_isSame_289 (rfF_lt (by omega)) ?_
                            refine lv_iconst (v := nI 2) hx hb dX4_isSame_290 (by decide) ?_
                            refine q_iald (v := nI (sdl z i)) hx hb hE (hQ _ _ (wS_h (by omega))) (by omega) (by omega) dX4_isSame_291 rfl ?_
                            refine q_iast hx hb hE hP hD hS (q0 := 1) rfl (by omega) (by omega) dX4_isSame_292 (fun H locs hP hD hS => ?_)
                            have hP : va_P g.1 vwCl ([(y, ints g 1020 (kM z)), (q, ints g 7 (upd (upd (upd (fun _ => 0) 0 (nI (scd z i))) 1 (nI (ssr z i))) 2 (nI (sdl z i))))]) H := hP
                            have hD : va_D (va_A [] s.heap.size) ([(y, ints g 1020 (kM z)), (q, ints g 7 (upd (upd (upd (fun _ => 0) 0 (nI (scd z i))) 1 (nI (ssr z i))) 2 (nI (sdl z i))))]) := hD
                            have hE := hE0.kept hS.2.1
                            have hQ := q_keep hQ0 hS
                            have hC := q_keep hC0 hS
                            refine lv_dup hx hb dX4_isSame_293 rfl ?_
                            refine lv_iconst (v := nI 3) hx hb dX4_isSame_294 (by decide) ?_
                            refine lv_aload_n hx hb dX4_isSame_295 rfl (lv_at hl 7 rfl) ?_
                            refine va_get (v := .ref (b 4)) (C := RX4) (T := TX4) (N := 4) hx hb hts (q_sub wsX40 203 rfl) hown hE.K hQ 0 rfl rfl 2 (by decide) (hts _ (List.mem_of_getElem? (i := 9) rfl)) (fun _ h9 => h9) rfl dX4_isSame_296 ?_
                            refine lv_iload hx hb dX4_isSame_299 (lv_at hl 3 rfl) ?_
                            refine q_aldA (n := sn z) (r := b (sL z + 2 * i + 6)) hx hb hE (hQ 4 _ rfl) (by omega) (by omega) dX4_isSame_301 (rfF_lt (by omega)) ?_
                            refine q_alen (v := nI (ssd z i)) hx hb hE (hQ _ _ (wS_w (by omega))) dX4_isSame_302 rfl ?_
                            refine q_iast hx hb hE hP hD hS (q0 := 1) rfl (by omega) (by omega) dX4_isSame_303 (fun H locs hP hD hS => ?_)
                            have hP : va_P g.1 vwCl ([(y, ints g 1020 (kM z)), (q, ints g 7 (upd (upd (upd (upd (fun _ => 0) 0 (nI (scd z i))) 1 (nI (ssr z i))) 2 (nI (sdl z i))) 3 (nI (ssd z i))))]) H := hP
                            have hD : va_D (va_A [] s.heap.size) ([(y, ints g 1020 (kM z)), (q, ints g 7 (upd (upd (upd (upd (fun _ => 0) 0 (nI (scd z i))) 1 (nI (ssr z i))) 2 (nI (sdl z i))) 3 (nI (ssd z i))))]) := hD
                            have hE := hE0.kept hS.2.1
                            have hQ := q_keep hQ0 hS
                            have hC := q_keep hC0 hS
                            refine lv_dup hx hb dX4_isSame_304 rfl ?_
                            refine lv_iconst (v := nI 4) hx hb dX4_isSame_305 (by decide) ?_
                            refine lv_aload_n hx hb dX4_isSame_306 rfl (lv_at hl 7 rfl) ?_
                            refine lv_aload_n hx hb dX4_isSame_307 rfl (lv_at hl 9 rfl) ?_
                            refine lv_iload hx hb dX4_isSame_308 (lv_at hl 3 rfl) ?_
                            refine q_roV (As := [.ref y, .int (nI i)]) (rest := [.int (nI 4), .ref q, .ref q]) ⟨hx, hb, hml, hown, hts⟩ (c_X4_wrong hV (k := i) c_h (y0 := y) (K := kM z)) (cwV 2 hts gX4_isSame_X4_wrong rfl rfl rfl (by decide +kernel) ⟨Nat.le_of_ble_eq_true rfl, Nat.le_of_ble_eq_true rfl⟩) hE (fun q h => hA q (Nat.le_trans hS.1 h)) ⟨hQ, hP 0 _ rfl⟩ (va_recv hE.K hQ (ci := 5) (q0 := 0) rfl rfl) rfl hl.1 rfl (Nat.le_of_ble_eq_true rfl) dX4_isSame_310 ⟨by show _ ≤ 12; omega, by show _ ≤ 2200; omega⟩ ?_
                            refine q_iast hx hb hE hP hD hS (q0 := 1) rfl (by omega) (by omega) dX4_isSame_313 (fun H locs hP hD hS => ?_)
                            have hP : va_P g.1 vwCl ([(y, ints g 1020 (kM z)), (q, ints g 7 (upd (upd (upd (upd (upd (fun _ => 0) 0 (nI (scd z i))) 1 (nI (ssr z i))) 2 (nI (sdl z i))) 3 (nI (ssd z i))) 4 (nI (wrF (sL z) (kM z) (scd z i) (sdl z i) (swd z i) (ssd z i)))))]) H := hP
                            have hD : va_D (va_A [] s.heap.size) ([(y, ints g 1020 (kM z)), (q, ints g 7 (upd (upd (upd (upd (upd (fun _ => 0) 0 (nI (scd z i))) 1 (nI (ssr z i))) 2 (nI (sdl z i))) 3 (nI (ssd z i))) 4 (nI (wrF (sL z) (kM z) (scd z i) (sdl z i) (swd z i) (ssd z i)))))]) := hD
                            have hE := hE0.kept hS.2.1
                            have hQ := q_keep hQ0 hS
                            have hC := q_keep hC0 hS
                            refine lv_dup hx hb dX4_isSame_314 rfl ?_
                            refine lv_iconst (v := nI 5) hx hb dX4_isSame_315 (by decide) ?_
                            refine lv_aload_n hx hb dX4_isSame_316 rfl (lv_at hl 7 rfl) ?_
                            refine lv_iload hx hb dX4_isSame_317 (lv_at hl 3 rfl) ?_
                            refine q_roV (As := [.int (nI i)]) (rest := [.int (nI 5), .ref q, .ref q]) ⟨hx, hb, hml, hown, hts⟩ (c_X4_end hV (k := i) c_h) (cwV 1 hts gX4_isSame_X4_end rfl rfl rfl (by decide +kernel) ⟨Nat.le_of_ble_eq_true rfl, Nat.le_of_ble_eq_true rfl⟩) hE (fun q h => hA q (Nat.le_trans hS.1 h)) hQ (va_recv hE.K hQ (ci := 5) (q0 := 0) rfl rfl) rfl hl.1 rfl (Nat.le_of_ble_eq_true rfl) dX4_isSame_319 ⟨by show _ ≤ 12; omega, by show _ ≤ 2200; omega⟩ ?_
                            refine q_iast hx hb hE hP hD hS (q0 := 1) rfl (by omega) (by omega) dX4_isSame_322 (fun H locs hP hD hS => ?_)
                            have hP : va_P g.1 vwCl ([(y, ints g 1020 (kM z)), (q, ints g 7 (upd (upd (upd (upd (upd (upd (fun _ => 0) 0 (nI (scd z i))) 1 (nI (ssr z i))) 2 (nI (sdl z i))) 3 (nI (ssd z i))) 4 (nI (wrF (sL z) (kM z) (scd z i) (sdl z i) (swd z i) (ssd z i)))) 5 (nI (endF (sL z) (ssd z i) (sdl z i)))))]) H := hP
                            have hD : va_D (va_A [] s.heap.size) ([(y, ints g 1020 (kM z)), (q, ints g 7 (upd (upd (upd (upd (upd (upd (fun _ => 0) 0 (nI (scd z i))) 1 (nI (ssr z i))) 2 (nI (sdl z i))) 3 (nI (ssd z i))) 4 (nI (wrF (sL z) (kM z) (scd z i) (sdl z i) (swd z i) (ssd z i)))) 5 (nI (endF (sL z) (ssd z i) (sdl z i)))))]) := hD
                            have hE := hE0.kept hS.2.1
                            have hQ := q_keep hQ0 hS
                            have hC := q_keep hC0 hS
                            refine lv_dup hx hb dX4_isSame_323 rfl ?_
                            refine lv_bipush (v := nI 6) hx hb dX4_isSame_324 (by decide) ?_
                            refine lv_iload hx hb dX4_isSame_326 (lv_at hl 2 rfl) ?_
                            refine q_iast hx hb hE hP hD hS (q0 := 1) rfl (by omega) (by omega) dX4_isSame_328 (fun H locs hP hD hS => ?_)
                            have hP : va_P g.1 vwCl ([(y, ints g 1020 (kM z)), (q, ints g 7 (upd (upd (upd (upd (upd (upd (upd (fun _ => 0) 0 (nI (scd z i))) 1 (nI (ssr z i))) 2 (nI (sdl z i))) 3 (nI (ssd z i))) 4 (nI (wrF (sL z) (kM z) (scd z i) (sdl z i) (swd z i) (ssd z i)))) 5 (nI (endF (sL z) (ssd z i) (sdl z i)))) 6 (fnF (fun w => hearF (sL z) (kM z) (scd z i) (w * sL z + sdl z i)) (ssd z i))))]) H := hP
                            have hD : va_D (va_A [] s.heap.size) ([(y, ints g 1020 (kM z)), (q, ints g 7 (upd (upd (upd (upd (upd (upd (upd (fun _ => 0) 0 (nI (scd z i))) 1 (nI (ssr z i))) 2 (nI (sdl z i))) 3 (nI (ssd z i))) 4 (nI (wrF (sL z) (kM z) (scd z i) (sdl z i) (swd z i) (ssd z i)))) 5 (nI (endF (sL z) (ssd z i) (sdl z i)))) 6 (fnF (fun w => hearF (sL z) (kM z) (scd z i) (w * sL z + sdl z i)) (ssd z i))))]) := hD
                            have hE := hE0.kept hS.2.1
                            have hQ := q_keep hQ0 hS
                            have hC := q_keep hC0 hS
                            have hP : va_P g.1 vwCl ([(y, ints g 1020 (kM z)), (q, ints g 7 (fun j => abtV z (kM z) i j))]) H := q_lastP (l := [(y, ints g 1020 (kM z))]) told_e hP
                            have hD : va_D (va_A [] s.heap.size) ([(y, ints g 1020 (kM z)), (q, ints g 7 (fun j => abtV z (kM z) i j))]) := q_lastD (l := [(y, ints g 1020 (kM z))]) hD
                            refine lv_astore (lv' := [(9, .ref q), (3, .int (nI (sumN (ssd z) (i + 1)))), (8, .int (fnF (fun w => hearF (sL z) (kM z) (scd z i) (w * sL z + sdl z i)) (ssd z i))), (7, .int (nI i)), (6, .int (nI (freeN z))), (5, .int (sumI (kM z) (endA z (sn z)))), (4, .int (hiF (kM z) (endA z (sn z)))), (0, .ref (b 0)), (1, .ref (ad 0)), (2, .ref y)]) hx hb dX4_isSame_329 hl (by decide) rfl (fun ls hl => ?_)
                            refine lv_iconst (v := nI 0) hx hb dX4_isSame_331 (by decide) ?_
                            refine lv_istore (lv' := [(10, .int (nI 0)), (9, .ref q), (3, .int (nI (sumN (ssd z) (i + 1)))), (8, .int (fnF (fun w => hearF (sL z) (kM z) (scd z i) (w * sL z + sdl z i)) (ssd z i))), (7, .int (nI i)), (6, .int (nI (freeN z))), (5, .int (sumI (kM z) (endA z (sn z)))), (4, .int (hiF (kM z) (endA z (sn z)))), (0, .ref (b 0)), (1, .ref (ad 0)), (2, .ref y)]) hx hb dX4_isSame_332 hl (by decide) rfl (fun ls hl => ?_)
                            have lp_334 : ∀ (n_ j : Nat) , j ≤ 7 → 7 + 1 ≤ j + n_ → ∀ (H : Heap) (locs : List Loc), va_P g.1 vwCl ([(y, ints g 1020 (kM z)), (q, ints g 7 (fun j => abtV z (kM z) i j))]) H → va_D (va_A [] s.heap.size) ([(y, ints g 1020 (kM z)), (q, ints g 7 (fun j => abtV z (kM z) i j))]) → va_S (va_A [] s.heap.size) s.heap H locs → Ev g (va_A [] s.heap.size) s H → ∀ (ls : Array Slot), lv_has ls 11 [(10, .int (nI j)), (9, .ref q), (8, .int (fnF (fun w => hearF (sL z) (kM z) (scd z i) (w * sL z + sdl z i)) (ssd z i))), (7, .int (nI i)), (3, .int (nI (sumN (ssd z) (i + 1)))), (6, .int (nI (freeN z))), (5, .int (sumI (kM z) (endA z (sn z)))), (4, .int (hiF (kM z) (endA z (sn z)))), (0, .ref (b 0)), (1, .ref (ad 0)), (2, .ref y)] → W p l e ({ frames := 7, cells := 12, slots := 2200, locals := 154 } : Room) s m ([.ref (b 0), .ref (ad 0)] : List Value).toArray below meth c H locs (1 + i + 1) (1020 + 7 * i + 7) (MQ below (q_Qw (fun _ : Unit => []) (fun _ => some (.int (nI 1))) g [] s.heap.size) ([.ref (b 0), .ref (ad 0)] : List Value).toArray s 12 2200 (va_A [] s.heap.size)) (F0 m 334 ls []) := by
                              intro n_
                              induction n_ with
                              | zero => intro j  hi_ hn_; exact absurd hn_ (by omega)
                              | succ n_ ih_334 =>
                                intro j  hi_j hn_j  H locs hP hD hS hE ls hl
                                have hQ := q_keep hQ0 hS
                                have hC := q_keep hC0 hS
                                refine lv_iload hx hb dX4_isSame_334 (lv_at hl 0 rfl) ?_
                                refine lv_bipush (v := nI 7) hx hb dX4_isSame_336 (by decide) ?_
                                refine q_icmp_ge (tgt := 365) hx hb (by omega) (by omega) dX4_isSame_338 (by decide) (fun c_7 => ?_) (fun c_7 => ?_)
                                · have hP : va_P g.1 vwCl ([(y, ints g 1020 (kM z))]) H := q_spP (q_sl (List.sublist_append_left (l₁ := [(y, ints g 1020 (kM z))]) _)) hP
                                  have hD : va_D (va_A [] s.heap.size) ([(y, ints g 1020 (kM z))]) := q_spD (q_sl (List.sublist_append_left (l₁ := [(y, ints g 1020 (kM z))]) _)) hD
                                  refine W.widen (k := 1 + (i + 1)) (n := 1020 + 7 * (i + 1)) (by omega) (by omega) ?_
                                  refine lv_iinc (v := nI (i + 1)) (lv' := [(7, .int (nI (i + 1))), (10, .int (nI j)), (9, .ref q), (8, .int (fnF (fun w => hearF (sL z) (kM z) (scd z i) (w * sL z + sdl z i)) (ssd z i))), (3, .int (nI (sumN (ssd z) (i + 1)))), (6, .int (nI (freeN z))), (5, .int (sumI (kM z) (endA z (sn z)))), (4, .int (hiF (kM z) (endA z (sn z)))), (0, .ref (b 0)), (1, .ref (ad 0)), (2, .ref y)]) hx hb dX4_isSame_365 hl (k := 3) rfl (nI_1 _) (by decide) rfl (fun ls hl => ?_)
                                  refine lv_goto (tgt := 97) hx hb dX4_isSame_368 (by decide) ?_
                                  exact ih_97 (i + 1)  (by omega) (by omega)  _ _ hP hD hS hE _ (lv_sub hl [0, 4, 5, 6, 7, 8, 9, 10] rfl)
                                · refine lv_aload_n hx hb dX4_isSame_341 rfl (lv_at hl 9 rfl) ?_
                                  refine lv_iload hx hb dX4_isSame_342 (lv_at hl 3 rfl) ?_
                                  refine lv_iload hx hb dX4_isSame_344 (lv_at hl 0 rfl) ?_
                                  refine q_roV (As := [.int (nI i), .int (nI j)]) (rest := []) ⟨hx, hb, hml, hown, hts⟩ (k_about hI (k := i) (q := j) c_h (by omega)) (cwV 2 hts gX4_isSame_X3_about rfl rfl rfl (by decide +kernel) ⟨Nat.le_of_ble_eq_true rfl, Nat.le_of_ble_eq_true rfl⟩) hE (fun q h => hA q (Nat.le_trans hS.1 h)) hC (va_recv hE.K hC (ci := 4) (q0 := 0) rfl rfl) rfl hl.1 rfl (Nat.le_of_ble_eq_true rfl) dX4_isSame_346 ⟨by show _ ≤ 12; omega, by show _ ≤ 2200; omega⟩ ?_
                                  refine lv_aload hx hb dX4_isSame_349 (lv_at hl 1 rfl) ?_
                                  refine lv_iload hx hb dX4_isSame_351 (lv_at hl 0 rfl) ?_
                                  refine q_iald (v := abtV z (kM z) i j) hx hb hE (hP 1 _ rfl) (by omega) (by omega) dX4_isSame_353 rfl ?_
                                  refine lv_icmp_eq (tgt := 359) hx hb dX4_isSame_354 (by decide) (fun c_8 => ?_) (fun c_8 => ?_)
                                  · refine lv_iinc (v := nI (j + 1)) (lv' := [(10, .int (nI (j + 1))), (9, .ref q), (8, .int (fnF (fun w => hearF (sL z) (kM z) (scd z i) (w * sL z + sdl z i)) (ssd z i))), (7, .int (nI i)), (3, .int (nI (sumN (ssd z) (i + 1)))), (6, .int (nI (freeN z))), (5, .int (sumI (kM z) (endA z (sn z)))), (4, .int (hiF (kM z) (endA z (sn z)))), (0, .ref (b 0)), (1, .ref (ad 0)), (2, .ref y)]) hx hb dX4_isSame_359 hl (k := 0) rfl (nI_1 _) (by decide) rfl (fun ls hl => ?_)
                                    refine lv_goto (tgt := 334) hx hb dX4_isSame_362 (by decide) ?_
                                    exact ih_334 (j + 1)  (by omega) (by omega)  _ _ hP hD hS hE _ (lv_sub hl [0, 1, 2, 3, 4, 5, 6, 7, 8, 9, 10] rfl)
                                  · exact absurd rfl c_8
                            
                            exact lp_334 (7 + 1) 0  (Nat.zero_le _) (by omega)  _ _ hP hD hS hE _ (lv_sub hl [0, 1, 3, 4, 2, 5, 6, 7, 8, 9, 10] rfl)
                          · refine lv_aload_n hx hb dX4_isSame_142 rfl (lv_at hl 7 rfl) ?_
                            refine lv_aload_n hx hb dX4_isSame_143 rfl (lv_at hl 9 rfl) ?_
                            refine lv_iload hx hb dX4_isSame_144 (lv_at hl 2 rfl) ?_
                            refine lv_iload hx hb dX4_isSame_146 (lv_at hl 0 rfl) ?_
                            refine q_roV (As := [.ref y, .int (nI i), .int (nI j)]) (rest := []) ⟨hx, hb, hml, hown, hts⟩ (c_X4_heard hV c_h (y0 := y) (K := kM z) (w := j) (by omega)) (cwV 3 hts gX4_isSame_X4_heard rfl rfl rfl (by decide +kernel) ⟨Nat.le_of_ble_eq_true rfl, Nat.le_of_ble_eq_true rfl⟩) hE (fun q h => hA q (Nat.le_trans hS.1 h)) ⟨hQ, hP 0 _ rfl⟩ (va_recv hE.K hQ (ci := 5) (q0 := 0) rfl rfl) rfl hl.1 rfl (Nat.le_of_ble_eq_true rfl) dX4_isSame_148 ⟨by show _ ≤ 12; omega, by show _ ≤ 2200; omega⟩ ?_
                            refine lv_istore (lv' := [(10, .int (hearF (sL z) (kM z) (scd z i) (j * sL z + sdl z i))), (9, .int (nI j)), (8, .int (lsM (fun w => hearF (sL z) (kM z) (scd z i) (w * sL z + sdl z i)) (ssd z i) j)), (7, .int (nI i)), (3, .int (nI (sumN (ssd z) i))), (6, .int (nI (freeN z))), (5, .int (sumI (kM z) (endA z (sn z)))), (4, .int (hiF (kM z) (endA z (sn z)))), (0, .ref (b 0)), (1, .ref (ad 0)), (2, .ref y)]) hx hb dX4_isSame_151 hl (by decide) rfl (fun ls hl => ?_)
                            refine lv_iload hx hb dX4_isSame_153 (lv_at hl 2 rfl) ?_
                            refine lv_iload hx hb dX4_isSame_155 (lv_at hl 0 rfl) ?_
                            refine q_mabs (v := ab (hearF (sL z) (kM z) (scd z i) (j * sL z + sdl z i))) hx hb (hml.trans hl.1.symm) hown (hts _ (List.mem_of_getElem? (i := 1) rfl)) (hts _ (List.mem_of_getElem? (i := 2) rfl)) (hts _ (List.mem_of_getElem? (i := 3) rfl)) (hts _ (List.mem_of_getElem? (i := 4) rfl)) (Nat.le_of_ble_eq_true rfl) (Nat.le_of_ble_eq_true rfl) (by show _ ≤ 12; omega) (by show _ ≤ 2200; omega) dX4_isSame_157 rfl ?_
                            refine q_mmin (v := lsM (fun w => hearF (sL z) (kM z) (scd z i) (w * sL z + sdl z i)) (ssd z i) (j + 1)) hx hb (hml.trans hl.1.symm) hown (hts _ (List.mem_of_getElem? (i := 11) rfl)) (hts _ (List.mem_of_getElem? (i := 12) rfl)) (hts _ (List.mem_of_getElem? (i := 3) rfl)) (hts _ (List.mem_of_getElem? (i := 13) rfl)) (Nat.le_of_ble_eq_true rfl) (Nat.le_of_ble_eq_true rfl) (by show _ ≤ 12; omega) (by show _ ≤ 2200; omega) dX4_isSame_160 rfl ?_
                            refine lv_istore (lv' := [(8, .int (lsM (fun w => hearF (sL z) (kM z) (scd z i) (w * sL z + sdl z i)) (ssd z i) (j + 1))), (10, .int (hearF (sL z) (kM z) (scd z i) (j * sL z + sdl z i))), (9, .int (nI j)), (7, .int (nI i)), (3, .int (nI (sumN (ssd z) i))), (6, .int (nI (freeN z))), (5, .int (sumI (kM z) (endA z (sn z)))), (4, .int (hiF (kM z) (endA z (sn z)))), (0, .ref (b 0)), (1, .ref (ad 0)), (2, .ref y)]) hx hb dX4_isSame_163 hl (by decide) rfl (fun ls hl => ?_)
                            refine lv_aload_n hx hb dX4_isSame_165 rfl (lv_at hl 9 rfl) ?_
                            refine lv_iload hx hb dX4_isSame_166 (lv_at hl 3 rfl) ?_
                            refine lv_iload hx hb dX4_isSame_168 (lv_at hl 2 rfl) ?_
                            refine lv_iconst (v := nI 0) hx hb dX4_isSame_170 (by decide) ?_
                            refine q_roV (As := [.int (nI i), .int (nI j), .int (nI 0)]) (rest := []) ⟨hx, hb, hml, hown, hts⟩ (k_word0 hI (k := i) (w := j) c_h c_w) (cwV 3 hts gX4_isSame_X3_word rfl rfl rfl (by decide +kernel) ⟨Nat.le_of_ble_eq_true rfl, Nat.le_of_ble_eq_true rfl⟩) hE (fun q h => hA q (Nat.le_trans hS.1 h)) hC (va_recv hE.K hC (ci := 4) (q0 := 0) rfl rfl) rfl hl.1 rfl (Nat.le_of_ble_eq_true rfl) dX4_isSame_171 ⟨by show _ ≤ 12; omega, by show _ ≤ 2200; omega⟩ ?_
                            refine lv_aload_n hx hb dX4_isSame_174 rfl (lv_at hl 8 rfl) ?_
                            refine va_get (v := .ref (b 4)) (C := RX4) (T := TX4) (N := 4) hx hb hts (q_sub wsX40 203 rfl) hown hE.K hQ 0 rfl rfl 2 (by decide) (hts _ (List.mem_of_getElem? (i := 9) rfl)) (fun _ h9 => h9) rfl dX4_isSame_175 ?_
                            refine lv_iload hx hb dX4_isSame_178 (lv_at hl 3 rfl) ?_
                            refine q_aldA (n := sn z) (r := b (sL z + 2 * i + 6)) hx hb hE (hQ 4 _ rfl) (by omega) (by omega) dX4_isSame_180 (rfF_lt (by omega)) ?_
                            refine lv_iload hx hb dX4_isSame_181 (lv_at hl 2 rfl) ?_
                            refine q_iald (v := (swd z i) j) hx hb hE (hQ _ _ (wS_w (by omega))) (by omega) (by omega) dX4_isSame_183 rfl ?_
                            refine lv_icmp_ne (tgt := 234) hx hb dX4_isSame_184 (by decide) (fun c_9 => ?_) (fun c_9 => ?_)
                            · exact absurd rfl c_9
                            · refine lv_aload_n hx hb dX4_isSame_187 rfl (lv_at hl 9 rfl) ?_
                              refine lv_iload hx hb dX4_isSame_188 (lv_at hl 3 rfl) ?_
                              refine lv_iload hx hb dX4_isSame_190 (lv_at hl 2 rfl) ?_
                              refine lv_iconst (v := nI 1) hx hb dX4_isSame_192 (by decide) ?_
                              refine q_roV (As := [.int (nI i), .int (nI j), .int (nI 1)]) (rest := []) ⟨hx, hb, hml, hown, hts⟩ (k_word1 hI (k := i) (w := j) c_h c_w) (cwV 3 hts gX4_isSame_X3_word rfl rfl rfl (by decide +kernel) ⟨Nat.le_of_ble_eq_true rfl, Nat.le_of_ble_eq_true rfl⟩) hE (fun q h => hA q (Nat.le_trans hS.1 h)) hC (va_recv hE.K hC (ci := 4) (q0 := 0) rfl rfl) rfl hl.1 rfl (Nat.le_of_ble_eq_true rfl) dX4_isSame_193 ⟨by show _ ≤ 12; omega, by show _ ≤ 2200; omega⟩ ?_
                              refine lv_iload hx hb dX4_isSame_196 (lv_at hl 1 rfl) ?_
                              refine lv_icmp_ne (tgt := 234) hx hb dX4_isSame_198 (by decide) (fun c_10 => ?_) (fun c_10 => ?_)
                              · exact absurd rfl c_10
                              · refine lv_aload_n hx hb dX4_isSame_201 rfl (lv_at hl 9 rfl) ?_
                                refine lv_iload hx hb dX4_isSame_202 (lv_at hl 3 rfl) ?_
                                refine lv_iload hx hb dX4_isSame_204 (lv_at hl 2 rfl) ?_
                                refine lv_iconst (v := nI 2) hx hb dX4_isSame_206 (by decide) ?_
                                refine q_roV (As := [.int (nI i), .int (nI j), .int (nI 2)]) (rest := []) ⟨hx, hb, hml, hown, hts⟩ (k_word2 hI (k := i) (w := j) c_h c_w) (cwV 3 hts gX4_isSame_X3_word rfl rfl rfl (by decide +kernel) ⟨Nat.le_of_ble_eq_true rfl, Nat.le_of_ble_eq_true rfl⟩) hE (fun q h => hA q (Nat.le_trans hS.1 h)) hC (va_recv hE.K hC (ci := 4) (q0 := 0) rfl rfl) rfl hl.1 rfl (Nat.le_of_ble_eq_true rfl) dX4_isSame_207 ⟨by show _ ≤ 12; omega, by show _ ≤ 2200; omega⟩ ?_
                                refine lv_iload hx hb dX4_isSame_210 (lv_at hl 1 rfl) ?_
                                refine lv_aload_n hx hb dX4_isSame_212 rfl (lv_at hl 8 rfl) ?_
                                refine va_get (v := .ref (b 4)) (C := RX4) (T := TX4) (N := 4) hx hb hts (q_sub wsX40 203 rfl) hown hE.K hQ 0 rfl rfl 2 (by decide) (hts _ (List.mem_of_getElem? (i := 9) rfl)) (fun _ h9 => h9) rfl dX4_isSame_213 ?_
                                refine lv_iload hx hb dX4_isSame_216 (lv_at hl 3 rfl) ?_
                                refine q_aldA (n := sn z) (r := b (sL z + 2 * i + 6)) hx hb hE (hQ 4 _ rfl) (by omega) (by omega) dX4_isSame_218 (rfF_lt (by omega)) ?_
                                refine lv_iload hx hb dX4_isSame_219 (lv_at hl 2 rfl) ?_
                                refine q_iald (v := (swd z i) j) hx hb hE (hQ _ _ (wS_w (by omega))) (by omega) (by omega) dX4_isSame_221 rfl ?_
                                refine q_imul (v := (hearF (sL z) (kM z) (scd z i) (j * sL z + sdl z i)) * ((swd z i) j)) hx hb dX4_isSame_222 rfl ?_
                                refine lv_if_le (tgt := 230) hx hb dX4_isSame_223 (by decide) (fun c_m => ?_) (fun c_m => ?_)
                                · refine lv_iconst (v := nI 1) hx hb dX4_isSame_230 (by decide) ?_
                                  refine q_icmp_eq (tgt := 236) hx hb (by have := wrC_le (hearF (sL z) (kM z) (scd z i) (j * sL z + sdl z i)) (swd z i j); omega) (by omega) dX4_isSame_231 (by decide) (fun c_11 => ?_) (fun c_11 => ?_)
                                  · refine lv_iinc (v := nI (j + 1)) (lv' := [(9, .int (nI (j + 1))), (8, .int (lsM (fun w => hearF (sL z) (kM z) (scd z i) (w * sL z + sdl z i)) (ssd z i) (j + 1))), (10, .int (hearF (sL z) (kM z) (scd z i) (j * sL z + sdl z i))), (7, .int (nI i)), (3, .int (nI (sumN (ssd z) i))), (6, .int (nI (freeN z))), (5, .int (sumI (kM z) (endA z (sn z)))), (4, .int (hiF (kM z) (endA z (sn z)))), (0, .ref (b 0)), (1, .ref (ad 0)), (2, .ref y)]) hx hb dX4_isSame_236 hl (k := 2) rfl (nI_1 _) (by decide) rfl (fun ls hl => ?_)
                                    refine lv_goto (tgt := 129) hx hb dX4_isSame_239 (by decide) ?_
                                    exact ih_129 (j + 1)  (by omega) (by omega)  _ _ hP hD hS hE _ (lv_sub hl [0, 1, 3, 4, 5, 6, 7, 8, 9, 10] rfl)
                                  · exact absurd (wrC_t c_m) c_11
                                · refine lv_iconst (v := nI 0) hx hb dX4_isSame_226 (by decide) ?_
                                  refine lv_goto (tgt := 231) hx hb dX4_isSame_227 (by decide) ?_
                                  refine q_icmp_eq (tgt := 236) hx hb (by have := wrC_le (hearF (sL z) (kM z) (scd z i) (j * sL z + sdl z i)) (swd z i j); omega) (by omega) dX4_isSame_231 (by decide) (fun c_12 => ?_) (fun c_12 => ?_)
                                  · refine lv_iinc (v := nI (j + 1)) (lv' := [(9, .int (nI (j + 1))), (8, .int (lsM (fun w => hearF (sL z) (kM z) (scd z i) (w * sL z + sdl z i)) (ssd z i) (j + 1))), (10, .int (hearF (sL z) (kM z) (scd z i) (j * sL z + sdl z i))), (7, .int (nI i)), (3, .int (nI (sumN (ssd z) i))), (6, .int (nI (freeN z))), (5, .int (sumI (kM z) (endA z (sn z)))), (4, .int (hiF (kM z) (endA z (sn z)))), (0, .ref (b 0)), (1, .ref (ad 0)), (2, .ref y)]) hx hb dX4_isSame_236 hl (k := 2) rfl (nI_1 _) (by decide) rfl (fun ls hl => ?_)
                                    refine lv_goto (tgt := 129) hx hb dX4_isSame_239 (by decide) ?_
                                    exact ih_129 (j + 1)  (by omega) (by omega)  _ _ hP hD hS hE _ (lv_sub hl [0, 1, 3, 4, 5, 6, 7, 8, 9, 10] rfl)
                                  · exact absurd (wrC_f c_m) c_12
                      
                      exact lp_129 (ssd z i + 1) 0  (Nat.zero_le _) (by omega)  _ _ hP hD hS hE _ (lv_sub hl [0, 1, 2, 3, 4, 5, 6, 7, 8, 9] rfl)
                    · have e8 : nI 0 = lsM (fun w => hearF (sL z) (kM z) (scd z i) (w * sL z + sdl z i)) (ssd z i) 0 := (if_pos c_0).symm
                      refine lv_iconst (v := nI 0) hx hb dX4_isSame_118 (by decide) ?_
                      refine lv_goto (tgt := 124) hx hb dX4_isSame_119 (by decide) ?_
                      refine W.eq (g2 := F0 m 124 ls [.int (lsM (fun w => hearF (sL z) (kM z) (scd z i) (w * sL z + sdl z i)) (ssd z i) 0)]) (by rw [← e8]) ?_
                      refine lv_istore (lv' := [(8, .int (lsM (fun w => hearF (sL z) (kM z) (scd z i) (w * sL z + sdl z i)) (ssd z i) 0)), (7, .int (nI i)), (3, .int (nI (sumN (ssd z) i))), (6, .int (nI (freeN z))), (5, .int (sumI (kM z) (endA z (sn z)))), (4, .int (hiF (kM z) (endA z (sn z)))), (0, .ref (b 0)), (1, .ref (ad 0)), (2, .ref y)]) hx hb dX4_isSame_124 hl (by decide) rfl (fun ls hl => ?_)
                      refine lv_iconst (v := nI 0) hx hb dX4_isSame_126 (by decide) ?_
                      refine lv_istore (lv' := [(9, .int (nI 0)), (8, .int (lsM (fun w => hearF (sL z) (kM z) (scd z i) (w * sL z + sdl z i)) (ssd z i) 0)), (7, .int (nI i)), (3, .int (nI (sumN (ssd z) i))), (6, .int (nI (freeN z))), (5, .int (sumI (kM z) (endA z (sn z)))), (4, .int (hiF (kM z) (endA z (sn z)))), (0, .ref (b 0)), (1, .ref (ad 0)), (2, .ref y)]) hx hb dX4_isSame_127 hl (by decide) rfl (fun ls hl => ?_)
                      have lp_129 : ∀ (n_ j : Nat) , j ≤ ssd z i → ssd z i + 1 ≤ j + n_ → ∀ (H : Heap) (locs : List Loc), va_P g.1 vwCl ([(y, ints g 1020 (kM z))]) H → va_D (va_A [] s.heap.size) ([(y, ints g 1020 (kM z))]) → va_S (va_A [] s.heap.size) s.heap H locs → Ev g (va_A [] s.heap.size) s H → ∀ (ls : Array Slot), lv_has ls 11 [(9, .int (nI j)), (8, .int (lsM (fun w => hearF (sL z) (kM z) (scd z i) (w * sL z + sdl z i)) (ssd z i) j)), (7, .int (nI i)), (3, .int (nI (sumN (ssd z) i))), (6, .int (nI (freeN z))), (5, .int (sumI (kM z) (endA z (sn z)))), (4, .int (hiF (kM z) (endA z (sn z)))), (0, .ref (b 0)), (1, .ref (ad 0)), (2, .ref y)] → W p l e ({ frames := 7, cells := 12, slots := 2200, locals := 154 } : Room) s m ([.ref (b 0), .ref (ad 0)] : List Value).toArray below meth c H locs (1 + i) (1020 + 7 * i) (MQ below (q_Qw (fun _ : Unit => []) (fun _ => some (.int (nI 1))) g [] s.heap.size) ([.ref (b 0), .ref (ad 0)] : List Value).toArray s 12 2200 (va_A [] s.heap.size)) (F0 m 129 ls []) := by
                        intro n_
                        induction n_ with
                        | zero => intro j  hi_ hn_; exact absurd hn_ (by omega)
                        | succ n_ ih_129 =>
                          intro j  hi_j hn_j  H locs hP hD hS hE ls hl
                          have hQ := q_keep hQ0 hS
                          have hC := q_keep hC0 hS
                          refine lv_iload hx hb dX4_isSame_129 (lv_at hl 0 rfl) ?_
                          refine lv_aload_n hx hb dX4_isSame_131 rfl (lv_at hl 7 rfl) ?_
                          refine va_get (v := .ref (b 4)) (C := RX4) (T := TX4) (N := 4) hx hb hts (q_sub wsX40 203 rfl) hown hE.K hQ 0 rfl rfl 2 (by decide) (hts _ (List.mem_of_getElem? (i := 9) rfl)) (fun _ h9 => h9) rfl dX4_isSame_132 ?_
                          refine lv_iload hx hb dX4_isSame_135 (lv_at hl 2 rfl) ?_
                          refine q_aldA (n := sn z) (r := b (sL z + 2 * i + 6)) hx hb hE (hQ 4 _ rfl) (by omega) (by omega) dX4_isSame_137 (rfF_lt (by omega)) ?_
                          refine q_alen (v := nI (ssd z i)) hx hb hE (hQ _ _ (wS_w (by omega))) dX4_isSame_138 rfl ?_
                          refine q_icmp_ge (tgt := 242) hx hb (by omega) (by omega) dX4_isSame_139 (by decide) (fun c_w => ?_) (fun c_w => ?_)
                          · have ej : j = ssd z i := by omega
                            rw [ej, lsM_e] at hl
                            refine lv_iload_n hx hb dX4_isSame_242 rfl (lv_at hl 3 rfl) ?_
                            refine lv_aload_n hx hb dX4_isSame_243 rfl (lv_at hl 7 rfl) ?_
                            refine va_get (v := .ref (b 4)) (C := RX4) (T := TX4) (N := 4) hx hb hts (q_sub wsX40 203 rfl) hown hE.K hQ 0 rfl rfl 2 (by decide) (hts _ (List.mem_of_getElem? (i := 9) rfl)) (fun _ h9 => h9) rfl dX4_isSame_244 ?_
                            refine lv_iload hx hb dX4_isSame_247 (lv_at hl 2 rfl) ?_
                            refine q_aldA (n := sn z) (r := b (sL z + 2 * i + 6)) hx hb hE (hQ 4 _ rfl) (by omega) (by omega) dX4_isSame_249 (rfF_lt (by omega)) ?_
                            refine q_alen (v := nI (ssd z i)) hx hb hE (hQ _ _ (wS_w (by omega))) dX4_isSame_250 rfl ?_
                            refine q_iadd (v := nI (sumN (ssd z) (i + 1))) hx hb dX4_isSame_251 (nI_add _ _) ?_
                            refine lv_istore_n (lv' := [(3, .int (nI (sumN (ssd z) (i + 1)))), (9, .int (nI (ssd z i))), (8, .int (fnF (fun w => hearF (sL z) (kM z) (scd z i) (w * sL z + sdl z i)) (ssd z i))), (7, .int (nI i)), (6, .int (nI (freeN z))), (5, .int (sumI (kM z) (endA z (sn z)))), (4, .int (hiF (kM z) (endA z (sn z)))), (0, .ref (b 0)), (1, .ref (ad 0)), (2, .ref y)]) hx hb dX4_isSame_252 rfl hl (by decide) rfl (fun ls hl => ?_)
                            refine lv_bipush (v := nI 7) hx hb dX4_isSame_253 (by decide) ?_
                            refine q_newI (n := 7) hx hb (hts _ (List.mem_of_getElem? (i := 14) rfl)) hE hP hD hS hA (by omega) (by show 1 + i + 1 ≤ 12; omega) (by show 1020 + 7 * i + 7 ≤ 2200; omega) dX4_isSame_255 (fun q H hP hD hS => ?_)
                            have hP : va_P g.1 vwCl ([(y, ints g 1020 (kM z)), (q, ints g 7 (fun _ => 0))]) H := hP
                            have hD : va_D (va_A [] s.heap.size) ([(y, ints g 1020 (kM z)), (q, ints g 7 (fun _ => 0))]) := hD
                            have hE := hE0.kept hS.2.1
                            have hQ := q_keep hQ0 hS
                            have hC := q_keep hC0 hS
                            refine lv_dup hx hb dX4_isSame_257 rfl ?_
                            refine lv_iconst (v := nI 0) hx hb dX4_isSame_258 (by decide) ?_
                            refine lv_aload_n hx hb dX4_isSame_259 rfl (lv_at hl 7 rfl) ?_
                            refine va_get (v := .ref (b 3)) (C := RX4) (T := TX4) (N := 4) hx hb hts (q_sub wsX40 203 rfl) hown hE.K hQ 0 rfl rfl 1 (by decide) (hts _ (List.mem_of_getElem? (i := 8) rfl)) (fun _ h9 => h9) rfl dX4_isSame_260 ?_
                            refine lv_iload hx hb dX4_isSame_263 (lv_at hl 3 rfl) ?_
                            refine q_aldA (n := sn z) (r := b (sL z + 2 * i + 5)) hx hb hE (hQ 3 _ rfl) (by omega) (by omega) dX4_isSame_265 (rfF_lt (by omega)) ?_
                            refine lv_iconst (v := nI 0) hx hb dX4_isSame_266 (by decide) ?_
                            refine q_iald (v := nI (scd z i)) hx hb hE (hQ _ _ (wS_h (by omega))) (by omega) (by omega) dX4_isSame_267 rfl ?_
                            refine q_iast hx hb hE hP hD hS (q0 := 1) rfl (by omega) (by omega) dX4_isSame_268 (fun H locs hP hD hS => ?_)
                            have hP : va_P g.1 vwCl ([(y, ints g 1020 (kM z)), (q, ints g 7 (upd (fun _ => 0) 0 (nI (scd z i))))]) H := hP
                            have hD : va_D (va_A [] s.heap.size) ([(y, ints g 1020 (kM z)), (q, ints g 7 (upd (fun _ => 0) 0 (nI (scd z i))))]) := hD
                            have hE := hE0.kept hS.2.1
                            have hQ := q_keep hQ0 hS
                            have hC := q_keep hC0 hS
                            refine lv_dup hx hb dX4_isSame_269 rfl ?_
                            refine lv_iconst (v := nI 1) hx hb dX4_isSame_270 (by decide) ?_
                            refine lv_aload_n hx hb dX4_isSame_271 rfl (lv_at hl 7 rfl) ?_
                            refine va_get (v := .ref (b 3)) (C := RX4) (T := TX4) (N := 4) hx hb hts (q_sub wsX40 203 rfl) hown hE.K hQ 0 rfl rfl 1 (by decide) (hts _ (List.mem_of_getElem? (i := 8) rfl)) (fun _ h9 => h9) rfl dX4_isSame_272 ?_
                            refine lv_iload hx hb dX4_isSame_275 (lv_at hl 3 rfl) ?_
                            refine q_aldA (n := sn z) (r := b (sL z + 2 * i + 5)) hx hb hE (hQ 3 _ rfl) (by omega) (by omega) dX4_isSame_277 (rfF_lt (by omega)) ?_
                            refine lv_iconst (v := nI 1) hx hb dX4_isSame_278 (by decide) ?_
                            refine q_iald (v := nI (ssr z i)) hx hb hE (hQ _ _ (wS_h (by omega))) (by omega) (by omega) dX4_isSame_279 rfl ?_
                            refine q_iast hx hb hE hP hD hS (q0 := 1) rfl (by omega) (by omega) dX4_isSame_280 (fun H locs hP hD hS => ?_)
                            have hP : va_P g.1 vwCl ([(y, ints g 1020 (kM z)), (q, ints g 7 (upd (upd (fun _ => 0) 0 (nI (scd z i))) 1 (nI (ssr z i))))]) H := hP
                            have hD : va_D (va_A [] s.heap.size) ([(y, ints g 1020 (kM z)), (q, ints g 7 (upd (upd (fun _ => 0) 0 (nI (scd z i))) 1 (nI (ssr z i))))]) := hD
                            have hE := hE0.kept hS.2.1
                            have hQ := q_keep hQ0 hS
                            have hC := q_keep hC0 hS
                            refine lv_dup hx hb dX4_isSame_281 rfl ?_
                            refine lv_iconst (v := nI 2) hx hb dX4_isSame_282 (by decide) ?_
                            refine lv_aload_n hx hb dX4_isSame_283 rfl (lv_at hl 7 rfl) ?_
                            refine va_get (v := .ref (b 3)) (C := RX4) (T := TX4) (N := 4) hx hb hts (q_sub wsX40 203 rfl) hown hE.K hQ 0 rfl rfl 1 (by decide) (hts _ (List.mem_of_getElem? (i := 8) rfl)) (fun _ h9 => h9) rfl dX4_isSame_284 ?_
                            refine lv_iload hx hb dX4_isSame_287 (lv_at hl 3 rfl) ?_
                            refine q_aldA (n := sn z) (r := b (sL z + 2 * i + 5)) hx hb hE (hQ 3 _ rfl) (by omega) (by omega) dX4_isSame_289 (rfF_lt (by omega)) ?_
                            refine lv_iconst (v := nI 2) hx hb dX4_isSame_290 (by decide) ?_
                            refine q_iald (v := nI (sdl z i)) hx hb hE (hQ _ _ (wS_h (by omega))) (by omega) (by omega) dX4_isSame_291 rfl ?_
                            refine q_iast hx hb hE hP hD hS (q0 := 1) rfl (by omega) (by omega) dX4_isSame_292 (fun H locs hP hD hS => ?_)
                            have hP : va_P g.1 vwCl ([(y, ints g 1020 (kM z)), (q, ints g 7 (upd (upd (upd (fun _ => 0) 0 (nI (scd z i))) 1 (nI (ssr z i))) 2 (nI (sdl z i))))]) H := hP
                            have hD : va_D (va_A [] s.heap.size) ([(y, ints g 1020 (kM z)), (q, ints g 7 (upd (upd (upd (fun _ => 0) 0 (nI (scd z i))) 1 (nI (ssr z i))) 2 (nI (sdl z i))))]) := hD
                            have hE := hE0.kept hS.2.1
                            have hQ := q_keep hQ0 hS
                            have hC := q_keep hC0 hS
                            refine lv_dup hx hb dX4_isSame_293 rfl ?_
                            refine lv_iconst (v := nI 3) hx hb dX4_isSame_294 (by decide) ?_
                            refine lv_aload_n hx hb dX4_isSame_295 rfl (lv_at hl 7 rfl) ?_
                            refine va_get (v := .ref (b 4)) (C := RX4) (T := TX4) (N := 4) hx hb hts (q_sub wsX40 203 rfl) hown hE.K hQ 0 rfl rfl 2 (by decide) (hts _ (List.mem_of_getElem? (i := 9) rfl)) (fun _ h9 => h9) rfl dX4_isSame_296 ?_
                            refine lv_iload hx hb dX4_isSame_299 (lv_at hl 3 rfl) ?_
                            refine q_aldA (n := sn z) (r := b (sL z + 2 * i + 6)) hx hb hE (hQ 4 _ rfl) (by omega) (by omega) dX4_isSame_301 (rfF_lt (by omega)) ?_
                            refine q_alen (v := nI (ssd z i)) hx hb hE (hQ _ _ (wS_w (by omega))) dX4_isSame_302 rfl ?_
                            refine q_iast hx hb hE hP hD hS (q0 := 1) rfl (by omega) (by omega) dX4_isSame_303 (fun H locs hP hD hS => ?_)
                            have hP : va_P g.1 vwCl ([(y, ints g 1020 (kM z)), (q, ints g 7 (upd (upd (upd (upd (fun _ => 0) 0 (nI (scd z i))) 1 (nI (ssr z i))) 2 (nI (sdl z i))) 3 (nI (ssd z i))))]) H := hP
                            have hD : va_D (va_A [] s.heap.size) ([(y, ints g 1020 (kM z)), (q, ints g 7 (upd (upd (upd (upd (fun _ => 0) 0 (nI (scd z i))) 1 (nI (ssr z i))) 2 (nI (sdl z i))) 3 (nI (ssd z i))))]) := hD
                            have hE := hE0.kept hS.2.1
                            have hQ := q_keep hQ0 hS
                            have hC := q_keep hC0 hS
                            refine lv_dup hx hb dX4_isSame_304 rfl ?_
                            refine lv_iconst (v := nI 4) hx hb dX4_isSame_305 (by decide) ?_
                            refine lv_aload_n hx hb dX4_isSame_306 rfl (lv_at hl 7 rfl) ?_
                            refine lv_aload_n hx hb dX4_isSame_307 rfl (lv_at hl 9 rfl) ?_
                            refine lv_iload hx hb dX4_isSame_308 (lv_at hl 3 rfl) ?_
                            refine q_roV (As := [.ref y, .int (nI i)]) (rest := [.int (nI 4), .ref q, .ref q]) ⟨hx, hb, hml, hown, hts⟩ (c_X4_wrong hV (k := i) c_h (y0 := y) (K := kM z)) (cwV 2 hts gX4_isSame_X4_wrong rfl rfl rfl (by decide +kernel) ⟨Nat.le_of_ble_eq_true rfl, Nat.le_of_ble_eq_true rfl⟩) hE (fun q h => hA q (Nat.le_trans hS.1 h)) ⟨hQ, hP 0 _ rfl⟩ (va_recv hE.K hQ (ci := 5) (q0 := 0) rfl rfl) rfl hl.1 rfl (Nat.le_of_ble_eq_true rfl) dX4_isSame_310 ⟨by show _ ≤ 12; omega, by show _ ≤ 2200; omega⟩ ?_
                            refine q_iast hx hb hE hP hD hS (q0 := 1) rfl (by omega) (by omega) dX4_isSame_313 (fun H locs hP hD hS => ?_)
                            have hP : va_P g.1 vwCl ([(y, ints g 1020 (kM z)), (q, ints g 7 (upd (upd (upd (upd (upd (fun _ => 0) 0 (nI (scd z i))) 1 (nI (ssr z i))) 2 (nI (sdl z i))) 3 (nI (ssd z i))) 4 (nI (wrF (sL z) (kM z) (scd z i) (sdl z i) (swd z i) (ssd z i)))))]) H := hP
                            have hD : va_D (va_A [] s.heap.size) ([(y, ints g 1020 (kM z)), (q, ints g 7 (upd (upd (upd (upd (upd (fun _ => 0) 0 (nI (scd z i))) 1 (nI (ssr z i))) 2 (nI (sdl z i))) 3 (nI (ssd z i))) 4 (nI (wrF (sL z) (kM z) (scd z i) (sdl z i) (swd z i) (ssd z i)))))]) := hD
                            have hE := hE0.kept hS.2.1
                            have hQ := q_keep hQ0 hS
                            have hC := q_keep hC0 hS
                            refine lv_dup hx hb dX4_isSame_314 rfl ?_
                            refine lv_iconst (v := nI 5) hx hb dX4_isSame_315 (by decide) ?_
                            refine lv_aload_n hx hb dX4_isSame_316 rfl (lv_at hl 7 rfl) ?_
                            refine lv_iload hx hb dX4_isSame_317 (lv_at hl 3 rfl) ?_
                            refine q_roV (As := [.int (nI i)]) (rest := [.int (nI 5), .ref q, .ref q]) ⟨hx, hb, hml, hown, hts⟩ (c_X4_end hV (k := i) c_h) (cwV 1 hts gX4_isSame_X4_end rfl rfl rfl (by decide +kernel) ⟨Nat.le_of_ble_eq_true rfl, Nat.le_of_ble_eq_true rfl⟩) hE (fun q h => hA q (Nat.le_trans hS.1 h)) hQ (va_recv hE.K hQ (ci := 5) (q0 := 0) rfl rfl) rfl hl.1 rfl (Nat.le_of_ble_eq_true rfl) dX4_isSame_319 ⟨by show _ ≤ 12; omega, by show _ ≤ 2200; omega⟩ ?_
                            refine q_iast hx hb hE hP hD hS (q0 := 1) rfl (by omega) (by omega) dX4_isSame_322 (fun H locs hP hD hS => ?_)
                            have hP : va_P g.1 vwCl ([(y, ints g 1020 (kM z)), (q, ints g 7 (upd (upd (upd (upd (upd (upd (fun _ => 0) 0 (nI (scd z i))) 1 (nI (ssr z i))) 2 (nI (sdl z i))) 3 (nI (ssd z i))) 4 (nI (wrF (sL z) (kM z) (scd z i) (sdl z i) (swd z i) (ssd z i)))) 5 (nI (endF (sL z) (ssd z i) (sdl z i)))))]) H := hP
                            have hD : va_D (va_A [] s.heap.size) ([(y, ints g 1020 (kM z)), (q, ints g 7 (upd (upd (upd (upd (upd (upd (fun _ => 0) 0 (nI (scd z i))) 1 (nI (ssr z i))) 2 (nI (sdl z i))) 3 (nI (ssd z i))) 4 (nI (wrF (sL z) (kM z) (scd z i) (sdl z i) (swd z i) (ssd z i)))) 5 (nI (endF (sL z) (ssd z i) (sdl z i)))))]) := hD
                            have hE := hE0.kept hS.2.1
                            have hQ := q_keep hQ0 hS
                            have hC := q_keep hC0 hS
                            refine lv_dup hx hb dX4_isSame_323 rfl ?_
                            refine lv_bipush (v := nI 6) hx hb dX4_isSame_324 (by decide) ?_
                            refine lv_iload hx hb dX4_isSame_326 (lv_at hl 2 rfl) ?_
                            refine q_iast hx hb hE hP hD hS (q0 := 1) rfl (by omega) (by omega) dX4_isSame_328 (fun H locs hP hD hS => ?_)
                            have hP : va_P g.1 vwCl ([(y, ints g 1020 (kM z)), (q, ints g 7 (upd (upd (upd (upd (upd (upd (upd (fun _ => 0) 0 (nI (scd z i))) 1 (nI (ssr z i))) 2 (nI (sdl z i))) 3 (nI (ssd z i))) 4 (nI (wrF (sL z) (kM z) (scd z i) (sdl z i) (swd z i) (ssd z i)))) 5 (nI (endF (sL z) (ssd z i) (sdl z i)))) 6 (fnF (fun w => hearF (sL z) (kM z) (scd z i) (w * sL z + sdl z i)) (ssd z i))))]) H := hP
                            have hD : va_D (va_A [] s.heap.size) ([(y, ints g 1020 (kM z)), (q, ints g 7 (upd (upd (upd (upd (upd (upd (upd (fun _ => 0) 0 (nI (scd z i))) 1 (nI (ssr z i))) 2 (nI (sdl z i))) 3 (nI (ssd z i))) 4 (nI (wrF (sL z) (kM z) (scd z i) (sdl z i) (swd z i) (ssd z i)))) 5 (nI (endF (sL z) (ssd z i) (sdl z i)))) 6 (fnF (fun w => hearF (sL z) (kM z) (scd z i) (w * sL z + sdl z i)) (ssd z i))))]) := hD
                            have hE := hE0.kept hS.2.1
                            have hQ := q_keep hQ0 hS
                            have hC := q_keep hC0 hS
                            have hP : va_P g.1 vwCl ([(y, ints g 1020 (kM z)), (q, ints g 7 (fun j => abtV z (kM z) i j))]) H := q_lastP (l := [(y, ints g 1020 (kM z))]) told_e hP
                            have hD : va_D (va_A [] s.heap.size) ([(y, ints g 1020 (kM z)), (q, ints g 7 (fun j => abtV z (kM z) i j))]) := q_lastD (l := [(y, ints g 1020 (kM z))]) hD
                            refine lv_astore (lv' := [(9, .ref q), (3, .int (nI (sumN (ssd z) (i + 1)))), (8, .int (fnF (fun w => hearF (sL z) (kM z) (scd z i) (w * sL z + sdl z i)) (ssd z i))), (7, .int (nI i)), (6, .int (nI (freeN z))), (5, .int (sumI (kM z) (endA z (sn z)))), (4, .int (hiF (kM z) (endA z (sn z)))), (0, .ref (b 0)), (1, .ref (ad 0)), (2, .ref y)]) hx hb dX4_isSame_329 hl (by decide) rfl (fun ls hl => ?_)
                            refine lv_iconst (v := nI 0) hx hb dX4_isSame_331 (by decide) ?_
                            refine lv_istore (lv' := [(10, .int (nI 0)), (9, .ref q), (3, .int (nI (sumN (ssd z) (i + 1)))), (8, .int (fnF (fun w => hearF (sL z) (kM z) (scd z i) (w * sL z + sdl z i)) (ssd z i))), (7, .int (nI i)), (6, .int (nI (freeN z))), (5, .int (sumI (kM z) (endA z (sn z)))), (4, .int (hiF (kM z) (endA z (sn z)))), (0, .ref (b 0)), (1, .ref (ad 0)), (2, .ref y)]) hx hb dX4_isSame_332 hl (by decide) rfl (fun ls hl => ?_)
                            have lp_334 : ∀ (n_ j : Nat) , j ≤ 7 → 7 + 1 ≤ j + n_ → ∀ (H : Heap) (locs : List Loc), va_P g.1 vwCl ([(y, ints g 1020 (kM z)), (q, ints g 7 (fun j => abtV z (kM z) i j))]) H → va_D (va_A [] s.heap.size) ([(y, ints g 1020 (kM z)), (q, ints g 7 (fun j => abtV z (kM z) i j))]) → va_S (va_A [] s.heap.size) s.heap H locs → Ev g (va_A [] s.heap.size) s H → ∀ (ls : Array Slot), lv_has ls 11 [(10, .int (nI j)), (9, .ref q), (8, .int (fnF (fun w => hearF (sL z) (kM z) (scd z i) (w * sL z + sdl z i)) (ssd z i))), (7, .int (nI i)), (3, .int (nI (sumN (ssd z) (i + 1)))), (6, .int (nI (freeN z))), (5, .int (sumI (kM z) (endA z (sn z)))), (4, .int (hiF (kM z) (endA z (sn z)))), (0, .ref (b 0)), (1, .ref (ad 0)), (2, .ref y)] → W p l e ({ frames := 7, cells := 12, slots := 2200, locals := 154 } : Room) s m ([.ref (b 0), .ref (ad 0)] : List Value).toArray below meth c H locs (1 + i + 1) (1020 + 7 * i + 7) (MQ below (q_Qw (fun _ : Unit => []) (fun _ => some (.int (nI 1))) g [] s.heap.size) ([.ref (b 0), .ref (ad 0)] : List Value).toArray s 12 2200 (va_A [] s.heap.size)) (F0 m 334 ls []) := by
                              intro n_
                              induction n_ with
                              | zero => intro j  hi_ hn_; exact absurd hn_ (by omega)
                              | succ n_ ih_334 =>
                                intro j  hi_j hn_j  H locs hP hD hS hE ls hl
                                have hQ := q_keep hQ0 hS
                                have hC := q_keep hC0 hS
                                refine lv_iload hx hb dX4_isSame_334 (lv_at hl 0 rfl) ?_
                                refine lv_bipush (v := nI 7) hx hb dX4_isSame_336 (by decide) ?_
                                refine q_icmp_ge (tgt := 365) hx hb (by omega) (by omega) dX4_isSame_338 (by decide) (fun c_13 => ?_) (fun c_13 => ?_)
                                · have hP : va_P g.1 vwCl ([(y, ints g 1020 (kM z))]) H := q_spP (q_sl (List.sublist_append_left (l₁ := [(y, ints g 1020 (kM z))]) _)) hP
                                  have hD : va_D (va_A [] s.heap.size) ([(y, ints g 1020 (kM z))]) := q_spD (q_sl (List.sublist_append_left (l₁ := [(y, ints g 1020 (kM z))]) _)) hD
                                  refine W.widen (k := 1 + (i + 1)) (n := 1020 + 7 * (i + 1)) (by omega) (by omega) ?_
                                  refine lv_iinc (v := nI (i + 1)) (lv' := [(7, .int (nI (i + 1))), (10, .int (nI j)), (9, .ref q), (8, .int (fnF (fun w => hearF (sL z) (kM z) (scd z i) (w * sL z + sdl z i)) (ssd z i))), (3, .int (nI (sumN (ssd z) (i + 1)))), (6, .int (nI (freeN z))), (5, .int (sumI (kM z) (endA z (sn z)))), (4, .int (hiF (kM z) (endA z (sn z)))), (0, .ref (b 0)), (1, .ref (ad 0)), (2, .ref y)]) hx hb dX4_isSame_365 hl (k := 3) rfl (nI_1 _) (by decide) rfl (fun ls hl => ?_)
                                  refine lv_goto (tgt := 97) hx hb dX4_isSame_368 (by decide) ?_
                                  exact ih_97 (i + 1)  (by omega) (by omega)  _ _ hP hD hS hE _ (lv_sub hl [0, 4, 5, 6, 7, 8, 9, 10] rfl)
                                · refine lv_aload_n hx hb dX4_isSame_341 rfl (lv_at hl 9 rfl) ?_
                                  refine lv_iload hx hb dX4_isSame_342 (lv_at hl 3 rfl) ?_
                                  refine lv_iload hx hb dX4_isSame_344 (lv_at hl 0 rfl) ?_
                                  refine q_roV (As := [.int (nI i), .int (nI j)]) (rest := []) ⟨hx, hb, hml, hown, hts⟩ (k_about hI (k := i) (q := j) c_h (by omega)) (cwV 2 hts gX4_isSame_X3_about rfl rfl rfl (by decide +kernel) ⟨Nat.le_of_ble_eq_true rfl, Nat.le_of_ble_eq_true rfl⟩) hE (fun q h => hA q (Nat.le_trans hS.1 h)) hC (va_recv hE.K hC (ci := 4) (q0 := 0) rfl rfl) rfl hl.1 rfl (Nat.le_of_ble_eq_true rfl) dX4_isSame_346 ⟨by show _ ≤ 12; omega, by show _ ≤ 2200; omega⟩ ?_
                                  refine lv_aload hx hb dX4_isSame_349 (lv_at hl 1 rfl) ?_
                                  refine lv_iload hx hb dX4_isSame_351 (lv_at hl 0 rfl) ?_
                                  refine q_iald (v := abtV z (kM z) i j) hx hb hE (hP 1 _ rfl) (by omega) (by omega) dX4_isSame_353 rfl ?_
                                  refine lv_icmp_eq (tgt := 359) hx hb dX4_isSame_354 (by decide) (fun c_14 => ?_) (fun c_14 => ?_)
                                  · refine lv_iinc (v := nI (j + 1)) (lv' := [(10, .int (nI (j + 1))), (9, .ref q), (8, .int (fnF (fun w => hearF (sL z) (kM z) (scd z i) (w * sL z + sdl z i)) (ssd z i))), (7, .int (nI i)), (3, .int (nI (sumN (ssd z) (i + 1)))), (6, .int (nI (freeN z))), (5, .int (sumI (kM z) (endA z (sn z)))), (4, .int (hiF (kM z) (endA z (sn z)))), (0, .ref (b 0)), (1, .ref (ad 0)), (2, .ref y)]) hx hb dX4_isSame_359 hl (k := 0) rfl (nI_1 _) (by decide) rfl (fun ls hl => ?_)
                                    refine lv_goto (tgt := 334) hx hb dX4_isSame_362 (by decide) ?_
                                    exact ih_334 (j + 1)  (by omega) (by omega)  _ _ hP hD hS hE _ (lv_sub hl [0, 1, 2, 3, 4, 5, 6, 7, 8, 9, 10] rfl)
                                  · exact absurd rfl c_14
                            
                            exact lp_334 (7 + 1) 0  (Nat.zero_le _) (by omega)  _ _ hP hD hS hE _ (lv_sub hl [0, 1, 3, 4, 2, 5, 6, 7, 8, 9, 10] rfl)
                          · refine lv_aload_n hx hb dX4_isSame_142 rfl (lv_at hl 7 rfl) ?_
                            refine lv_aload_n hx hb dX4_isSame_143 rfl (lv_at hl 9 rfl) ?_
                            refine lv_iload hx hb dX4_isSame_144 (lv_at hl 2 rfl) ?_
                            refine lv_iload hx hb dX4_isSame_146 (lv_at hl 0 rfl) ?_
                            refine q_roV (As := [.ref y, .int (nI i), .int (nI j)]) (rest := []) ⟨hx, hb, hml, hown, hts⟩ (c_X4_heard hV c_h (y0 := y) (K := kM z) (w := j) (by omega)) (cwV 3 hts gX4_isSame_X4_heard rfl rfl rfl (by decide +kernel) ⟨Nat.le_of_ble_eq_true rfl, Nat.le_of_ble_eq_true rfl⟩) hE (fun q h => hA q (Nat.le_trans hS.1 h)) ⟨hQ, hP 0 _ rfl⟩ (va_recv hE.K hQ (ci := 5) (q0 := 0) rfl rfl) rfl hl.1 rfl (Nat.le_of_ble_eq_true rfl) dX4_isSame_148 ⟨by show _ ≤ 12; omega, by show _ ≤ 2200; omega⟩ ?_
                            refine lv_istore (lv' := [(10, .int (hearF (sL z) (kM z) (scd z i) (j * sL z + sdl z i))), (9, .int (nI j)), (8, .int (lsM (fun w => hearF (sL z) (kM z) (scd z i) (w * sL z + sdl z i)) (ssd z i) j)), (7, .int (nI i)), (3, .int (nI (sumN (ssd z) i))), (6, .int (nI (freeN z))), (5, .int (sumI (kM z) (endA z (sn z)))), (4, .int (hiF (kM z) (endA z (sn z)))), (0, .ref (b 0)), (1, .ref (ad 0)), (2, .ref y)]) hx hb dX4_isSame_151 hl (by decide) rfl (fun ls hl => ?_)
                            refine lv_iload hx hb dX4_isSame_153 (lv_at hl 2 rfl) ?_
                            refine lv_iload hx hb dX4_isSame_155 (lv_at hl 0 rfl) ?_
                            refine q_mabs (v := ab (hearF (sL z) (kM z) (scd z i) (j * sL z + sdl z i))) hx hb (hml.trans hl.1.symm) hown (hts _ (List.mem_of_getElem? (i := 1) rfl)) (hts _ (List.mem_of_getElem? (i := 2) rfl)) (hts _ (List.mem_of_getElem? (i := 3) rfl)) (hts _ (List.mem_of_getElem? (i := 4) rfl)) (Nat.le_of_ble_eq_true rfl) (Nat.le_of_ble_eq_true rfl) (by show _ ≤ 12; omega) (by show _ ≤ 2200; omega) dX4_isSame_157 rfl ?_
                            refine q_mmin (v := lsM (fun w => hearF (sL z) (kM z) (scd z i) (w * sL z + sdl z i)) (ssd z i) (j + 1)) hx hb (hml.trans hl.1.symm) hown (hts _ (List.mem_of_getElem? (i := 11) rfl)) (hts _ (List.mem_of_getElem? (i := 12) rfl)) (hts _ (List.mem_of_getElem? (i := 3) rfl)) (hts _ (List.mem_of_getElem? (i := 13) rfl)) (Nat.le_of_ble_eq_true rfl) (Nat.le_of_ble_eq_true rfl) (by show _ ≤ 12; omega) (by show _ ≤ 2200; omega) dX4_isSame_160 rfl ?_
                            refine lv_istore (lv' := [(8, .int (lsM (fun w => hearF (sL z) (kM z) (scd z i) (w * sL z + sdl z i)) (ssd z i) (j + 1))), (10, .int (hearF (sL z) (kM z) (scd z i) (j * sL z + sdl z i))), (9, .int (nI j)), (7, .int (nI i)), (3, .int (nI (sumN (ssd z) i))), (6, .int (nI (freeN z))), (5, .int (sumI (kM z) (endA z (sn z)))), (4, .int (hiF (kM z) (endA z (sn z)))), (0, .ref (b 0)), (1, .ref (ad 0)), (2, .ref y)]) hx hb dX4_isSame_163 hl (by decide) rfl (fun ls hl => ?_)
                            refine lv_aload_n hx hb dX4_isSame_165 rfl (lv_at hl 9 rfl) ?_
                            refine lv_iload hx hb dX4_isSame_166 (lv_at hl 3 rfl) ?_
                            refine lv_iload hx hb dX4_isSame_168 (lv_at hl 2 rfl) ?_
                            refine lv_iconst (v := nI 0) hx hb dX4_isSame_170 (by decide) ?_
                            refine q_roV (As := [.int (nI i), .int (nI j), .int (nI 0)]) (rest := []) ⟨hx, hb, hml, hown, hts⟩ (k_word0 hI (k := i) (w := j) c_h c_w) (cwV 3 hts gX4_isSame_X3_word rfl rfl rfl (by decide +kernel) ⟨Nat.le_of_ble_eq_true rfl, Nat.le_of_ble_eq_true rfl⟩) hE (fun q h => hA q (Nat.le_trans hS.1 h)) hC (va_recv hE.K hC (ci := 4) (q0 := 0) rfl rfl) rfl hl.1 rfl (Nat.le_of_ble_eq_true rfl) dX4_isSame_171 ⟨by show _ ≤ 12; omega, by show _ ≤ 2200; omega⟩ ?_
                            refine lv_aload_n hx hb dX4_isSame_174 rfl (lv_at hl 8 rfl) ?_
                            refine va_get (v := .ref (b 4)) (C := RX4) (T := TX4) (N := 4) hx hb hts (q_sub wsX40 203 rfl) hown hE.K hQ 0 rfl rfl 2 (by decide) (hts _ (List.mem_of_getElem? (i := 9) rfl)) (fun _ h9 => h9) rfl dX4_isSame_175 ?_
                            refine lv_iload hx hb dX4_isSame_178 (lv_at hl 3 rfl) ?_
                            refine q_aldA (n := sn z) (r := b (sL z + 2 * i + 6)) hx hb hE (hQ 4 _ rfl) (by omega) (by omega) dX4_isSame_180 (rfF_lt (by omega)) ?_
                            refine lv_iload hx hb dX4_isSame_181 (lv_at hl 2 rfl) ?_
                            refine q_iald (v := (swd z i) j) hx hb hE (hQ _ _ (wS_w (by omega))) (by omega) (by omega) dX4_isSame_183 rfl ?_
                            refine lv_icmp_ne (tgt := 234) hx hb dX4_isSame_184 (by decide) (fun c_15 => ?_) (fun c_15 => ?_)
                            · exact absurd rfl c_15
                            · refine lv_aload_n hx hb dX4_isSame_187 rfl (lv_at hl 9 rfl) ?_
                              refine lv_iload hx hb dX4_isSame_188 (lv_at hl 3 rfl) ?_
                              refine lv_iload hx hb dX4_isSame_190 (lv_at hl 2 rfl) ?_
                              refine lv_iconst (v := nI 1) hx hb dX4_isSame_192 (by decide) ?_
                              refine q_roV (As := [.int (nI i), .int (nI j), .int (nI 1)]) (rest := []) ⟨hx, hb, hml, hown, hts⟩ (k_word1 hI (k := i) (w := j) c_h c_w) (cwV 3 hts gX4_isSame_X3_word rfl rfl rfl (by decide +kernel) ⟨Nat.le_of_ble_eq_true rfl, Nat.le_of_ble_eq_true rfl⟩) hE (fun q h => hA q (Nat.le_trans hS.1 h)) hC (va_recv hE.K hC (ci := 4) (q0 := 0) rfl rfl) rfl hl.1 rfl (Nat.le_of_ble_eq_true rfl) dX4_isSame_193 ⟨by show _ ≤ 12; omega, by show _ ≤ 2200; omega⟩ ?_
                              refine lv_iload hx hb dX4_isSame_196 (lv_at hl 1 rfl) ?_
                              refine lv_icmp_ne (tgt := 234) hx hb dX4_isSame_198 (by decide) (fun c_16 => ?_) (fun c_16 => ?_)
                              · exact absurd rfl c_16
                              · refine lv_aload_n hx hb dX4_isSame_201 rfl (lv_at hl 9 rfl) ?_
                                refine lv_iload hx hb dX4_isSame_202 (lv_at hl 3 rfl) ?_
                                refine lv_iload hx hb dX4_isSame_204 (lv_at hl 2 rfl) ?_
                                refine lv_iconst (v := nI 2) hx hb dX4_isSame_206 (by decide) ?_
                                refine q_roV (As := [.int (nI i), .int (nI j), .int (nI 2)]) (rest := []) ⟨hx, hb, hml, hown, hts⟩ (k_word2 hI (k := i) (w := j) c_h c_w) (cwV 3 hts gX4_isSame_X3_word rfl rfl rfl (by decide +kernel) ⟨Nat.le_of_ble_eq_true rfl, Nat.le_of_ble_eq_true rfl⟩) hE (fun q h => hA q (Nat.le_trans hS.1 h)) hC (va_recv hE.K hC (ci := 4) (q0 := 0) rfl rfl) rfl hl.1 rfl (Nat.le_of_ble_eq_true rfl) dX4_isSame_207 ⟨by show _ ≤ 12; omega, by show _ ≤ 2200; omega⟩ ?_
                                refine lv_iload hx hb dX4_isSame_210 (lv_at hl 1 rfl) ?_
                                refine lv_aload_n hx hb dX4_isSame_212 rfl (lv_at hl 8 rfl) ?_
                                refine va_get (v := .ref (b 4)) (C := RX4) (T := TX4) (N := 4) hx hb hts (q_sub wsX40 203 rfl) hown hE.K hQ 0 rfl rfl 2 (by decide) (hts _ (List.mem_of_getElem? (i := 9) rfl)) (fun _ h9 => h9) rfl dX4_isSame_213 ?_
                                refine lv_iload hx hb dX4_isSame_216 (lv_at hl 3 rfl) ?_
                                refine q_aldA (n := sn z) (r := b (sL z + 2 * i + 6)) hx hb hE (hQ 4 _ rfl) (by omega) (by omega) dX4_isSame_218 (rfF_lt (by omega)) ?_
                                refine lv_iload hx hb dX4_isSame_219 (lv_at hl 2 rfl) ?_
                                refine q_iald (v := (swd z i) j) hx hb hE (hQ _ _ (wS_w (by omega))) (by omega) (by omega) dX4_isSame_221 rfl ?_
                                refine q_imul (v := (hearF (sL z) (kM z) (scd z i) (j * sL z + sdl z i)) * ((swd z i) j)) hx hb dX4_isSame_222 rfl ?_
                                refine lv_if_le (tgt := 230) hx hb dX4_isSame_223 (by decide) (fun c_m => ?_) (fun c_m => ?_)
                                · refine lv_iconst (v := nI 1) hx hb dX4_isSame_230 (by decide) ?_
                                  refine q_icmp_eq (tgt := 236) hx hb (by have := wrC_le (hearF (sL z) (kM z) (scd z i) (j * sL z + sdl z i)) (swd z i j); omega) (by omega) dX4_isSame_231 (by decide) (fun c_17 => ?_) (fun c_17 => ?_)
                                  · refine lv_iinc (v := nI (j + 1)) (lv' := [(9, .int (nI (j + 1))), (8, .int (lsM (fun w => hearF (sL z) (kM z) (scd z i) (w * sL z + sdl z i)) (ssd z i) (j + 1))), (10, .int (hearF (sL z) (kM z) (scd z i) (j * sL z + sdl z i))), (7, .int (nI i)), (3, .int (nI (sumN (ssd z) i))), (6, .int (nI (freeN z))), (5, .int (sumI (kM z) (endA z (sn z)))), (4, .int (hiF (kM z) (endA z (sn z)))), (0, .ref (b 0)), (1, .ref (ad 0)), (2, .ref y)]) hx hb dX4_isSame_236 hl (k := 2) rfl (nI_1 _) (by decide) rfl (fun ls hl => ?_)
                                    refine lv_goto (tgt := 129) hx hb dX4_isSame_239 (by decide) ?_
                                    exact ih_129 (j + 1)  (by omega) (by omega)  _ _ hP hD hS hE _ (lv_sub hl [0, 1, 3, 4, 5, 6, 7, 8, 9, 10] rfl)
                                  · exact absurd (wrC_t c_m) c_17
                                · refine lv_iconst (v := nI 0) hx hb dX4_isSame_226 (by decide) ?_
                                  refine lv_goto (tgt := 231) hx hb dX4_isSame_227 (by decide) ?_
                                  refine q_icmp_eq (tgt := 236) hx hb (by have := wrC_le (hearF (sL z) (kM z) (scd z i) (j * sL z + sdl z i)) (swd z i j); omega) (by omega) dX4_isSame_231 (by decide) (fun c_18 => ?_) (fun c_18 => ?_)
                                  · refine lv_iinc (v := nI (j + 1)) (lv' := [(9, .int (nI (j + 1))), (8, .int (lsM (fun w => hearF (sL z) (kM z) (scd z i) (w * sL z + sdl z i)) (ssd z i) (j + 1))), (10, .int (hearF (sL z) (kM z) (scd z i) (j * sL z + sdl z i))), (7, .int (nI i)), (3, .int (nI (sumN (ssd z) i))), (6, .int (nI (freeN z))), (5, .int (sumI (kM z) (endA z (sn z)))), (4, .int (hiF (kM z) (endA z (sn z)))), (0, .ref (b 0)), (1, .ref (ad 0)), (2, .ref y)]) hx hb dX4_isSame_236 hl (k := 2) rfl (nI_1 _) (by decide) rfl (fun ls hl => ?_)
                                    refine lv_goto (tgt := 129) hx hb dX4_isSame_239 (by decide) ?_
                                    exact ih_129 (j + 1)  (by omega) (by omega)  _ _ hP hD hS hE _ (lv_sub hl [0, 1, 3, 4, 5, 6, 7, 8, 9, 10] rfl)
                                  · exact absurd (wrC_f c_m) c_18
                      
                      exact lp_129 (ssd z i + 1) 0  (Nat.zero_le _) (by omega)  _ _ hP hD hS hE _ (lv_sub hl [0, 1, 2, 3, 4, 5, 6, 7, 8, 9] rfl)
              
              exact lp_97 (sn z + 1) 0  (Nat.zero_le _) (by omega)  _ _ hP hD hS hE _ (lv_sub hl [0, 4, 1, 2, 3, 5, 6, 7] rfl)
            · refine lv_iload hx hb dX4_isSame_69 (lv_at hl 1 rfl) ?_
              refine lv_aload_n hx hb dX4_isSame_71 rfl (lv_at hl 5 rfl) ?_
              refine lv_iload hx hb dX4_isSame_72 (lv_at hl 0 rfl) ?_
              refine q_roV (As := [.int (nI i)]) (rest := [.int (nI (sumN (fun c => if takB z c (sn z) = true then 0 else 1) i))]) ⟨hx, hb, hml, hown, hts⟩ (c_X4_isTaken hV (a := i) (by omega)) (cwV 1 hts gX4_isSame_X4_isTaken rfl rfl rfl (by decide +kernel) ⟨Nat.le_of_ble_eq_true rfl, Nat.le_of_ble_eq_true rfl⟩) hE (fun q h => hA q (Nat.le_trans hS.1 h)) hQ (va_recv hE.K hQ (ci := 5) (q0 := 0) rfl rfl) rfl hl.1 rfl (Nat.le_of_ble_eq_true rfl) dX4_isSame_74 ⟨by show _ ≤ 12; omega, by show _ ≤ 2200; omega⟩ ?_
              refine q_ifb_eq (tgt := 84) hx hb dX4_isSame_77 (by decide) (fun c_t => ?_) (fun c_t => ?_)
              · have e9 : nI (sumN (fun c => if takB z c (sn z) = true then 0 else 1) i) + nI 1 = nI (sumN (fun c => if takB z c (sn z) = true then 0 else 1) (i + 1)) := by rw [nI_add]; exact congrArg nI (show _ = sumN _ i + (if takB z i (sn z) = true then 0 else 1) by rw [if_neg c_t])
                refine lv_iconst (v := nI 1) hx hb dX4_isSame_84 (by decide) ?_
                refine q_iadd (v := nI (sumN (fun c => if takB z c (sn z) = true then 0 else 1) (i + 1))) hx hb dX4_isSame_85 e9 ?_
                refine lv_istore (lv' := [(6, .int (nI (sumN (fun c => if takB z c (sn z) = true then 0 else 1) (i + 1)))), (7, .int (nI i)), (5, .int (sumI (kM z) (endA z (sn z)))), (4, .int (hiF (kM z) (endA z (sn z)))), (3, .int (nI 0)), (0, .ref (b 0)), (1, .ref (ad 0)), (2, .ref y)]) hx hb dX4_isSame_86 hl (by decide) rfl (fun ls hl => ?_)
                refine lv_iinc (v := nI (i + 1)) (lv' := [(7, .int (nI (i + 1))), (6, .int (nI (sumN (fun c => if takB z c (sn z) = true then 0 else 1) (i + 1)))), (5, .int (sumI (kM z) (endA z (sn z)))), (4, .int (hiF (kM z) (endA z (sn z)))), (3, .int (nI 0)), (0, .ref (b 0)), (1, .ref (ad 0)), (2, .ref y)]) hx hb dX4_isSame_88 hl (k := 1) rfl (nI_1 _) (by decide) rfl (fun ls hl => ?_)
                refine lv_goto (tgt := 60) hx hb dX4_isSame_91 (by decide) ?_
                exact ih_60 (i + 1)  (by omega) (by omega)  _ _ hP hD hS hE _ (lv_sub hl [0, 1, 2, 3, 4, 5, 6, 7] rfl)
              · have e9 : nI (sumN (fun c => if takB z c (sn z) = true then 0 else 1) i) + nI 0 = nI (sumN (fun c => if takB z c (sn z) = true then 0 else 1) (i + 1)) := by rw [nI_add]; exact congrArg nI (show _ = sumN _ i + (if takB z i (sn z) = true then 0 else 1) by rw [if_pos c_t])
                refine lv_iconst (v := nI 0) hx hb dX4_isSame_80 (by decide) ?_
                refine lv_goto (tgt := 85) hx hb dX4_isSame_81 (by decide) ?_
                refine q_iadd (v := nI (sumN (fun c => if takB z c (sn z) = true then 0 else 1) (i + 1))) hx hb dX4_isSame_85 e9 ?_
                refine lv_istore (lv' := [(6, .int (nI (sumN (fun c => if takB z c (sn z) = true then 0 else 1) (i + 1)))), (7, .int (nI i)), (5, .int (sumI (kM z) (endA z (sn z)))), (4, .int (hiF (kM z) (endA z (sn z)))), (3, .int (nI 0)), (0, .ref (b 0)), (1, .ref (ad 0)), (2, .ref y)]) hx hb dX4_isSame_86 hl (by decide) rfl (fun ls hl => ?_)
                refine lv_iinc (v := nI (i + 1)) (lv' := [(7, .int (nI (i + 1))), (6, .int (nI (sumN (fun c => if takB z c (sn z) = true then 0 else 1) (i + 1)))), (5, .int (sumI (kM z) (endA z (sn z)))), (4, .int (hiF (kM z) (endA z (sn z)))), (3, .int (nI 0)), (0, .ref (b 0)), (1, .ref (ad 0)), (2, .ref y)]) hx hb dX4_isSame_88 hl (k := 1) rfl (nI_1 _) (by decide) rfl (fun ls hl => ?_)
                refine lv_goto (tgt := 60) hx hb dX4_isSame_91 (by decide) ?_
                exact ih_60 (i + 1)  (by omega) (by omega)  _ _ hP hD hS hE _ (lv_sub hl [0, 1, 2, 3, 4, 5, 6, 7] rfl)
        
        exact lp_60 (sL z + 1) 0  (Nat.zero_le _) (by omega)  _ _ hP hD hS hE _ (lv_sub hl [0, 1, 2, 3, 4, 5, 6, 7] rfl)
      · refine lv_iload hx hb dX4_isSame_28 (lv_at hl 3 rfl) ?_
        refine lv_aload_n hx hb dX4_isSame_30 rfl (lv_at hl 7 rfl) ?_
        refine lv_iload hx hb dX4_isSame_31 (lv_at hl 0 rfl) ?_
        refine q_iald (v := (kM z) i) hx hb hE (hP 0 _ rfl) (by omega) (by omega) dX4_isSame_33 rfl ?_
        refine q_mabs (v := ab (kM z i)) hx hb (hml.trans hl.1.symm) hown (hts _ (List.mem_of_getElem? (i := 1) rfl)) (hts _ (List.mem_of_getElem? (i := 2) rfl)) (hts _ (List.mem_of_getElem? (i := 3) rfl)) (hts _ (List.mem_of_getElem? (i := 4) rfl)) (Nat.le_of_ble_eq_true rfl) (Nat.le_of_ble_eq_true rfl) (by show _ ≤ 12; omega) (by show _ ≤ 2200; omega) dX4_isSame_34 rfl ?_
        refine q_mmax (v := hiF (kM z) (i + 1)) hx hb (hml.trans hl.1.symm) hown (hts _ (List.mem_of_getElem? (i := 5) rfl)) (hts _ (List.mem_of_getElem? (i := 6) rfl)) (hts _ (List.mem_of_getElem? (i := 3) rfl)) (hts _ (List.mem_of_getElem? (i := 7) rfl)) (Nat.le_of_ble_eq_true rfl) (Nat.le_of_ble_eq_true rfl) (by show _ ≤ 12; omega) (by show _ ≤ 2200; omega) dX4_isSame_37 rfl ?_
        refine lv_istore (lv' := [(4, .int (hiF (kM z) (i + 1))), (7, .int (nI i)), (6, .int (nI 0)), (5, .int (sumI (kM z) i)), (3, .int (nI 0)), (0, .ref (b 0)), (1, .ref (ad 0)), (2, .ref y)]) hx hb dX4_isSame_40 hl (by decide) rfl (fun ls hl => ?_)
        refine lv_iload hx hb dX4_isSame_42 (lv_at hl 3 rfl) ?_
        refine lv_aload_n hx hb dX4_isSame_44 rfl (lv_at hl 7 rfl) ?_
        refine lv_iload hx hb dX4_isSame_45 (lv_at hl 1 rfl) ?_
        refine q_iald (v := (kM z) i) hx hb hE (hP 0 _ rfl) (by omega) (by omega) dX4_isSame_47 rfl ?_
        refine q_iadd (v := sumI (kM z) (i + 1)) hx hb dX4_isSame_48 rfl ?_
        refine lv_istore (lv' := [(5, .int (sumI (kM z) (i + 1))), (4, .int (hiF (kM z) (i + 1))), (7, .int (nI i)), (6, .int (nI 0)), (3, .int (nI 0)), (0, .ref (b 0)), (1, .ref (ad 0)), (2, .ref y)]) hx hb dX4_isSame_49 hl (by decide) rfl (fun ls hl => ?_)
        refine lv_iinc (v := nI (i + 1)) (lv' := [(7, .int (nI (i + 1))), (5, .int (sumI (kM z) (i + 1))), (4, .int (hiF (kM z) (i + 1))), (6, .int (nI 0)), (3, .int (nI 0)), (0, .ref (b 0)), (1, .ref (ad 0)), (2, .ref y)]) hx hb dX4_isSame_51 hl (k := 2) rfl (nI_1 _) (by decide) rfl (fun ls hl => ?_)
        refine lv_goto (tgt := 19) hx hb dX4_isSame_54 (by decide) ?_
        exact ih_19 (i + 1)  (by omega) (by omega)  _ _ hP hD hS hE _ (lv_sub hl [0, 3, 1, 2, 4, 5, 6, 7] rfl)
  
  exact lp_19 (endA z (sn z) + 1) 0  (Nat.zero_le _) (by omega)  _ _ hP hD hS hE _ (lv_sub hl [0, 1, 2, 3, 4, 6, 7, 5] rfl)
