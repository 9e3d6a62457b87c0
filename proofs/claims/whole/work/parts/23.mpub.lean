/-! ===== the reference: its public calls ===== -/
abbrev zcd (z : sT) (k v : Nat) : sT := (sL z, sn z, upN (scd z) k v, ssr z, sdl z, ssd z, swd z, sst z)
theorem updN {f : Nat → Nat} {k v : Nat} : upd (fun j => nI (f j)) k (nI v) = fun j => nI (upN f k v j) := by
  funext j
  show (if j = k then nI v else nI (f j)) = nI (if j = k then v else f j)
  split <;> rfl
theorem wMo_1 {g : gT} {am : Nat → Nat} {th : Int32} {sa : Nat → Int32} {z : sT} {k v : Nat} : (wMo g am th sa z).set 1 (am 1, .inl (gI g, 8, .inl (upd (fun j => nI (scd z j)) k (nI v)))) = wMo g am th sa (zcd z k v) := by rw [updN]; rfl
theorem wMo_2 {g : gT} {am : Nat → Nat} {th : Int32} {sa : Nat → Int32} {z : sT} {k v : Nat} : (wMo g am th sa z).set 2 (am 2, .inl (gI g, 8, .inl (upd (fun j => nI (ssr z j)) k (nI v)))) = wMo g am th sa (zsr z k v) := by rw [updN]; rfl
theorem wMo_3 {g : gT} {am : Nat → Nat} {th : Int32} {sa : Nat → Int32} {z : sT} {k v : Nat} : (wMo g am th sa z).set 3 (am 3, .inl (gI g, 8, .inl (upd (fun j => nI (sdl z j)) k (nI v)))) = wMo g am th sa (zdl z k v) := by rw [updN]; rfl
theorem wMo_4 {g : gT} {am : Nat → Nat} {th : Int32} {sa : Nat → Int32} {z : sT} {k v : Nat} : (wMo g am th sa z).set 4 (am 4, .inl (gI g, 8, .inl (upd (fun j => nI (ssd z j)) k (nI v)))) = wMo g am th sa (zsd z k v) := by rw [updN]; rfl
theorem wMo_sr {g : gT} {am : Nat → Nat} {th : Int32} {sa : Nat → Int32} {z : sT} {k v : Nat} : wMo g am th sa (zsr (zsr z k v) k (ssr z k)) = wMo g am th sa z := by
  have e : upN (upN (ssr z) k v) k (ssr z k) = ssr z := by
    funext j
    unfold upN
    by_cases c : j = k
    · rw [if_pos c, c]
    · rw [if_neg c, if_neg c]
  show wMo g am th sa (sL z, sn z, scd z, upN (upN (ssr z) k v) k (ssr z k), sdl z, ssd z, swd z, sst z) = _
  rw [e]
/-- the wrong words of all, if the hill k had the strength s_, by the reference -/
abbrev wwM (z : sT) (k s_ : Nat) : Nat := allW (zsr z k s_) (kM (zsr z k s_)) (sn z)
theorem advS_d {z : sT} {b : Nat} (hL : sL z ≤ 16) : ∀ n, n ≤ sL z → (advS z b n).1 = -1 ∨ ∃ j, j < n ∧ (advS z b n).1 = nI j
  | 0, _ => Or.inl rfl
  | n + 1, h => by
    have h1 := advS_d (b := b) hL n (by omega)
    unfold advS
    split
    · rcases h1 with h1 | ⟨j, hj, e⟩
      · exact Or.inl h1
      · exact Or.inr ⟨j, by omega, e⟩
    · split
      · exact Or.inr ⟨n, by omega, rfl⟩
      · rcases h1 with h1 | ⟨j, hj, e⟩
        · exact Or.inl h1
        · exact Or.inr ⟨j, by omega, e⟩
theorem advS_m1 {z : sT} {b n : Nat} (hL : sL z ≤ 16) (hn : n ≤ sL z) : (advS z b n).1 = (-1 : Int32) ↔ (advS z b n).1 < 0 := by
  rcases advS_d (b := b) hL n hn with e | ⟨j, hj, e⟩
  · rw [e]; exact ⟨fun _ => by decide, fun _ => rfl⟩
  · rw [e]
    have h1 : ¬ nI j < 0 := nI_pos (by omega)
    refine ⟨fun h => ?_, fun h => absurd h h1⟩
    exfalso; apply h1; rw [h]; decide
set_option maxHeartbeats 4000000 in
set_option maxRecDepth 100000 in
theorem c_X4_no {l : Launch} {g : gT} {sz : Nat} {am : Nat → Nat} {th : Int32} {sa : Nat → Int32} {z : sT} (hV : VS z) (hR : RS z sa) {x : Int32} : WR (S := Unit) l yX4_no wsX4_no ({ frames := 0, cells := 0, slots := 0, locals := 0 } : Room) [.ref (am 0), .int x] g (wMo g am (th) (sa) (z)) sz (fun _ : Unit => wMo g am (x) (sa) (z)) (fun _ => some (.int (nI 0))) 0 0 := by
  refine WR.of (cc := cX4_no) (maxL := 2) (ret := (some .int)) (by decide) rfl (Nat.le_of_ble_eq_true rfl) ?_
  intro p e s m below meth c hx hb hml hr hlocks hown hin0 hts hsz hE0 hP hD ls hl
  subst hsz
  have hown : s.vm.findClass RX4 = some m.cls := hown
  have hA : ∀ q, s.heap.size ≤ q → va_A (wMo g am (th) (sa) (z)) s.heap.size q := fun q h => Or.inr h
  have hE := hE0
  have hS : va_S (va_A (wMo g am (th) (sa) (z)) s.heap.size) s.heap s.heap [] := va_S.rf
  have hl : lv_has ls 2 [(0, .ref (am 0)), (1, .int x)] := hl
  have hL := hV.L
  have hn := hV.n
  refine lv_aload_n hx hb dX4_no_0 rfl (lv_at hl 0 rfl) ?_
  refine lv_iload_n hx hb dX4_no_1 rfl (lv_at hl 1 rfl) ?_
  refine va_put (D := g.1) (ci := 5) (v := .int x) (ty := .int) (C := RX4) (T := TX4) (N := 9) hx hb hts (q_sub wsX40 2 rfl) tyX4 tyX4_ok nmX4 hown hE.K hP hD hS 0 rfl rfl 0 (by decide) (hts _ (List.mem_of_getElem? (i := 1) rfl)) (fun _ h9 => h9) rfl (by decide +kernel) rfl rfl (Nat.le_of_ble_eq_true rfl) dX4_no_2 (fun H locs hP hD hS => ?_)
  have hP : va_P g.1 vwCl (wMo g am (x) (sa) (z)) H := hP
  have hD : va_D (va_A (wMo g am (th) (sa) (z)) s.heap.size) (wMo g am (x) (sa) (z)) := hD
  have hE := hE0.kept hS.2.1
  refine lv_iconst (v := nI 0) hx hb dX4_no_5 (by decide) ?_
  exact q_wiret (()) hx hb hr hlocks hP hD hS dX4_no_6 rfl
set_option maxHeartbeats 4000000 in
set_option maxRecDepth 100000 in
theorem c_X4_setCodes {l : Launch} {g : gT} {sz : Nat} {am : Nat → Nat} {th : Int32} {sa : Nat → Int32} {z : sT} (hV : VS z) (hR : RS z sa) {q_ : Nat} (hq_ : q_ ≤ 4) : WR (S := Unit) l yX4_setCodes wsX4_setCodes ({ frames := 1, cells := 0, slots := 0, locals := 22 } : Room) [.ref (am 0), .int (nI q_)] g (wMo g am (th) (sa) (z)) sz (fun _ : Unit => wMo g am (nI 0) (sa) (zcl z (2 ^ q_))) (fun _ => some (.int (nI (sL z)))) 0 0 := by
  refine WR.of (cc := cX4_setCodes) (maxL := 3) (ret := (some .int)) (by decide) rfl (Nat.le_of_ble_eq_true rfl) ?_
  intro p e s m below meth c hx hb hml hr hlocks hown hin0 hts hsz hE0 hP hD ls hl
  subst hsz
  have hown : s.vm.findClass RX4 = some m.cls := hown
  have hA : ∀ q, s.heap.size ≤ q → va_A (wMo g am (th) (sa) (z)) s.heap.size q := fun q h => Or.inr h
  have hE := hE0
  have hS : va_S (va_A (wMo g am (th) (sa) (z)) s.heap.size) s.heap s.heap [] := va_S.rf
  have hl : lv_has ls 3 [(0, .ref (am 0)), (1, .int (nI q_))] := hl
  have hL := hV.L
  have hn := hV.n
  refine lv_aload_n hx hb dX4_setCodes_0 rfl (lv_at hl 0 rfl) ?_
  refine lv_iconst (v := nI 0) hx hb dX4_setCodes_1 (by decide) ?_
  refine va_put (D := g.1) (ci := 5) (v := .int (nI 0)) (ty := .int) (C := RX4) (T := TX4) (N := 9) hx hb hts (q_sub wsX40 12 rfl) tyX4 tyX4_ok nmX4 hown hE.K hP hD hS 0 rfl rfl 0 (by decide) (hts _ (List.mem_of_getElem? (i := 1) rfl)) (fun _ h9 => h9) rfl (by decide +kernel) rfl rfl (Nat.le_of_ble_eq_true rfl) dX4_setCodes_2 (fun H locs hP hD hS => ?_)
  have hP : va_P g.1 vwCl (wMo g am (nI 0) (sa) (z)) H := hP
  have hD : va_D (va_A (wMo g am (th) (sa) (z)) s.heap.size) (wMo g am (nI 0) (sa) (z)) := hD
  have hE := hE0.kept hS.2.1
  refine lv_iload_n hx hb dX4_setCodes_5 rfl (lv_at hl 1 rfl) ?_
  refine lv_iconst (v := nI 0) hx hb dX4_setCodes_6 (by decide) ?_
  refine lv_iconst (v := nI 4) hx hb dX4_setCodes_7 (by decide) ?_
  refine q_roS (As := [.int (nI q_), .int (nI 0), .int (nI 4)]) (rest := []) ⟨hx, hb, hml, hown, hts⟩ (c_X4_isIn (x := nI q_) (lo := nI 0) (hi := nI 4)) (va_cwS 3 hts gX4_setCodes_X4_isIn rfl rfl rfl (by decide +kernel) ⟨Nat.le_of_ble_eq_true rfl, Nat.le_of_ble_eq_true rfl⟩) hE (fun q h => hA q (Nat.le_trans hS.1 h)) trivial rfl hl.1 rfl (Nat.le_of_ble_eq_true rfl) dX4_setCodes_8 ⟨Nat.le_of_ble_eq_true rfl, Nat.le_of_ble_eq_true rfl⟩ ?_
  refine q_ifb_ne (tgt := 20) hx hb dX4_setCodes_11 (by decide) (fun c_1 => ?_) (fun c_1 => ?_)
  · refine lv_aload_n hx hb dX4_setCodes_20 rfl (lv_at hl 0 rfl) ?_
    refine va_get (v := .int (nI (sL z))) (C := RX4) (T := TX4) (N := 9) hx hb hts (q_sub wsX40 12 rfl) hown hE.K hP 0 rfl rfl 1 (by decide) (hts _ (List.mem_of_getElem? (i := 2) rfl)) (fun _ h9 => h9) rfl dX4_setCodes_21 ?_
    refine lv_istore_n (lv' := [(2, .int (nI (sL z))), (0, .ref (am 0)), (1, .int (nI q_))]) hx hb dX4_setCodes_24 rfl hl (by decide) rfl (fun ls hl => ?_)
    refine lv_aload_n hx hb dX4_setCodes_25 rfl (lv_at hl 1 rfl) ?_
    refine lv_iconst (v := nI 1) hx hb dX4_setCodes_26 (by decide) ?_
    refine lv_iload_n hx hb dX4_setCodes_27 rfl (lv_at hl 2 rfl) ?_
    refine q_ishl (v := nI (2 ^ q_)) hx hb dX4_setCodes_28 (shl_ok q_ hq_) ?_
    refine va_put (D := g.1) (ci := 5) (v := .int (nI (2 ^ q_))) (ty := .int) (C := RX4) (T := TX4) (N := 9) hx hb hts (q_sub wsX40 12 rfl) tyX4 tyX4_ok nmX4 hown hE.K hP hD hS 0 rfl rfl 1 (by decide) (hts _ (List.mem_of_getElem? (i := 2) rfl)) (fun _ h9 => h9) rfl (by decide +kernel) rfl rfl (Nat.le_of_ble_eq_true rfl) dX4_setCodes_29 (fun H locs hP hD hS => ?_)
    have hP : va_P g.1 vwCl (wMo g am (nI 0) (sa) (zL z (2 ^ q_))) H := hP
    have hD : va_D (va_A (wMo g am (th) (sa) (z)) s.heap.size) (wMo g am (nI 0) (sa) (zL z (2 ^ q_))) := hD
    have hE := hE0.kept hS.2.1
    refine lv_aload_n hx hb dX4_setCodes_32 rfl (lv_at hl 1 rfl) ?_
    refine lv_iconst (v := nI 0) hx hb dX4_setCodes_33 (by decide) ?_
    refine va_put (D := g.1) (ci := 5) (v := .int (nI 0)) (ty := .int) (C := RX4) (T := TX4) (N := 9) hx hb hts (q_sub wsX40 12 rfl) tyX4 tyX4_ok nmX4 hown hE.K hP hD hS 0 rfl rfl 2 (by decide) (hts _ (List.mem_of_getElem? (i := 3) rfl)) (fun _ h9 => h9) rfl (by decide +kernel) rfl rfl (Nat.le_of_ble_eq_true rfl) dX4_setCodes_34 (fun H locs hP hD hS => ?_)
    have hP : va_P g.1 vwCl (wMo g am (nI 0) (sa) (zcl z (2 ^ q_))) H := hP
    have hD : va_D (va_A (wMo g am (th) (sa) (z)) s.heap.size) (wMo g am (nI 0) (sa) (zcl z (2 ^ q_))) := hD
    have hE := hE0.kept hS.2.1
    refine lv_iload_n hx hb dX4_setCodes_37 rfl (lv_at hl 0 rfl) ?_
    exact q_wiret (()) hx hb hr hlocks hP hD hS dX4_setCodes_38 rfl
  · exact absurd (by rw [nI_toInt (by omega), nI_toInt (by omega), nI_toInt (by omega)]; omega) c_1
set_option maxHeartbeats 4000000 in
set_option maxRecDepth 100000 in
theorem cn_X4_setCodes_1 {l : Launch} {g : gT} {sz : Nat} {am : Nat → Nat} {th : Int32} {sa : Nat → Int32} {z : sT} (hV : VS z) (hR : RS z sa) {x : Int32} (hx_ : ¬ inB x 0 4) : WR (S := Unit) l yX4_setCodes wsX4_setCodes ({ frames := 1, cells := 0, slots := 0, locals := 22 } : Room) [.ref (am 0), .int x] g (wMo g am (th) (sa) (z)) sz (fun _ : Unit => wMo g am (nI 1) (sa) (z)) (fun _ => some (.int (nI 0))) 0 0 := by
  refine WR.of (cc := cX4_setCodes) (maxL := 3) (ret := (some .int)) (by decide) rfl (Nat.le_of_ble_eq_true rfl) ?_
  intro p e s m below meth c hx hb hml hr hlocks hown hin0 hts hsz hE0 hP hD ls hl
  subst hsz
  have hown : s.vm.findClass RX4 = some m.cls := hown
  have hA : ∀ q, s.heap.size ≤ q → va_A (wMo g am (th) (sa) (z)) s.heap.size q := fun q h => Or.inr h
  have hE := hE0
  have hS : va_S (va_A (wMo g am (th) (sa) (z)) s.heap.size) s.heap s.heap [] := va_S.rf
  have hl : lv_has ls 3 [(0, .ref (am 0)), (1, .int x)] := hl
  have hL := hV.L
  have hn := hV.n
  have hx_ : ¬ (0 ≤ x.toInt ∧ x.toInt ≤ 4) := hx_
  have e0_ : (nI 0).toInt = 0 := rfl
  have e4_ : (nI 4).toInt = 4 := rfl
  refine lv_aload_n hx hb dX4_setCodes_0 rfl (lv_at hl 0 rfl) ?_
  refine lv_iconst (v := nI 0) hx hb dX4_setCodes_1 (by decide) ?_
  refine va_put (D := g.1) (ci := 5) (v := .int (nI 0)) (ty := .int) (C := RX4) (T := TX4) (N := 9) hx hb hts (q_sub wsX40 12 rfl) tyX4 tyX4_ok nmX4 hown hE.K hP hD hS 0 rfl rfl 0 (by decide) (hts _ (List.mem_of_getElem? (i := 1) rfl)) (fun _ h9 => h9) rfl (by decide +kernel) rfl rfl (Nat.le_of_ble_eq_true rfl) dX4_setCodes_2 (fun H locs hP hD hS => ?_)
  have hP : va_P g.1 vwCl (wMo g am (nI 0) (sa) (z)) H := hP
  have hD : va_D (va_A (wMo g am (th) (sa) (z)) s.heap.size) (wMo g am (nI 0) (sa) (z)) := hD
  have hE := hE0.kept hS.2.1
  refine lv_iload_n hx hb dX4_setCodes_5 rfl (lv_at hl 1 rfl) ?_
  refine lv_iconst (v := nI 0) hx hb dX4_setCodes_6 (by decide) ?_
  refine lv_iconst (v := nI 4) hx hb dX4_setCodes_7 (by decide) ?_
  refine q_roS (As := [.int x, .int (nI 0), .int (nI 4)]) (rest := []) ⟨hx, hb, hml, hown, hts⟩ (c_X4_isIn (x := x) (lo := nI 0) (hi := nI 4)) (va_cwS 3 hts gX4_setCodes_X4_isIn rfl rfl rfl (by decide +kernel) ⟨Nat.le_of_ble_eq_true rfl, Nat.le_of_ble_eq_true rfl⟩) hE (fun q h => hA q (Nat.le_trans hS.1 h)) trivial rfl hl.1 rfl (Nat.le_of_ble_eq_true rfl) dX4_setCodes_8 ⟨Nat.le_of_ble_eq_true rfl, Nat.le_of_ble_eq_true rfl⟩ ?_
  refine q_ifb_ne (tgt := 20) hx hb dX4_setCodes_11 (by decide) (fun c_1 => ?_) (fun c_1 => ?_)
  · exact absurd c_1 (by rw [e0_, e4_]; exact hx_)
  · refine lv_aload_n hx hb dX4_setCodes_14 rfl (lv_at hl 0 rfl) ?_
    refine lv_iconst (v := nI 1) hx hb dX4_setCodes_15 (by decide) ?_
    refine q_wrV (wr := []) (As := [.int (nI 1)]) (rest := []) ⟨hx, hb, hml, hown, hts⟩ (c_X4_no (th := nI 0) (x := nI 1) hV hR) (cwV 1 hts gX4_setCodes_X4_no rfl rfl rfl (by decide +kernel) ⟨Nat.le_of_ble_eq_true rfl, Nat.le_of_ble_eq_true rfl⟩) hE hP hD hS hA (va_recv hE.K hP (ci := 5) (q0 := 0) rfl rfl) rfl hl.1 rfl (Nat.le_of_ble_eq_true rfl) dX4_setCodes_16 ⟨Nat.le_of_ble_eq_true rfl, Nat.le_of_ble_eq_true rfl⟩ (fun _u H locs hP hD hS hE => ?_)
    have hP : va_P g.1 vwCl (wMo g am (nI 1) (sa) (z)) H := hP
    have hD : va_D (va_A (wMo g am (th) (sa) (z)) s.heap.size) (wMo g am (nI 1) (sa) (z)) := hD
    exact q_wiret (()) hx hb hr hlocks hP hD hS dX4_setCodes_19 rfl
set_option maxHeartbeats 4000000 in
set_option maxRecDepth 100000 in
theorem c_X4_hill {l : Launch} {g : gT} {sz : Nat} {am : Nat → Nat} {th : Int32} {sa : Nat → Int32} {z : sT} (hV : VS z) (hR : RS z sa) {a s_ : Nat} (ha_ : a < sL z) (h1_ : 1 ≤ s_) (h9_ : s_ ≤ 9) (hn_ : sn z < 8) : WR (S := Unit) l yX4_hill wsX4_hill ({ frames := 2, cells := 0, slots := 0, locals := 43 } : Room) [.ref (am 0), .int (nI a), .int (nI s_)] g (wMo g am (th) (sa) (z)) sz (fun _ : Unit => wMo g am (nI 0) (sa) (zhl z a s_)) (fun _ => some (.int (nI (sn z)))) 0 0 := by
  refine WR.of (cc := cX4_hill) (maxL := 3) (ret := (some .int)) (by decide) rfl (Nat.le_of_ble_eq_true rfl) ?_
  intro p e s m below meth c hx hb hml hr hlocks hown hin0 hts hsz hE0 hP hD ls hl
  subst hsz
  have hown : s.vm.findClass RX4 = some m.cls := hown
  have hA : ∀ q, s.heap.size ≤ q → va_A (wMo g am (th) (sa) (z)) s.heap.size q := fun q h => Or.inr h
  have hE := hE0
  have hS : va_S (va_A (wMo g am (th) (sa) (z)) s.heap.size) s.heap s.heap [] := va_S.rf
  have hl : lv_has ls 3 [(0, .ref (am 0)), (1, .int (nI a)), (2, .int (nI s_))] := hl
  have hL := hV.L
  have hn := hV.n
  refine lv_aload_n hx hb dX4_hill_0 rfl (lv_at hl 0 rfl) ?_
  refine lv_iconst (v := nI 0) hx hb dX4_hill_1 (by decide) ?_
  refine va_put (D := g.1) (ci := 5) (v := .int (nI 0)) (ty := .int) (C := RX4) (T := TX4) (N := 9) hx hb hts (q_sub wsX40 23 rfl) tyX4 tyX4_ok nmX4 hown hE.K hP hD hS 0 rfl rfl 0 (by decide) (hts _ (List.mem_of_getElem? (i := 1) rfl)) (fun _ h9 => h9) rfl (by decide +kernel) rfl rfl (Nat.le_of_ble_eq_true rfl) dX4_hill_2 (fun H locs hP hD hS => ?_)
  have hP : va_P g.1 vwCl (wMo g am (nI 0) (sa) (z)) H := hP
  have hD : va_D (va_A (wMo g am (th) (sa) (z)) s.heap.size) (wMo g am (nI 0) (sa) (z)) := hD
  have hE := hE0.kept hS.2.1
  refine lv_aload_n hx hb dX4_hill_5 rfl (lv_at hl 0 rfl) ?_
  refine lv_iload_n hx hb dX4_hill_6 rfl (lv_at hl 1 rfl) ?_
  refine q_roV (As := [.int (nI a)]) (rest := []) ⟨hx, hb, hml, hown, hts⟩ (c_X4_isCode hV hR (x := nI a)) (cwV 1 hts gX4_hill_X4_isCode rfl rfl rfl (by decide +kernel) ⟨Nat.le_of_ble_eq_true rfl, Nat.le_of_ble_eq_true rfl⟩) hE (fun q h => hA q (Nat.le_trans hS.1 h)) hP (va_recv hE.K hP (ci := 5) (q0 := 0) rfl rfl) rfl hl.1 rfl (Nat.le_of_ble_eq_true rfl) dX4_hill_7 ⟨Nat.le_of_ble_eq_true rfl, Nat.le_of_ble_eq_true rfl⟩ ?_
  refine q_ifb_ne (tgt := 19) hx hb dX4_hill_10 (by decide) (fun c_1 => ?_) (fun c_1 => ?_)
  · refine lv_iload_n hx hb dX4_hill_19 rfl (lv_at hl 2 rfl) ?_
    refine q_roS (As := [.int (nI s_)]) (rest := []) ⟨hx, hb, hml, hown, hts⟩ (c_X4_isStrength (x := nI s_)) (va_cwS 1 hts gX4_hill_X4_isStrength rfl rfl rfl (by decide +kernel) ⟨Nat.le_of_ble_eq_true rfl, Nat.le_of_ble_eq_true rfl⟩) hE (fun q h => hA q (Nat.le_trans hS.1 h)) trivial rfl hl.1 rfl (Nat.le_of_ble_eq_true rfl) dX4_hill_20 ⟨Nat.le_of_ble_eq_true rfl, Nat.le_of_ble_eq_true rfl⟩ ?_
    refine q_ifb_ne (tgt := 32) hx hb dX4_hill_23 (by decide) (fun c_2 => ?_) (fun c_2 => ?_)
    · refine lv_aload_n hx hb dX4_hill_32 rfl (lv_at hl 0 rfl) ?_
      refine va_get (v := .int (nI (sn z))) (C := RX4) (T := TX4) (N := 9) hx hb hts (q_sub wsX40 23 rfl) hown hE.K hP 0 rfl rfl 2 (by decide) (hts _ (List.mem_of_getElem? (i := 2) rfl)) (fun _ h9 => h9) rfl dX4_hill_33 ?_
      refine lv_bipush (v := nI 8) hx hb dX4_hill_36 (by decide) ?_
      refine q_icmp_ne (tgt := 47) hx hb (by omega) (by omega) dX4_hill_38 (by decide) (fun c_3 => ?_) (fun c_3 => ?_)
      · refine lv_aload_n hx hb dX4_hill_47 rfl (lv_at hl 0 rfl) ?_
        refine va_get (v := .ref (am 1)) (C := RX4) (T := TX4) (N := 9) hx hb hts (q_sub wsX40 23 rfl) hown hE.K hP 0 rfl rfl 3 (by decide) (hts _ (List.mem_of_getElem? (i := 3) rfl)) (fun _ h9 => h9) rfl dX4_hill_48 ?_
        refine lv_aload_n hx hb dX4_hill_51 rfl (lv_at hl 0 rfl) ?_
        refine va_get (v := .int (nI (sn z))) (C := RX4) (T := TX4) (N := 9) hx hb hts (q_sub wsX40 23 rfl) hown hE.K hP 0 rfl rfl 2 (by decide) (hts _ (List.mem_of_getElem? (i := 2) rfl)) (fun _ h9 => h9) rfl dX4_hill_52 ?_
        refine lv_iload_n hx hb dX4_hill_55 rfl (lv_at hl 1 rfl) ?_
        refine q_iast hx hb hE hP hD hS (q0 := 1) rfl (by omega) (by omega) dX4_hill_56 (fun H locs hP hD hS => ?_)
        have hP : va_P g.1 vwCl (wMo g am (nI 0) (sa) (zcd z (sn z) a)) H := q_eqP wMo_1 hP
        have hD : va_D (va_A (wMo g am (th) (sa) (z)) s.heap.size) (wMo g am (nI 0) (sa) (zcd z (sn z) a)) := q_eqD wMo_1 hD
        have hE := hE0.kept hS.2.1
        refine lv_aload_n hx hb dX4_hill_57 rfl (lv_at hl 0 rfl) ?_
        refine va_get (v := .ref (am 2)) (C := RX4) (T := TX4) (N := 9) hx hb hts (q_sub wsX40 23 rfl) hown hE.K hP 0 rfl rfl 4 (by decide) (hts _ (List.mem_of_getElem? (i := 4) rfl)) (fun _ h9 => h9) rfl dX4_hill_58 ?_
        refine lv_aload_n hx hb dX4_hill_61 rfl (lv_at hl 0 rfl) ?_
        refine va_get (v := .int (nI (sn z))) (C := RX4) (T := TX4) (N := 9) hx hb hts (q_sub wsX40 23 rfl) hown hE.K hP 0 rfl rfl 2 (by decide) (hts _ (List.mem_of_getElem? (i := 2) rfl)) (fun _ h9 => h9) rfl dX4_hill_62 ?_
        refine lv_iload_n hx hb dX4_hill_65 rfl (lv_at hl 2 rfl) ?_
        refine q_iast hx hb hE hP hD hS (q0 := 2) rfl (by omega) (by omega) dX4_hill_66 (fun H locs hP hD hS => ?_)
        have hP : va_P g.1 vwCl (wMo g am (nI 0) (sa) (zsr (zcd z (sn z) a) (sn z) s_)) H := q_eqP wMo_2 hP
        have hD : va_D (va_A (wMo g am (th) (sa) (z)) s.heap.size) (wMo g am (nI 0) (sa) (zsr (zcd z (sn z) a) (sn z) s_)) := q_eqD wMo_2 hD
        have hE := hE0.kept hS.2.1
        refine lv_aload_n hx hb dX4_hill_67 rfl (lv_at hl 0 rfl) ?_
        refine va_get (v := .ref (am 3)) (C := RX4) (T := TX4) (N := 9) hx hb hts (q_sub wsX40 23 rfl) hown hE.K hP 0 rfl rfl 5 (by decide) (hts _ (List.mem_of_getElem? (i := 5) rfl)) (fun _ h9 => h9) rfl dX4_hill_68 ?_
        refine lv_aload_n hx hb dX4_hill_71 rfl (lv_at hl 0 rfl) ?_
        refine va_get (v := .int (nI (sn z))) (C := RX4) (T := TX4) (N := 9) hx hb hts (q_sub wsX40 23 rfl) hown hE.K hP 0 rfl rfl 2 (by decide) (hts _ (List.mem_of_getElem? (i := 2) rfl)) (fun _ h9 => h9) rfl dX4_hill_72 ?_
        refine lv_iconst (v := nI 0) hx hb dX4_hill_75 (by decide) ?_
        refine q_iast hx hb hE hP hD hS (q0 := 3) rfl (by omega) (by omega) dX4_hill_76 (fun H locs hP hD hS => ?_)
        have hP : va_P g.1 vwCl (wMo g am (nI 0) (sa) (zdl (zsr (zcd z (sn z) a) (sn z) s_) (sn z) 0)) H := q_eqP wMo_3 hP
        have hD : va_D (va_A (wMo g am (th) (sa) (z)) s.heap.size) (wMo g am (nI 0) (sa) (zdl (zsr (zcd z (sn z) a) (sn z) s_) (sn z) 0)) := q_eqD wMo_3 hD
        have hE := hE0.kept hS.2.1
        refine lv_aload_n hx hb dX4_hill_77 rfl (lv_at hl 0 rfl) ?_
        refine va_get (v := .ref (am 4)) (C := RX4) (T := TX4) (N := 9) hx hb hts (q_sub wsX40 23 rfl) hown hE.K hP 0 rfl rfl 6 (by decide) (hts _ (List.mem_of_getElem? (i := 6) rfl)) (fun _ h9 => h9) rfl dX4_hill_78 ?_
        refine lv_aload_n hx hb dX4_hill_81 rfl (lv_at hl 0 rfl) ?_
        refine va_get (v := .int (nI (sn z))) (C := RX4) (T := TX4) (N := 9) hx hb hts (q_sub wsX40 23 rfl) hown hE.K hP 0 rfl rfl 2 (by decide) (hts _ (List.mem_of_getElem? (i := 2) rfl)) (fun _ h9 => h9) rfl dX4_hill_82 ?_
        refine lv_iconst (v := nI 0) hx hb dX4_hill_85 (by decide) ?_
        refine q_iast hx hb hE hP hD hS (q0 := 4) rfl (by omega) (by omega) dX4_hill_86 (fun H locs hP hD hS => ?_)
        have hP : va_P g.1 vwCl (wMo g am (nI 0) (sa) (zsd (zdl (zsr (zcd z (sn z) a) (sn z) s_) (sn z) 0) (sn z) 0)) H := q_eqP wMo_4 hP
        have hD : va_D (va_A (wMo g am (th) (sa) (z)) s.heap.size) (wMo g am (nI 0) (sa) (zsd (zdl (zsr (zcd z (sn z) a) (sn z) s_) (sn z) 0) (sn z) 0)) := q_eqD wMo_4 hD
        have hE := hE0.kept hS.2.1
        refine lv_aload_n hx hb dX4_hill_87 rfl (lv_at hl 0 rfl) ?_
        refine lv_dup hx hb dX4_hill_88 rfl ?_
        refine va_get (v := .int (nI (sn z))) (C := RX4) (T := TX4) (N := 9) hx hb hts (q_sub wsX40 23 rfl) hown hE.K hP 0 rfl rfl 2 (by decide) (hts _ (List.mem_of_getElem? (i := 2) rfl)) (fun _ h9 => h9) rfl dX4_hill_89 ?_
        refine lv_iconst (v := nI 1) hx hb dX4_hill_92 (by decide) ?_
        refine q_iadd (v := nI (sn z + 1)) hx hb dX4_hill_93 (nI_add _ _) ?_
        refine va_put (D := g.1) (ci := 5) (v := .int (nI (sn z + 1))) (ty := .int) (C := RX4) (T := TX4) (N := 9) hx hb hts (q_sub wsX40 23 rfl) tyX4 tyX4_ok nmX4 hown hE.K hP hD hS 0 rfl rfl 2 (by decide) (hts _ (List.mem_of_getElem? (i := 2) rfl)) (fun _ h9 => h9) rfl (by decide +kernel) rfl rfl (Nat.le_of_ble_eq_true rfl) dX4_hill_94 (fun H locs hP hD hS => ?_)
        have hP : va_P g.1 vwCl (wMo g am (nI 0) (sa) (zhl z a s_)) H := hP
        have hD : va_D (va_A (wMo g am (th) (sa) (z)) s.heap.size) (wMo g am (nI 0) (sa) (zhl z a s_)) := hD
        have hE := hE0.kept hS.2.1
        refine lv_aload_n hx hb dX4_hill_97 rfl (lv_at hl 0 rfl) ?_
        refine va_get (v := .int (nI (sn z + 1))) (C := RX4) (T := TX4) (N := 9) hx hb hts (q_sub wsX40 23 rfl) hown hE.K hP 0 rfl rfl 2 (by decide) (hts _ (List.mem_of_getElem? (i := 2) rfl)) (fun _ h9 => h9) rfl dX4_hill_98 ?_
        refine lv_iconst (v := nI 1) hx hb dX4_hill_101 (by decide) ?_
        refine q_isub (v := nI (sn z)) hx hb dX4_hill_102 (show nI (sn z + 1) - nI 1 = nI (sn z + 1 - 1) from pk_sub (by omega)) ?_
        exact q_wiret (()) hx hb hr hlocks hP hD hS dX4_hill_103 rfl
      · exact absurd c_3 (by omega)
    · exact absurd (inB_nI (by omega) (by omega) (by omega)) c_2
  · exact absurd (inR_nI ha_ (by omega)) c_1
set_option maxHeartbeats 4000000 in
set_option maxRecDepth 100000 in
theorem cn_X4_hill_1 {l : Launch} {g : gT} {sz : Nat} {am : Nat → Nat} {th : Int32} {sa : Nat → Int32} {z : sT} (hV : VS z) (hR : RS z sa) {x y : Int32} (hx_ : ¬ inR x (sL z)) : WR (S := Unit) l yX4_hill wsX4_hill ({ frames := 2, cells := 0, slots := 0, locals := 43 } : Room) [.ref (am 0), .int x, .int y] g (wMo g am (th) (sa) (z)) sz (fun _ : Unit => wMo g am (nI 1) (sa) (z)) (fun _ => some (.int (nI 0))) 0 0 := by
  refine WR.of (cc := cX4_hill) (maxL := 3) (ret := (some .int)) (by decide) rfl (Nat.le_of_ble_eq_true rfl) ?_
  intro p e s m below meth c hx hb hml hr hlocks hown hin0 hts hsz hE0 hP hD ls hl
  subst hsz
  have hown : s.vm.findClass RX4 = some m.cls := hown
  have hA : ∀ q, s.heap.size ≤ q → va_A (wMo g am (th) (sa) (z)) s.heap.size q := fun q h => Or.inr h
  have hE := hE0
  have hS : va_S (va_A (wMo g am (th) (sa) (z)) s.heap.size) s.heap s.heap [] := va_S.rf
  have hl : lv_has ls 3 [(0, .ref (am 0)), (1, .int x), (2, .int y)] := hl
  have hL := hV.L
  have hn := hV.n
  refine lv_aload_n hx hb dX4_hill_0 rfl (lv_at hl 0 rfl) ?_
  refine lv_iconst (v := nI 0) hx hb dX4_hill_1 (by decide) ?_
  refine va_put (D := g.1) (ci := 5) (v := .int (nI 0)) (ty := .int) (C := RX4) (T := TX4) (N := 9) hx hb hts (q_sub wsX40 23 rfl) tyX4 tyX4_ok nmX4 hown hE.K hP hD hS 0 rfl rfl 0 (by decide) (hts _ (List.mem_of_getElem? (i := 1) rfl)) (fun _ h9 => h9) rfl (by decide +kernel) rfl rfl (Nat.le_of_ble_eq_true rfl) dX4_hill_2 (fun H locs hP hD hS => ?_)
  have hP : va_P g.1 vwCl (wMo g am (nI 0) (sa) (z)) H := hP
  have hD : va_D (va_A (wMo g am (th) (sa) (z)) s.heap.size) (wMo g am (nI 0) (sa) (z)) := hD
  have hE := hE0.kept hS.2.1
  refine lv_aload_n hx hb dX4_hill_5 rfl (lv_at hl 0 rfl) ?_
  refine lv_iload_n hx hb dX4_hill_6 rfl (lv_at hl 1 rfl) ?_
  refine q_roV (As := [.int x]) (rest := []) ⟨hx, hb, hml, hown, hts⟩ (c_X4_isCode hV hR (x := x)) (cwV 1 hts gX4_hill_X4_isCode rfl rfl rfl (by decide +kernel) ⟨Nat.le_of_ble_eq_true rfl, Nat.le_of_ble_eq_true rfl⟩) hE (fun q h => hA q (Nat.le_trans hS.1 h)) hP (va_recv hE.K hP (ci := 5) (q0 := 0) rfl rfl) rfl hl.1 rfl (Nat.le_of_ble_eq_true rfl) dX4_hill_7 ⟨Nat.le_of_ble_eq_true rfl, Nat.le_of_ble_eq_true rfl⟩ ?_
  refine q_ifb_ne (tgt := 19) hx hb dX4_hill_10 (by decide) (fun c_1 => ?_) (fun c_1 => ?_)
  · exact absurd c_1 (hx_)
  · refine lv_aload_n hx hb dX4_hill_13 rfl (lv_at hl 0 rfl) ?_
    refine lv_iconst (v := nI 1) hx hb dX4_hill_14 (by decide) ?_
    refine q_wrV (wr := []) (As := [.int (nI 1)]) (rest := []) ⟨hx, hb, hml, hown, hts⟩ (c_X4_no (th := nI 0) (x := nI 1) hV hR) (cwV 1 hts gX4_hill_X4_no rfl rfl rfl (by decide +kernel) ⟨Nat.le_of_ble_eq_true rfl, Nat.le_of_ble_eq_true rfl⟩) hE hP hD hS hA (va_recv hE.K hP (ci := 5) (q0 := 0) rfl rfl) rfl hl.1 rfl (Nat.le_of_ble_eq_true rfl) dX4_hill_15 ⟨Nat.le_of_ble_eq_true rfl, Nat.le_of_ble_eq_true rfl⟩ (fun _u H locs hP hD hS hE => ?_)
    have hP : va_P g.1 vwCl (wMo g am (nI 1) (sa) (z)) H := hP
    have hD : va_D (va_A (wMo g am (th) (sa) (z)) s.heap.size) (wMo g am (nI 1) (sa) (z)) := hD
    exact q_wiret (()) hx hb hr hlocks hP hD hS dX4_hill_18 rfl
set_option maxHeartbeats 4000000 in
set_option maxRecDepth 100000 in
theorem cn_X4_hill_2 {l : Launch} {g : gT} {sz : Nat} {am : Nat → Nat} {th : Int32} {sa : Nat → Int32} {z : sT} (hV : VS z) (hR : RS z sa) {a : Nat} {x : Int32} (ha_ : a < sL z) (hx_ : ¬ inB x 1 9) : WR (S := Unit) l yX4_hill wsX4_hill ({ frames := 2, cells := 0, slots := 0, locals := 43 } : Room) [.ref (am 0), .int (nI a), .int x] g (wMo g am (th) (sa) (z)) sz (fun _ : Unit => wMo g am (nI 2) (sa) (z)) (fun _ => some (.int (nI 0))) 0 0 := by
  refine WR.of (cc := cX4_hill) (maxL := 3) (ret := (some .int)) (by decide) rfl (Nat.le_of_ble_eq_true rfl) ?_
  intro p e s m below meth c hx hb hml hr hlocks hown hin0 hts hsz hE0 hP hD ls hl
  subst hsz
  have hown : s.vm.findClass RX4 = some m.cls := hown
  have hA : ∀ q, s.heap.size ≤ q → va_A (wMo g am (th) (sa) (z)) s.heap.size q := fun q h => Or.inr h
  have hE := hE0
  have hS : va_S (va_A (wMo g am (th) (sa) (z)) s.heap.size) s.heap s.heap [] := va_S.rf
  have hl : lv_has ls 3 [(0, .ref (am 0)), (1, .int (nI a)), (2, .int x)] := hl
  have hL := hV.L
  have hn := hV.n
  refine lv_aload_n hx hb dX4_hill_0 rfl (lv_at hl 0 rfl) ?_
  refine lv_iconst (v := nI 0) hx hb dX4_hill_1 (by decide) ?_
  refine va_put (D := g.1) (ci := 5) (v := .int (nI 0)) (ty := .int) (C := RX4) (T := TX4) (N := 9) hx hb hts (q_sub wsX40 23 rfl) tyX4 tyX4_ok nmX4 hown hE.K hP hD hS 0 rfl rfl 0 (by decide) (hts _ (List.mem_of_getElem? (i := 1) rfl)) (fun _ h9 => h9) rfl (by decide +kernel) rfl rfl (Nat.le_of_ble_eq_true rfl) dX4_hill_2 (fun H locs hP hD hS => ?_)
  have hP : va_P g.1 vwCl (wMo g am (nI 0) (sa) (z)) H := hP
  have hD : va_D (va_A (wMo g am (th) (sa) (z)) s.heap.size) (wMo g am (nI 0) (sa) (z)) := hD
  have hE := hE0.kept hS.2.1
  refine lv_aload_n hx hb dX4_hill_5 rfl (lv_at hl 0 rfl) ?_
  refine lv_iload_n hx hb dX4_hill_6 rfl (lv_at hl 1 rfl) ?_
  refine q_roV (As := [.int (nI a)]) (rest := []) ⟨hx, hb, hml, hown, hts⟩ (c_X4_isCode hV hR (x := nI a)) (cwV 1 hts gX4_hill_X4_isCode rfl rfl rfl (by decide +kernel) ⟨Nat.le_of_ble_eq_true rfl, Nat.le_of_ble_eq_true rfl⟩) hE (fun q h => hA q (Nat.le_trans hS.1 h)) hP (va_recv hE.K hP (ci := 5) (q0 := 0) rfl rfl) rfl hl.1 rfl (Nat.le_of_ble_eq_true rfl) dX4_hill_7 ⟨Nat.le_of_ble_eq_true rfl, Nat.le_of_ble_eq_true rfl⟩ ?_
  refine q_ifb_ne (tgt := 19) hx hb dX4_hill_10 (by decide) (fun c_1 => ?_) (fun c_1 => ?_)
  · refine lv_iload_n hx hb dX4_hill_19 rfl (lv_at hl 2 rfl) ?_
    refine q_roS (As := [.int x]) (rest := []) ⟨hx, hb, hml, hown, hts⟩ (c_X4_isStrength (x := x)) (va_cwS 1 hts gX4_hill_X4_isStrength rfl rfl rfl (by decide +kernel) ⟨Nat.le_of_ble_eq_true rfl, Nat.le_of_ble_eq_true rfl⟩) hE (fun q h => hA q (Nat.le_trans hS.1 h)) trivial rfl hl.1 rfl (Nat.le_of_ble_eq_true rfl) dX4_hill_20 ⟨Nat.le_of_ble_eq_true rfl, Nat.le_of_ble_eq_true rfl⟩ ?_
    refine q_ifb_ne (tgt := 32) hx hb dX4_hill_23 (by decide) (fun c_2 => ?_) (fun c_2 => ?_)
    · exact absurd c_2 (hx_)
    · refine lv_aload_n hx hb dX4_hill_26 rfl (lv_at hl 0 rfl) ?_
      refine lv_iconst (v := nI 2) hx hb dX4_hill_27 (by decide) ?_
      refine q_wrV (wr := []) (As := [.int (nI 2)]) (rest := []) ⟨hx, hb, hml, hown, hts⟩ (c_X4_no (th := nI 0) (x := nI 2) hV hR) (cwV 1 hts gX4_hill_X4_no rfl rfl rfl (by decide +kernel) ⟨Nat.le_of_ble_eq_true rfl, Nat.le_of_ble_eq_true rfl⟩) hE hP hD hS hA (va_recv hE.K hP (ci := 5) (q0 := 0) rfl rfl) rfl hl.1 rfl (Nat.le_of_ble_eq_true rfl) dX4_hill_28 ⟨Nat.le_of_ble_eq_true rfl, Nat.le_of_ble_eq_true rfl⟩ (fun _u H locs hP hD hS hE => ?_)
      have hP : va_P g.1 vwCl (wMo g am (nI 2) (sa) (z)) H := hP
      have hD : va_D (va_A (wMo g am (th) (sa) (z)) s.heap.size) (wMo g am (nI 2) (sa) (z)) := hD
      exact q_wiret (()) hx hb hr hlocks hP hD hS dX4_hill_31 rfl
  · exact absurd (inR_nI ha_ (by omega)) c_1
set_option maxHeartbeats 4000000 in
set_option maxRecDepth 100000 in
theorem cn_X4_hill_3 {l : Launch} {g : gT} {sz : Nat} {am : Nat → Nat} {th : Int32} {sa : Nat → Int32} {z : sT} (hV : VS z) (hR : RS z sa) {a s_ : Nat} (ha_ : a < sL z) (h1_ : 1 ≤ s_) (h9_ : s_ ≤ 9) (hn_ : sn z = 8) : WR (S := Unit) l yX4_hill wsX4_hill ({ frames := 2, cells := 0, slots := 0, locals := 43 } : Room) [.ref (am 0), .int (nI a), .int (nI s_)] g (wMo g am (th) (sa) (z)) sz (fun _ : Unit => wMo g am (nI 3) (sa) (z)) (fun _ => some (.int (nI 0))) 0 0 := by
  refine WR.of (cc := cX4_hill) (maxL := 3) (ret := (some .int)) (by decide) rfl (Nat.le_of_ble_eq_true rfl) ?_
  intro p e s m below meth c hx hb hml hr hlocks hown hin0 hts hsz hE0 hP hD ls hl
  subst hsz
  have hown : s.vm.findClass RX4 = some m.cls := hown
  have hA : ∀ q, s.heap.size ≤ q → va_A (wMo g am (th) (sa) (z)) s.heap.size q := fun q h => Or.inr h
  have hE := hE0
  have hS : va_S (va_A (wMo g am (th) (sa) (z)) s.heap.size) s.heap s.heap [] := va_S.rf
  have hl : lv_has ls 3 [(0, .ref (am 0)), (1, .int (nI a)), (2, .int (nI s_))] := hl
  have hL := hV.L
  have hn := hV.n
  refine lv_aload_n hx hb dX4_hill_0 rfl (lv_at hl 0 rfl) ?_
  refine lv_iconst (v := nI 0) hx hb dX4_hill_1 (by decide) ?_
  refine va_put (D := g.1) (ci := 5) (v := .int (nI 0)) (ty := .int) (C := RX4) (T := TX4) (N := 9) hx hb hts (q_sub wsX40 23 rfl) tyX4 tyX4_ok nmX4 hown hE.K hP hD hS 0 rfl rfl 0 (by decide) (hts _ (List.mem_of_getElem? (i := 1) rfl)) (fun _ h9 => h9) rfl (by decide +kernel) rfl rfl (Nat.le_of_ble_eq_true rfl) dX4_hill_2 (fun H locs hP hD hS => ?_)
  have hP : va_P g.1 vwCl (wMo g am (nI 0) (sa) (z)) H := hP
  have hD : va_D (va_A (wMo g am (th) (sa) (z)) s.heap.size) (wMo g am (nI 0) (sa) (z)) := hD
  have hE := hE0.kept hS.2.1
  refine lv_aload_n hx hb dX4_hill_5 rfl (lv_at hl 0 rfl) ?_
  refine lv_iload_n hx hb dX4_hill_6 rfl (lv_at hl 1 rfl) ?_
  refine q_roV (As := [.int (nI a)]) (rest := []) ⟨hx, hb, hml, hown, hts⟩ (c_X4_isCode hV hR (x := nI a)) (cwV 1 hts gX4_hill_X4_isCode rfl rfl rfl (by decide +kernel) ⟨Nat.le_of_ble_eq_true rfl, Nat.le_of_ble_eq_true rfl⟩) hE (fun q h => hA q (Nat.le_trans hS.1 h)) hP (va_recv hE.K hP (ci := 5) (q0 := 0) rfl rfl) rfl hl.1 rfl (Nat.le_of_ble_eq_true rfl) dX4_hill_7 ⟨Nat.le_of_ble_eq_true rfl, Nat.le_of_ble_eq_true rfl⟩ ?_
  refine q_ifb_ne (tgt := 19) hx hb dX4_hill_10 (by decide) (fun c_1 => ?_) (fun c_1 => ?_)
  · refine lv_iload_n hx hb dX4_hill_19 rfl (lv_at hl 2 rfl) ?_
    refine q_roS (As := [.int (nI s_)]) (rest := []) ⟨hx, hb, hml, hown, hts⟩ (c_X4_isStrength (x := nI s_)) (va_cwS 1 hts gX4_hill_X4_isStrength rfl rfl rfl (by decide +kernel) ⟨Nat.le_of_ble_eq_true rfl, Nat.le_of_ble_eq_true rfl⟩) hE (fun q h => hA q (Nat.le_trans hS.1 h)) trivial rfl hl.1 rfl (Nat.le_of_ble_eq_true rfl) dX4_hill_20 ⟨Nat.le_of_ble_eq_true rfl, Nat.le_of_ble_eq_true rfl⟩ ?_
    refine q_ifb_ne (tgt := 32) hx hb dX4_hill_23 (by decide) (fun c_2 => ?_) (fun c_2 => ?_)
    · refine lv_aload_n hx hb dX4_hill_32 rfl (lv_at hl 0 rfl) ?_
      refine va_get (v := .int (nI (sn z))) (C := RX4) (T := TX4) (N := 9) hx hb hts (q_sub wsX40 23 rfl) hown hE.K hP 0 rfl rfl 2 (by decide) (hts _ (List.mem_of_getElem? (i := 2) rfl)) (fun _ h9 => h9) rfl dX4_hill_33 ?_
      refine lv_bipush (v := nI 8) hx hb dX4_hill_36 (by decide) ?_
      refine q_icmp_ne (tgt := 47) hx hb (by omega) (by omega) dX4_hill_38 (by decide) (fun c_3 => ?_) (fun c_3 => ?_)
      · exact absurd hn_ c_3
      · refine lv_aload_n hx hb dX4_hill_41 rfl (lv_at hl 0 rfl) ?_
        refine lv_iconst (v := nI 3) hx hb dX4_hill_42 (by decide) ?_
        refine q_wrV (wr := []) (As := [.int (nI 3)]) (rest := []) ⟨hx, hb, hml, hown, hts⟩ (c_X4_no (th := nI 0) (x := nI 3) hV hR) (cwV 1 hts gX4_hill_X4_no rfl rfl rfl (by decide +kernel) ⟨Nat.le_of_ble_eq_true rfl, Nat.le_of_ble_eq_true rfl⟩) hE hP hD hS hA (va_recv hE.K hP (ci := 5) (q0 := 0) rfl rfl) rfl hl.1 rfl (Nat.le_of_ble_eq_true rfl) dX4_hill_43 ⟨Nat.le_of_ble_eq_true rfl, Nat.le_of_ble_eq_true rfl⟩ (fun _u H locs hP hD hS hE => ?_)
        have hP : va_P g.1 vwCl (wMo g am (nI 3) (sa) (z)) H := hP
        have hD : va_D (va_A (wMo g am (th) (sa) (z)) s.heap.size) (wMo g am (nI 3) (sa) (z)) := hD
        exact q_wiret (()) hx hb hr hlocks hP hD hS dX4_hill_46 rfl
    · exact absurd (inB_nI (by omega) (by omega) (by omega)) c_2
  · exact absurd (inR_nI ha_ (by omega)) c_1
set_option maxHeartbeats 4000000 in
set_option maxRecDepth 100000 in
theorem c_X4_say {l : Launch} {g : gT} {sz : Nat} {am : Nat → Nat} {th : Int32} {sa : Nat → Int32} {z : sT} (hV : VS z) (hR : RS z sa) {k y : Nat} (hk_ : k < sn z) (hsd_ : ssd z k < 12) (hy_ : y < 2147483648) : WR (S := Unit) l yX4_say wsX4_say ({ frames := 2, cells := 0, slots := 0, locals := 43 } : Room) [.ref (am 0), .int (nI k), .int (nI y)] g (wMo g am (th) (sa) (z)) sz (fun _ : Unit => wMo g am (nI 0) (upd sa (12 * k + ssd z k) (sayX y)) (zsay z k (sayX y))) (fun _ => some (.int (nI (ssd z k + 1)))) 0 0 := by
  refine WR.of (cc := cX4_say) (maxL := 3) (ret := (some .int)) (by decide) rfl (Nat.le_of_ble_eq_true rfl) ?_
  intro p e s m below meth c hx hb hml hr hlocks hown hin0 hts hsz hE0 hP hD ls hl
  subst hsz
  have hown : s.vm.findClass RX4 = some m.cls := hown
  have hA : ∀ q, s.heap.size ≤ q → va_A (wMo g am (th) (sa) (z)) s.heap.size q := fun q h => Or.inr h
  have hE := hE0
  have hS : va_S (va_A (wMo g am (th) (sa) (z)) s.heap.size) s.heap s.heap [] := va_S.rf
  have hl : lv_has ls 3 [(0, .ref (am 0)), (1, .int (nI k)), (2, .int (nI y))] := hl
  have hL := hV.L
  have hn := hV.n
  have hb9 := hV.h hk_
  refine lv_aload_n hx hb dX4_say_0 rfl (lv_at hl 0 rfl) ?_
  refine lv_iconst (v := nI 0) hx hb dX4_say_1 (by decide) ?_
  refine va_put (D := g.1) (ci := 5) (v := .int (nI 0)) (ty := .int) (C := RX4) (T := TX4) (N := 9) hx hb hts (q_sub wsX40 17 rfl) tyX4 tyX4_ok nmX4 hown hE.K hP hD hS 0 rfl rfl 0 (by decide) (hts _ (List.mem_of_getElem? (i := 1) rfl)) (fun _ h9 => h9) rfl (by decide +kernel) rfl rfl (Nat.le_of_ble_eq_true rfl) dX4_say_2 (fun H locs hP hD hS => ?_)
  have hP : va_P g.1 vwCl (wMo g am (nI 0) (sa) (z)) H := hP
  have hD : va_D (va_A (wMo g am (th) (sa) (z)) s.heap.size) (wMo g am (nI 0) (sa) (z)) := hD
  have hE := hE0.kept hS.2.1
  refine lv_aload_n hx hb dX4_say_5 rfl (lv_at hl 0 rfl) ?_
  refine lv_iload_n hx hb dX4_say_6 rfl (lv_at hl 1 rfl) ?_
  refine q_roV (As := [.int (nI k)]) (rest := []) ⟨hx, hb, hml, hown, hts⟩ (c_X4_isHill hV hR (x := nI k)) (cwV 1 hts gX4_say_X4_isHill rfl rfl rfl (by decide +kernel) ⟨Nat.le_of_ble_eq_true rfl, Nat.le_of_ble_eq_true rfl⟩) hE (fun q h => hA q (Nat.le_trans hS.1 h)) hP (va_recv hE.K hP (ci := 5) (q0 := 0) rfl rfl) rfl hl.1 rfl (Nat.le_of_ble_eq_true rfl) dX4_say_7 ⟨Nat.le_of_ble_eq_true rfl, Nat.le_of_ble_eq_true rfl⟩ ?_
  refine q_ifb_ne (tgt := 19) hx hb dX4_say_10 (by decide) (fun c_1 => ?_) (fun c_1 => ?_)
  · refine lv_aload_n hx hb dX4_say_19 rfl (lv_at hl 0 rfl) ?_
    refine va_get (v := .ref (am 4)) (C := RX4) (T := TX4) (N := 9) hx hb hts (q_sub wsX40 17 rfl) hown hE.K hP 0 rfl rfl 6 (by decide) (hts _ (List.mem_of_getElem? (i := 2) rfl)) (fun _ h9 => h9) rfl dX4_say_20 ?_
    refine lv_iload_n hx hb dX4_say_23 rfl (lv_at hl 1 rfl) ?_
    refine q_iald (v := nI (ssd z k)) hx hb hE (hP 4 _ rfl) (by omega) (by omega) dX4_say_24 rfl ?_
    refine lv_bipush (v := nI 12) hx hb dX4_say_25 (by decide) ?_
    refine q_icmp_ne (tgt := 36) hx hb (by omega) (by omega) dX4_say_27 (by decide) (fun c_2 => ?_) (fun c_2 => ?_)
    · refine lv_aload_n hx hb dX4_say_36 rfl (lv_at hl 0 rfl) ?_
      refine va_get (v := .ref (am 5)) (C := RX4) (T := TX4) (N := 9) hx hb hts (q_sub wsX40 17 rfl) hown hE.K hP 0 rfl rfl 7 (by decide) (hts _ (List.mem_of_getElem? (i := 3) rfl)) (fun _ h9 => h9) rfl dX4_say_37 ?_
      refine lv_bipush (v := nI 12) hx hb dX4_say_40 (by decide) ?_
      refine lv_iload_n hx hb dX4_say_42 rfl (lv_at hl 1 rfl) ?_
      refine q_imul (v := nI (12 * k)) hx hb dX4_say_43 (pk_mul _ _) ?_
      refine lv_aload_n hx hb dX4_say_44 rfl (lv_at hl 0 rfl) ?_
      refine va_get (v := .ref (am 4)) (C := RX4) (T := TX4) (N := 9) hx hb hts (q_sub wsX40 17 rfl) hown hE.K hP 0 rfl rfl 6 (by decide) (hts _ (List.mem_of_getElem? (i := 2) rfl)) (fun _ h9 => h9) rfl dX4_say_45 ?_
      refine lv_iload_n hx hb dX4_say_48 rfl (lv_at hl 1 rfl) ?_
      refine q_iald (v := nI (ssd z k)) hx hb hE (hP 4 _ rfl) (by omega) (by omega) dX4_say_49 rfl ?_
      refine q_iadd (v := nI (12 * k + ssd z k)) hx hb dX4_say_50 (nI_add _ _) ?_
      refine lv_iload_n hx hb dX4_say_51 rfl (lv_at hl 2 rfl) ?_
      refine q_if_eq (tgt := 59) hx hb hy_ dX4_say_52 (by decide) (fun c_y => ?_) (fun c_y => ?_)
      · refine lv_iconst (v := (-1 : Int32)) hx hb dX4_say_59 (by decide) ?_
        refine lv_topi (fun x_ ex_ => ?_)
        obtain rfl : x_ = sayX y := ex_.trans (sayX_0 c_y).symm
        refine q_iast hx hb hE hP hD hS (q0 := 5) rfl (by omega) (by omega) dX4_say_60 (fun H locs hP hD hS => ?_)
        have hP : va_P g.1 vwCl (wMo g am (nI 0) (upd sa (12 * k + ssd z k) (sayX y)) (z)) H := hP
        have hD : va_D (va_A (wMo g am (th) (sa) (z)) s.heap.size) (wMo g am (nI 0) (upd sa (12 * k + ssd z k) (sayX y)) (z)) := hD
        have hE := hE0.kept hS.2.1
        refine lv_aload_n hx hb dX4_say_61 rfl (lv_at hl 0 rfl) ?_
        refine va_get (v := .ref (am 4)) (C := RX4) (T := TX4) (N := 9) hx hb hts (q_sub wsX40 17 rfl) hown hE.K hP 0 rfl rfl 6 (by decide) (hts _ (List.mem_of_getElem? (i := 2) rfl)) (fun _ h9 => h9) rfl dX4_say_62 ?_
        refine lv_iload_n hx hb dX4_say_65 rfl (lv_at hl 1 rfl) ?_
        refine lv_dup2_11 hx hb dX4_say_66 rfl rfl ?_
        refine q_iald (v := nI (ssd z k)) hx hb hE (hP 4 _ rfl) (by omega) (by omega) dX4_say_67 rfl ?_
        refine lv_iconst (v := nI 1) hx hb dX4_say_68 (by decide) ?_
        refine q_iadd (v := nI (ssd z k + 1)) hx hb dX4_say_69 (nI_add _ _) ?_
        refine q_iast hx hb hE hP hD hS (q0 := 4) rfl (by omega) (by omega) dX4_say_70 (fun H locs hP hD hS => ?_)
        have hP : va_P g.1 vwCl (wMo g am (nI 0) (upd sa (12 * k + ssd z k) (sayX y)) (zsay z k (sayX y))) H := q_eqP wMo_4 hP
        have hD : va_D (va_A (wMo g am (th) (sa) (z)) s.heap.size) (wMo g am (nI 0) (upd sa (12 * k + ssd z k) (sayX y)) (zsay z k (sayX y))) := q_eqD wMo_4 hD
        have hE := hE0.kept hS.2.1
        refine lv_aload_n hx hb dX4_say_71 rfl (lv_at hl 0 rfl) ?_
        refine va_get (v := .ref (am 4)) (C := RX4) (T := TX4) (N := 9) hx hb hts (q_sub wsX40 17 rfl) hown hE.K hP 0 rfl rfl 6 (by decide) (hts _ (List.mem_of_getElem? (i := 2) rfl)) (fun _ h9 => h9) rfl dX4_say_72 ?_
        refine lv_iload_n hx hb dX4_say_75 rfl (lv_at hl 1 rfl) ?_
        refine q_iald (v := nI (ssd z k + 1)) hx hb hE (hP 4 _ rfl) (by omega) (by omega) dX4_say_76 (by show nI (upN (ssd z) k (ssd z k + 1) k) = _; rw [upN_s]) ?_
        exact q_wiret (()) hx hb hr hlocks hP hD hS dX4_say_77 rfl
      · refine lv_iconst (v := nI 1) hx hb dX4_say_55 (by decide) ?_
        refine lv_goto (tgt := 60) hx hb dX4_say_56 (by decide) ?_
        refine lv_topi (fun x_ ex_ => ?_)
        obtain rfl : x_ = sayX y := ex_.trans (sayX_1 c_y).symm
        refine q_iast hx hb hE hP hD hS (q0 := 5) rfl (by omega) (by omega) dX4_say_60 (fun H locs hP hD hS => ?_)
        have hP : va_P g.1 vwCl (wMo g am (nI 0) (upd sa (12 * k + ssd z k) (sayX y)) (z)) H := hP
        have hD : va_D (va_A (wMo g am (th) (sa) (z)) s.heap.size) (wMo g am (nI 0) (upd sa (12 * k + ssd z k) (sayX y)) (z)) := hD
        have hE := hE0.kept hS.2.1
        refine lv_aload_n hx hb dX4_say_61 rfl (lv_at hl 0 rfl) ?_
        refine va_get (v := .ref (am 4)) (C := RX4) (T := TX4) (N := 9) hx hb hts (q_sub wsX40 17 rfl) hown hE.K hP 0 rfl rfl 6 (by decide) (hts _ (List.mem_of_getElem? (i := 2) rfl)) (fun _ h9 => h9) rfl dX4_say_62 ?_
        refine lv_iload_n hx hb dX4_say_65 rfl (lv_at hl 1 rfl) ?_
        refine lv_dup2_11 hx hb dX4_say_66 rfl rfl ?_
        refine q_iald (v := nI (ssd z k)) hx hb hE (hP 4 _ rfl) (by omega) (by omega) dX4_say_67 rfl ?_
        refine lv_iconst (v := nI 1) hx hb dX4_say_68 (by decide) ?_
        refine q_iadd (v := nI (ssd z k + 1)) hx hb dX4_say_69 (nI_add _ _) ?_
        refine q_iast hx hb hE hP hD hS (q0 := 4) rfl (by omega) (by omega) dX4_say_70 (fun H locs hP hD hS => ?_)
        have hP : va_P g.1 vwCl (wMo g am (nI 0) (upd sa (12 * k + ssd z k) (sayX y)) (zsay z k (sayX y))) H := q_eqP wMo_4 hP
        have hD : va_D (va_A (wMo g am (th) (sa) (z)) s.heap.size) (wMo g am (nI 0) (upd sa (12 * k + ssd z k) (sayX y)) (zsay z k (sayX y))) := q_eqD wMo_4 hD
        have hE := hE0.kept hS.2.1
        refine lv_aload_n hx hb dX4_say_71 rfl (lv_at hl 0 rfl) ?_
        refine va_get (v := .ref (am 4)) (C := RX4) (T := TX4) (N := 9) hx hb hts (q_sub wsX40 17 rfl) hown hE.K hP 0 rfl rfl 6 (by decide) (hts _ (List.mem_of_getElem? (i := 2) rfl)) (fun _ h9 => h9) rfl dX4_say_72 ?_
        refine lv_iload_n hx hb dX4_say_75 rfl (lv_at hl 1 rfl) ?_
        refine q_iald (v := nI (ssd z k + 1)) hx hb hE (hP 4 _ rfl) (by omega) (by omega) dX4_say_76 (by show nI (upN (ssd z) k (ssd z k + 1) k) = _; rw [upN_s]) ?_
        exact q_wiret (()) hx hb hr hlocks hP hD hS dX4_say_77 rfl
    · exact absurd c_2 (by omega)
  · exact absurd (inR_nI hk_ (by omega)) c_1
set_option maxHeartbeats 4000000 in
set_option maxRecDepth 100000 in
theorem cn_X4_say_1 {l : Launch} {g : gT} {sz : Nat} {am : Nat → Nat} {th : Int32} {sa : Nat → Int32} {z : sT} (hV : VS z) (hR : RS z sa) {x y : Int32} (hx_ : ¬ inR x (sn z)) : WR (S := Unit) l yX4_say wsX4_say ({ frames := 2, cells := 0, slots := 0, locals := 43 } : Room) [.ref (am 0), .int x, .int y] g (wMo g am (th) (sa) (z)) sz (fun _ : Unit => wMo g am (nI 1) (sa) (z)) (fun _ => some (.int (nI 0))) 0 0 := by
  refine WR.of (cc := cX4_say) (maxL := 3) (ret := (some .int)) (by decide) rfl (Nat.le_of_ble_eq_true rfl) ?_
  intro p e s m below meth c hx hb hml hr hlocks hown hin0 hts hsz hE0 hP hD ls hl
  subst hsz
  have hown : s.vm.findClass RX4 = some m.cls := hown
  have hA : ∀ q, s.heap.size ≤ q → va_A (wMo g am (th) (sa) (z)) s.heap.size q := fun q h => Or.inr h
  have hE := hE0
  have hS : va_S (va_A (wMo g am (th) (sa) (z)) s.heap.size) s.heap s.heap [] := va_S.rf
  have hl : lv_has ls 3 [(0, .ref (am 0)), (1, .int x), (2, .int y)] := hl
  have hL := hV.L
  have hn := hV.n
  refine lv_aload_n hx hb dX4_say_0 rfl (lv_at hl 0 rfl) ?_
  refine lv_iconst (v := nI 0) hx hb dX4_say_1 (by decide) ?_
  refine va_put (D := g.1) (ci := 5) (v := .int (nI 0)) (ty := .int) (C := RX4) (T := TX4) (N := 9) hx hb hts (q_sub wsX40 17 rfl) tyX4 tyX4_ok nmX4 hown hE.K hP hD hS 0 rfl rfl 0 (by decide) (hts _ (List.mem_of_getElem? (i := 1) rfl)) (fun _ h9 => h9) rfl (by decide +kernel) rfl rfl (Nat.le_of_ble_eq_true rfl) dX4_say_2 (fun H locs hP hD hS => ?_)
  have hP : va_P g.1 vwCl (wMo g am (nI 0) (sa) (z)) H := hP
  have hD : va_D (va_A (wMo g am (th) (sa) (z)) s.heap.size) (wMo g am (nI 0) (sa) (z)) := hD
  have hE := hE0.kept hS.2.1
  refine lv_aload_n hx hb dX4_say_5 rfl (lv_at hl 0 rfl) ?_
  refine lv_iload_n hx hb dX4_say_6 rfl (lv_at hl 1 rfl) ?_
  refine q_roV (As := [.int x]) (rest := []) ⟨hx, hb, hml, hown, hts⟩ (c_X4_isHill hV hR (x := x)) (cwV 1 hts gX4_say_X4_isHill rfl rfl rfl (by decide +kernel) ⟨Nat.le_of_ble_eq_true rfl, Nat.le_of_ble_eq_true rfl⟩) hE (fun q h => hA q (Nat.le_trans hS.1 h)) hP (va_recv hE.K hP (ci := 5) (q0 := 0) rfl rfl) rfl hl.1 rfl (Nat.le_of_ble_eq_true rfl) dX4_say_7 ⟨Nat.le_of_ble_eq_true rfl, Nat.le_of_ble_eq_true rfl⟩ ?_
  refine q_ifb_ne (tgt := 19) hx hb dX4_say_10 (by decide) (fun c_1 => ?_) (fun c_1 => ?_)
  · exact absurd c_1 (hx_)
  · refine lv_aload_n hx hb dX4_say_13 rfl (lv_at hl 0 rfl) ?_
    refine lv_iconst (v := nI 1) hx hb dX4_say_14 (by decide) ?_
    refine q_wrV (wr := []) (As := [.int (nI 1)]) (rest := []) ⟨hx, hb, hml, hown, hts⟩ (c_X4_no (th := nI 0) (x := nI 1) hV hR) (cwV 1 hts gX4_say_X4_no rfl rfl rfl (by decide +kernel) ⟨Nat.le_of_ble_eq_true rfl, Nat.le_of_ble_eq_true rfl⟩) hE hP hD hS hA (va_recv hE.K hP (ci := 5) (q0 := 0) rfl rfl) rfl hl.1 rfl (Nat.le_of_ble_eq_true rfl) dX4_say_15 ⟨Nat.le_of_ble_eq_true rfl, Nat.le_of_ble_eq_true rfl⟩ (fun _u H locs hP hD hS hE => ?_)
    have hP : va_P g.1 vwCl (wMo g am (nI 1) (sa) (z)) H := hP
    have hD : va_D (va_A (wMo g am (th) (sa) (z)) s.heap.size) (wMo g am (nI 1) (sa) (z)) := hD
    exact q_wiret (()) hx hb hr hlocks hP hD hS dX4_say_18 rfl
set_option maxHeartbeats 4000000 in
set_option maxRecDepth 100000 in
theorem cn_X4_say_2 {l : Launch} {g : gT} {sz : Nat} {am : Nat → Nat} {th : Int32} {sa : Nat → Int32} {z : sT} (hV : VS z) (hR : RS z sa) {k : Nat} {y : Int32} (hk_ : k < sn z) (hsd_ : ssd z k = 12) : WR (S := Unit) l yX4_say wsX4_say ({ frames := 2, cells := 0, slots := 0, locals := 43 } : Room) [.ref (am 0), .int (nI k), .int y] g (wMo g am (th) (sa) (z)) sz (fun _ : Unit => wMo g am (nI 2) (sa) (z)) (fun _ => some (.int (nI 0))) 0 0 := by
  refine WR.of (cc := cX4_say) (maxL := 3) (ret := (some .int)) (by decide) rfl (Nat.le_of_ble_eq_true rfl) ?_
  intro p e s m below meth c hx hb hml hr hlocks hown hin0 hts hsz hE0 hP hD ls hl
  subst hsz
  have hown : s.vm.findClass RX4 = some m.cls := hown
  have hA : ∀ q, s.heap.size ≤ q → va_A (wMo g am (th) (sa) (z)) s.heap.size q := fun q h => Or.inr h
  have hE := hE0
  have hS : va_S (va_A (wMo g am (th) (sa) (z)) s.heap.size) s.heap s.heap [] := va_S.rf
  have hl : lv_has ls 3 [(0, .ref (am 0)), (1, .int (nI k)), (2, .int y)] := hl
  have hL := hV.L
  have hn := hV.n
  have hb9 := hV.h hk_
  refine lv_aload_n hx hb dX4_say_0 rfl (lv_at hl 0 rfl) ?_
  refine lv_iconst (v := nI 0) hx hb dX4_say_1 (by decide) ?_
  refine va_put (D := g.1) (ci := 5) (v := .int (nI 0)) (ty := .int) (C := RX4) (T := TX4) (N := 9) hx hb hts (q_sub wsX40 17 rfl) tyX4 tyX4_ok nmX4 hown hE.K hP hD hS 0 rfl rfl 0 (by decide) (hts _ (List.mem_of_getElem? (i := 1) rfl)) (fun _ h9 => h9) rfl (by decide +kernel) rfl rfl (Nat.le_of_ble_eq_true rfl) dX4_say_2 (fun H locs hP hD hS => ?_)
  have hP : va_P g.1 vwCl (wMo g am (nI 0) (sa) (z)) H := hP
  have hD : va_D (va_A (wMo g am (th) (sa) (z)) s.heap.size) (wMo g am (nI 0) (sa) (z)) := hD
  have hE := hE0.kept hS.2.1
  refine lv_aload_n hx hb dX4_say_5 rfl (lv_at hl 0 rfl) ?_
  refine lv_iload_n hx hb dX4_say_6 rfl (lv_at hl 1 rfl) ?_
  refine q_roV (As := [.int (nI k)]) (rest := []) ⟨hx, hb, hml, hown, hts⟩ (c_X4_isHill hV hR (x := nI k)) (cwV 1 hts gX4_say_X4_isHill rfl rfl rfl (by decide +kernel) ⟨Nat.le_of_ble_eq_true rfl, Nat.le_of_ble_eq_true rfl⟩) hE (fun q h => hA q (Nat.le_trans hS.1 h)) hP (va_recv hE.K hP (ci := 5) (q0 := 0) rfl rfl) rfl hl.1 rfl (Nat.le_of_ble_eq_true rfl) dX4_say_7 ⟨Nat.le_of_ble_eq_true rfl, Nat.le_of_ble_eq_true rfl⟩ ?_
  refine q_ifb_ne (tgt := 19) hx hb dX4_say_10 (by decide) (fun c_1 => ?_) (fun c_1 => ?_)
  · refine lv_aload_n hx hb dX4_say_19 rfl (lv_at hl 0 rfl) ?_
    refine va_get (v := .ref (am 4)) (C := RX4) (T := TX4) (N := 9) hx hb hts (q_sub wsX40 17 rfl) hown hE.K hP 0 rfl rfl 6 (by decide) (hts _ (List.mem_of_getElem? (i := 2) rfl)) (fun _ h9 => h9) rfl dX4_say_20 ?_
    refine lv_iload_n hx hb dX4_say_23 rfl (lv_at hl 1 rfl) ?_
    refine q_iald (v := nI (ssd z k)) hx hb hE (hP 4 _ rfl) (by omega) (by omega) dX4_say_24 rfl ?_
    refine lv_bipush (v := nI 12) hx hb dX4_say_25 (by decide) ?_
    refine q_icmp_ne (tgt := 36) hx hb (by omega) (by omega) dX4_say_27 (by decide) (fun c_2 => ?_) (fun c_2 => ?_)
    · exact absurd hsd_ c_2
    · refine lv_aload_n hx hb dX4_say_30 rfl (lv_at hl 0 rfl) ?_
      refine lv_iconst (v := nI 2) hx hb dX4_say_31 (by decide) ?_
      refine q_wrV (wr := []) (As := [.int (nI 2)]) (rest := []) ⟨hx, hb, hml, hown, hts⟩ (c_X4_no (th := nI 0) (x := nI 2) hV hR) (cwV 1 hts gX4_say_X4_no rfl rfl rfl (by decide +kernel) ⟨Nat.le_of_ble_eq_true rfl, Nat.le_of_ble_eq_true rfl⟩) hE hP hD hS hA (va_recv hE.K hP (ci := 5) (q0 := 0) rfl rfl) rfl hl.1 rfl (Nat.le_of_ble_eq_true rfl) dX4_say_32 ⟨Nat.le_of_ble_eq_true rfl, Nat.le_of_ble_eq_true rfl⟩ (fun _u H locs hP hD hS hE => ?_)
      have hP : va_P g.1 vwCl (wMo g am (nI 2) (sa) (z)) H := hP
      have hD : va_D (va_A (wMo g am (th) (sa) (z)) s.heap.size) (wMo g am (nI 2) (sa) (z)) := hD
      exact q_wiret (()) hx hb hr hlocks hP hD hS dX4_say_35 rfl
  · exact absurd (inR_nI hk_ (by omega)) c_1
set_option maxHeartbeats 4000000 in
set_option maxRecDepth 100000 in
theorem c_X4_hush {l : Launch} {g : gT} {sz : Nat} {am : Nat → Nat} {th : Int32} {sa : Nat → Int32} {z : sT} (hV : VS z) (hR : RS z sa) {k : Nat} (hk_ : k < sn z) : WR (S := Unit) l yX4_hush wsX4_hush ({ frames := 2, cells := 0, slots := 0, locals := 43 } : Room) [.ref (am 0), .int (nI k)] g (wMo g am (th) (sa) (z)) sz (fun _ : Unit => wMo g am (nI 0) (sa) (zsd z k 0)) (fun _ => some (.int (nI (ssd z k)))) 0 0 := by
  refine WR.of (cc := cX4_hush) (maxL := 3) (ret := (some .int)) (by decide) rfl (Nat.le_of_ble_eq_true rfl) ?_
  intro p e s m below meth c hx hb hml hr hlocks hown hin0 hts hsz hE0 hP hD ls hl
  subst hsz
  have hown : s.vm.findClass RX4 = some m.cls := hown
  have hA : ∀ q, s.heap.size ≤ q → va_A (wMo g am (th) (sa) (z)) s.heap.size q := fun q h => Or.inr h
  have hE := hE0
  have hS : va_S (va_A (wMo g am (th) (sa) (z)) s.heap.size) s.heap s.heap [] := va_S.rf
  have hl : lv_has ls 3 [(0, .ref (am 0)), (1, .int (nI k))] := hl
  have hL := hV.L
  have hn := hV.n
  have hb9 := hV.h hk_
  refine lv_aload_n hx hb dX4_hush_0 rfl (lv_at hl 0 rfl) ?_
  refine lv_iconst (v := nI 0) hx hb dX4_hush_1 (by decide) ?_
  refine va_put (D := g.1) (ci := 5) (v := .int (nI 0)) (ty := .int) (C := RX4) (T := TX4) (N := 9) hx hb hts (q_sub wsX40 16 rfl) tyX4 tyX4_ok nmX4 hown hE.K hP hD hS 0 rfl rfl 0 (by decide) (hts _ (List.mem_of_getElem? (i := 1) rfl)) (fun _ h9 => h9) rfl (by decide +kernel) rfl rfl (Nat.le_of_ble_eq_true rfl) dX4_hush_2 (fun H locs hP hD hS => ?_)
  have hP : va_P g.1 vwCl (wMo g am (nI 0) (sa) (z)) H := hP
  have hD : va_D (va_A (wMo g am (th) (sa) (z)) s.heap.size) (wMo g am (nI 0) (sa) (z)) := hD
  have hE := hE0.kept hS.2.1
  refine lv_aload_n hx hb dX4_hush_5 rfl (lv_at hl 0 rfl) ?_
  refine lv_iload_n hx hb dX4_hush_6 rfl (lv_at hl 1 rfl) ?_
  refine q_roV (As := [.int (nI k)]) (rest := []) ⟨hx, hb, hml, hown, hts⟩ (c_X4_isHill hV hR (x := nI k)) (cwV 1 hts gX4_hush_X4_isHill rfl rfl rfl (by decide +kernel) ⟨Nat.le_of_ble_eq_true rfl, Nat.le_of_ble_eq_true rfl⟩) hE (fun q h => hA q (Nat.le_trans hS.1 h)) hP (va_recv hE.K hP (ci := 5) (q0 := 0) rfl rfl) rfl hl.1 rfl (Nat.le_of_ble_eq_true rfl) dX4_hush_7 ⟨Nat.le_of_ble_eq_true rfl, Nat.le_of_ble_eq_true rfl⟩ ?_
  refine q_ifb_ne (tgt := 19) hx hb dX4_hush_10 (by decide) (fun c_1 => ?_) (fun c_1 => ?_)
  · refine lv_aload_n hx hb dX4_hush_19 rfl (lv_at hl 0 rfl) ?_
    refine va_get (v := .ref (am 4)) (C := RX4) (T := TX4) (N := 9) hx hb hts (q_sub wsX40 16 rfl) hown hE.K hP 0 rfl rfl 6 (by decide) (hts _ (List.mem_of_getElem? (i := 2) rfl)) (fun _ h9 => h9) rfl dX4_hush_20 ?_
    refine lv_iload_n hx hb dX4_hush_23 rfl (lv_at hl 1 rfl) ?_
    refine q_iald (v := nI (ssd z k)) hx hb hE (hP 4 _ rfl) (by omega) (by omega) dX4_hush_24 rfl ?_
    refine lv_istore_n (lv' := [(2, .int (nI (ssd z k))), (0, .ref (am 0)), (1, .int (nI k))]) hx hb dX4_hush_25 rfl hl (by decide) rfl (fun ls hl => ?_)
    refine lv_aload_n hx hb dX4_hush_26 rfl (lv_at hl 1 rfl) ?_
    refine va_get (v := .ref (am 4)) (C := RX4) (T := TX4) (N := 9) hx hb hts (q_sub wsX40 16 rfl) hown hE.K hP 0 rfl rfl 6 (by decide) (hts _ (List.mem_of_getElem? (i := 2) rfl)) (fun _ h9 => h9) rfl dX4_hush_27 ?_
    refine lv_iload_n hx hb dX4_hush_30 rfl (lv_at hl 2 rfl) ?_
    refine lv_iconst (v := nI 0) hx hb dX4_hush_31 (by decide) ?_
    refine q_iast hx hb hE hP hD hS (q0 := 4) rfl (by omega) (by omega) dX4_hush_32 (fun H locs hP hD hS => ?_)
    have hP : va_P g.1 vwCl (wMo g am (nI 0) (sa) (zsd z k 0)) H := q_eqP wMo_4 hP
    have hD : va_D (va_A (wMo g am (th) (sa) (z)) s.heap.size) (wMo g am (nI 0) (sa) (zsd z k 0)) := q_eqD wMo_4 hD
    have hE := hE0.kept hS.2.1
    refine lv_iload_n hx hb dX4_hush_33 rfl (lv_at hl 0 rfl) ?_
    exact q_wiret (()) hx hb hr hlocks hP hD hS dX4_hush_34 rfl
  · exact absurd (inR_nI hk_ (by omega)) c_1
set_option maxHeartbeats 4000000 in
set_option maxRecDepth 100000 in
theorem cn_X4_hush_1 {l : Launch} {g : gT} {sz : Nat} {am : Nat → Nat} {th : Int32} {sa : Nat → Int32} {z : sT} (hV : VS z) (hR : RS z sa) {x : Int32} (hx_ : ¬ inR x (sn z)) : WR (S := Unit) l yX4_hush wsX4_hush ({ frames := 2, cells := 0, slots := 0, locals := 43 } : Room) [.ref (am 0), .int x] g (wMo g am (th) (sa) (z)) sz (fun _ : Unit => wMo g am (nI 1) (sa) (z)) (fun _ => some (.int (nI 0))) 0 0 := by
  refine WR.of (cc := cX4_hush) (maxL := 3) (ret := (some .int)) (by decide) rfl (Nat.le_of_ble_eq_true rfl) ?_
  intro p e s m below meth c hx hb hml hr hlocks hown hin0 hts hsz hE0 hP hD ls hl
  subst hsz
  have hown : s.vm.findClass RX4 = some m.cls := hown
  have hA : ∀ q, s.heap.size ≤ q → va_A (wMo g am (th) (sa) (z)) s.heap.size q := fun q h => Or.inr h
  have hE := hE0
  have hS : va_S (va_A (wMo g am (th) (sa) (z)) s.heap.size) s.heap s.heap [] := va_S.rf
  have hl : lv_has ls 3 [(0, .ref (am 0)), (1, .int x)] := hl
  have hL := hV.L
  have hn := hV.n
  refine lv_aload_n hx hb dX4_hush_0 rfl (lv_at hl 0 rfl) ?_
  refine lv_iconst (v := nI 0) hx hb dX4_hush_1 (by decide) ?_
  refine va_put (D := g.1) (ci := 5) (v := .int (nI 0)) (ty := .int) (C := RX4) (T := TX4) (N := 9) hx hb hts (q_sub wsX40 16 rfl) tyX4 tyX4_ok nmX4 hown hE.K hP hD hS 0 rfl rfl 0 (by decide) (hts _ (List.mem_of_getElem? (i := 1) rfl)) (fun _ h9 => h9) rfl (by decide +kernel) rfl rfl (Nat.le_of_ble_eq_true rfl) dX4_hush_2 (fun H locs hP hD hS => ?_)
  have hP : va_P g.1 vwCl (wMo g am (nI 0) (sa) (z)) H := hP
  have hD : va_D (va_A (wMo g am (th) (sa) (z)) s.heap.size) (wMo g am (nI 0) (sa) (z)) := hD
  have hE := hE0.kept hS.2.1
  refine lv_aload_n hx hb dX4_hush_5 rfl (lv_at hl 0 rfl) ?_
  refine lv_iload_n hx hb dX4_hush_6 rfl (lv_at hl 1 rfl) ?_
  refine q_roV (As := [.int x]) (rest := []) ⟨hx, hb, hml, hown, hts⟩ (c_X4_isHill hV hR (x := x)) (cwV 1 hts gX4_hush_X4_isHill rfl rfl rfl (by decide +kernel) ⟨Nat.le_of_ble_eq_true rfl, Nat.le_of_ble_eq_true rfl⟩) hE (fun q h => hA q (Nat.le_trans hS.1 h)) hP (va_recv hE.K hP (ci := 5) (q0 := 0) rfl rfl) rfl hl.1 rfl (Nat.le_of_ble_eq_true rfl) dX4_hush_7 ⟨Nat.le_of_ble_eq_true rfl, Nat.le_of_ble_eq_true rfl⟩ ?_
  refine q_ifb_ne (tgt := 19) hx hb dX4_hush_10 (by decide) (fun c_1 => ?_) (fun c_1 => ?_)
  · exact absurd c_1 (hx_)
  · refine lv_aload_n hx hb dX4_hush_13 rfl (lv_at hl 0 rfl) ?_
    refine lv_iconst (v := nI 1) hx hb dX4_hush_14 (by decide) ?_
    refine q_wrV (wr := []) (As := [.int (nI 1)]) (rest := []) ⟨hx, hb, hml, hown, hts⟩ (c_X4_no (th := nI 0) (x := nI 1) hV hR) (cwV 1 hts gX4_hush_X4_no rfl rfl rfl (by decide +kernel) ⟨Nat.le_of_ble_eq_true rfl, Nat.le_of_ble_eq_true rfl⟩) hE hP hD hS hA (va_recv hE.K hP (ci := 5) (q0 := 0) rfl rfl) rfl hl.1 rfl (Nat.le_of_ble_eq_true rfl) dX4_hush_15 ⟨Nat.le_of_ble_eq_true rfl, Nat.le_of_ble_eq_true rfl⟩ (fun _u H locs hP hD hS hE => ?_)
    have hP : va_P g.1 vwCl (wMo g am (nI 1) (sa) (z)) H := hP
    have hD : va_D (va_A (wMo g am (th) (sa) (z)) s.heap.size) (wMo g am (nI 1) (sa) (z)) := hD
    exact q_wiret (()) hx hb hr hlocks hP hD hS dX4_hush_18 rfl
set_option maxHeartbeats 4000000 in
set_option maxRecDepth 100000 in
theorem c_X4_setDelay {l : Launch} {g : gT} {sz : Nat} {am : Nat → Nat} {th : Int32} {sa : Nat → Int32} {z : sT} (hV : VS z) (hR : RS z sa) {k d_ : Nat} (hk_ : k < sn z) (hd_ : d_ < sL z) : WR (S := Unit) l yX4_setDelay wsX4_setDelay ({ frames := 2, cells := 0, slots := 0, locals := 43 } : Room) [.ref (am 0), .int (nI k), .int (nI d_)] g (wMo g am (th) (sa) (z)) sz (fun _ : Unit => wMo g am (nI 0) (sa) (zdl z k d_)) (fun _ => some (.int (nI (sdl z k)))) 0 0 := by
  refine WR.of (cc := cX4_setDelay) (maxL := 4) (ret := (some .int)) (by decide) rfl (Nat.le_of_ble_eq_true rfl) ?_
  intro p e s m below meth c hx hb hml hr hlocks hown hin0 hts hsz hE0 hP hD ls hl
  subst hsz
  have hown : s.vm.findClass RX4 = some m.cls := hown
  have hA : ∀ q, s.heap.size ≤ q → va_A (wMo g am (th) (sa) (z)) s.heap.size q := fun q h => Or.inr h
  have hE := hE0
  have hS : va_S (va_A (wMo g am (th) (sa) (z)) s.heap.size) s.heap s.heap [] := va_S.rf
  have hl : lv_has ls 4 [(0, .ref (am 0)), (1, .int (nI k)), (2, .int (nI d_))] := hl
  have hL := hV.L
  have hn := hV.n
  have hb9 := hV.h hk_
  refine lv_aload_n hx hb dX4_setDelay_0 rfl (lv_at hl 0 rfl) ?_
  refine lv_iconst (v := nI 0) hx hb dX4_setDelay_1 (by decide) ?_
  refine va_put (D := g.1) (ci := 5) (v := .int (nI 0)) (ty := .int) (C := RX4) (T := TX4) (N := 9) hx hb hts (q_sub wsX40 21 rfl) tyX4 tyX4_ok nmX4 hown hE.K hP hD hS 0 rfl rfl 0 (by decide) (hts _ (List.mem_of_getElem? (i := 1) rfl)) (fun _ h9 => h9) rfl (by decide +kernel) rfl rfl (Nat.le_of_ble_eq_true rfl) dX4_setDelay_2 (fun H locs hP hD hS => ?_)
  have hP : va_P g.1 vwCl (wMo g am (nI 0) (sa) (z)) H := hP
  have hD : va_D (va_A (wMo g am (th) (sa) (z)) s.heap.size) (wMo g am (nI 0) (sa) (z)) := hD
  have hE := hE0.kept hS.2.1
  refine lv_aload_n hx hb dX4_setDelay_5 rfl (lv_at hl 0 rfl) ?_
  refine lv_iload_n hx hb dX4_setDelay_6 rfl (lv_at hl 1 rfl) ?_
  refine q_roV (As := [.int (nI k)]) (rest := []) ⟨hx, hb, hml, hown, hts⟩ (c_X4_isHill hV hR (x := nI k)) (cwV 1 hts gX4_setDelay_X4_isHill rfl rfl rfl (by decide +kernel) ⟨Nat.le_of_ble_eq_true rfl, Nat.le_of_ble_eq_true rfl⟩) hE (fun q h => hA q (Nat.le_trans hS.1 h)) hP (va_recv hE.K hP (ci := 5) (q0 := 0) rfl rfl) rfl hl.1 rfl (Nat.le_of_ble_eq_true rfl) dX4_setDelay_7 ⟨Nat.le_of_ble_eq_true rfl, Nat.le_of_ble_eq_true rfl⟩ ?_
  refine q_ifb_ne (tgt := 19) hx hb dX4_setDelay_10 (by decide) (fun c_1 => ?_) (fun c_1 => ?_)
  · refine lv_aload_n hx hb dX4_setDelay_19 rfl (lv_at hl 0 rfl) ?_
    refine lv_iload_n hx hb dX4_setDelay_20 rfl (lv_at hl 2 rfl) ?_
    refine q_roV (As := [.int (nI d_)]) (rest := []) ⟨hx, hb, hml, hown, hts⟩ (c_X4_isCode hV hR (x := nI d_)) (cwV 1 hts gX4_setDelay_X4_isCode rfl rfl rfl (by decide +kernel) ⟨Nat.le_of_ble_eq_true rfl, Nat.le_of_ble_eq_true rfl⟩) hE (fun q h => hA q (Nat.le_trans hS.1 h)) hP (va_recv hE.K hP (ci := 5) (q0 := 0) rfl rfl) rfl hl.1 rfl (Nat.le_of_ble_eq_true rfl) dX4_setDelay_21 ⟨Nat.le_of_ble_eq_true rfl, Nat.le_of_ble_eq_true rfl⟩ ?_
    refine q_ifb_ne (tgt := 33) hx hb dX4_setDelay_24 (by decide) (fun c_2 => ?_) (fun c_2 => ?_)
    · refine lv_aload_n hx hb dX4_setDelay_33 rfl (lv_at hl 0 rfl) ?_
      refine va_get (v := .ref (am 3)) (C := RX4) (T := TX4) (N := 9) hx hb hts (q_sub wsX40 21 rfl) hown hE.K hP 0 rfl rfl 5 (by decide) (hts _ (List.mem_of_getElem? (i := 2) rfl)) (fun _ h9 => h9) rfl dX4_setDelay_34 ?_
      refine lv_iload_n hx hb dX4_setDelay_37 rfl (lv_at hl 1 rfl) ?_
      refine q_iald (v := nI (sdl z k)) hx hb hE (hP 3 _ rfl) (by omega) (by omega) dX4_setDelay_38 rfl ?_
      refine lv_istore_n (lv' := [(3, .int (nI (sdl z k))), (0, .ref (am 0)), (1, .int (nI k)), (2, .int (nI d_))]) hx hb dX4_setDelay_39 rfl hl (by decide) rfl (fun ls hl => ?_)
      refine lv_aload_n hx hb dX4_setDelay_40 rfl (lv_at hl 1 rfl) ?_
      refine va_get (v := .ref (am 3)) (C := RX4) (T := TX4) (N := 9) hx hb hts (q_sub wsX40 21 rfl) hown hE.K hP 0 rfl rfl 5 (by decide) (hts _ (List.mem_of_getElem? (i := 2) rfl)) (fun _ h9 => h9) rfl dX4_setDelay_41 ?_
      refine lv_iload_n hx hb dX4_setDelay_44 rfl (lv_at hl 2 rfl) ?_
      refine lv_iload_n hx hb dX4_setDelay_45 rfl (lv_at hl 3 rfl) ?_
      refine q_iast hx hb hE hP hD hS (q0 := 3) rfl (by omega) (by omega) dX4_setDelay_46 (fun H locs hP hD hS => ?_)
      have hP : va_P g.1 vwCl (wMo g am (nI 0) (sa) (zdl z k d_)) H := q_eqP wMo_3 hP
      have hD : va_D (va_A (wMo g am (th) (sa) (z)) s.heap.size) (wMo g am (nI 0) (sa) (zdl z k d_)) := q_eqD wMo_3 hD
      have hE := hE0.kept hS.2.1
      refine lv_iload_n hx hb dX4_setDelay_47 rfl (lv_at hl 0 rfl) ?_
      exact q_wiret (()) hx hb hr hlocks hP hD hS dX4_setDelay_48 rfl
    · exact absurd (inR_nI hd_ (by omega)) c_2
  · exact absurd (inR_nI hk_ (by omega)) c_1
set_option maxHeartbeats 4000000 in
set_option maxRecDepth 100000 in
theorem cn_X4_setDelay_1 {l : Launch} {g : gT} {sz : Nat} {am : Nat → Nat} {th : Int32} {sa : Nat → Int32} {z : sT} (hV : VS z) (hR : RS z sa) {x y : Int32} (hx_ : ¬ inR x (sn z)) : WR (S := Unit) l yX4_setDelay wsX4_setDelay ({ frames := 2, cells := 0, slots := 0, locals := 43 } : Room) [.ref (am 0), .int x, .int y] g (wMo g am (th) (sa) (z)) sz (fun _ : Unit => wMo g am (nI 1) (sa) (z)) (fun _ => some (.int (nI 0))) 0 0 := by
  refine WR.of (cc := cX4_setDelay) (maxL := 4) (ret := (some .int)) (by decide) rfl (Nat.le_of_ble_eq_true rfl) ?_
  intro p e s m below meth c hx hb hml hr hlocks hown hin0 hts hsz hE0 hP hD ls hl
  subst hsz
  have hown : s.vm.findClass RX4 = some m.cls := hown
  have hA : ∀ q, s.heap.size ≤ q → va_A (wMo g am (th) (sa) (z)) s.heap.size q := fun q h => Or.inr h
  have hE := hE0
  have hS : va_S (va_A (wMo g am (th) (sa) (z)) s.heap.size) s.heap s.heap [] := va_S.rf
  have hl : lv_has ls 4 [(0, .ref (am 0)), (1, .int x), (2, .int y)] := hl
  have hL := hV.L
  have hn := hV.n
  refine lv_aload_n hx hb dX4_setDelay_0 rfl (lv_at hl 0 rfl) ?_
  refine lv_iconst (v := nI 0) hx hb dX4_setDelay_1 (by decide) ?_
  refine va_put (D := g.1) (ci := 5) (v := .int (nI 0)) (ty := .int) (C := RX4) (T := TX4) (N := 9) hx hb hts (q_sub wsX40 21 rfl) tyX4 tyX4_ok nmX4 hown hE.K hP hD hS 0 rfl rfl 0 (by decide) (hts _ (List.mem_of_getElem? (i := 1) rfl)) (fun _ h9 => h9) rfl (by decide +kernel) rfl rfl (Nat.le_of_ble_eq_true rfl) dX4_setDelay_2 (fun H locs hP hD hS => ?_)
  have hP : va_P g.1 vwCl (wMo g am (nI 0) (sa) (z)) H := hP
  have hD : va_D (va_A (wMo g am (th) (sa) (z)) s.heap.size) (wMo g am (nI 0) (sa) (z)) := hD
  have hE := hE0.kept hS.2.1
  refine lv_aload_n hx hb dX4_setDelay_5 rfl (lv_at hl 0 rfl) ?_
  refine lv_iload_n hx hb dX4_setDelay_6 rfl (lv_at hl 1 rfl) ?_
  refine q_roV (As := [.int x]) (rest := []) ⟨hx, hb, hml, hown, hts⟩ (c_X4_isHill hV hR (x := x)) (cwV 1 hts gX4_setDelay_X4_isHill rfl rfl rfl (by decide +kernel) ⟨Nat.le_of_ble_eq_true rfl, Nat.le_of_ble_eq_true rfl⟩) hE (fun q h => hA q (Nat.le_trans hS.1 h)) hP (va_recv hE.K hP (ci := 5) (q0 := 0) rfl rfl) rfl hl.1 rfl (Nat.le_of_ble_eq_true rfl) dX4_setDelay_7 ⟨Nat.le_of_ble_eq_true rfl, Nat.le_of_ble_eq_true rfl⟩ ?_
  refine q_ifb_ne (tgt := 19) hx hb dX4_setDelay_10 (by decide) (fun c_1 => ?_) (fun c_1 => ?_)
  · exact absurd c_1 (hx_)
  · refine lv_aload_n hx hb dX4_setDelay_13 rfl (lv_at hl 0 rfl) ?_
    refine lv_iconst (v := nI 1) hx hb dX4_setDelay_14 (by decide) ?_
    refine q_wrV (wr := []) (As := [.int (nI 1)]) (rest := []) ⟨hx, hb, hml, hown, hts⟩ (c_X4_no (th := nI 0) (x := nI 1) hV hR) (cwV 1 hts gX4_setDelay_X4_no rfl rfl rfl (by decide +kernel) ⟨Nat.le_of_ble_eq_true rfl, Nat.le_of_ble_eq_true rfl⟩) hE hP hD hS hA (va_recv hE.K hP (ci := 5) (q0 := 0) rfl rfl) rfl hl.1 rfl (Nat.le_of_ble_eq_true rfl) dX4_setDelay_15 ⟨Nat.le_of_ble_eq_true rfl, Nat.le_of_ble_eq_true rfl⟩ (fun _u H locs hP hD hS hE => ?_)
    have hP : va_P g.1 vwCl (wMo g am (nI 1) (sa) (z)) H := hP
    have hD : va_D (va_A (wMo g am (th) (sa) (z)) s.heap.size) (wMo g am (nI 1) (sa) (z)) := hD
    exact q_wiret (()) hx hb hr hlocks hP hD hS dX4_setDelay_18 rfl
set_option maxHeartbeats 4000000 in
set_option maxRecDepth 100000 in
theorem cn_X4_setDelay_2 {l : Launch} {g : gT} {sz : Nat} {am : Nat → Nat} {th : Int32} {sa : Nat → Int32} {z : sT} (hV : VS z) (hR : RS z sa) {k : Nat} {x : Int32} (hk_ : k < sn z) (hx_ : ¬ inR x (sL z)) : WR (S := Unit) l yX4_setDelay wsX4_setDelay ({ frames := 2, cells := 0, slots := 0, locals := 43 } : Room) [.ref (am 0), .int (nI k), .int x] g (wMo g am (th) (sa) (z)) sz (fun _ : Unit => wMo g am (nI 2) (sa) (z)) (fun _ => some (.int (nI 0))) 0 0 := by
  refine WR.of (cc := cX4_setDelay) (maxL := 4) (ret := (some .int)) (by decide) rfl (Nat.le_of_ble_eq_true rfl) ?_
  intro p e s m below meth c hx hb hml hr hlocks hown hin0 hts hsz hE0 hP hD ls hl
  subst hsz
  have hown : s.vm.findClass RX4 = some m.cls := hown
  have hA : ∀ q, s.heap.size ≤ q → va_A (wMo g am (th) (sa) (z)) s.heap.size q := fun q h => Or.inr h
  have hE := hE0
  have hS : va_S (va_A (wMo g am (th) (sa) (z)) s.heap.size) s.heap s.heap [] := va_S.rf
  have hl : lv_has ls 4 [(0, .ref (am 0)), (1, .int (nI k)), (2, .int x)] := hl
  have hL := hV.L
  have hn := hV.n
  have hb9 := hV.h hk_
  refine lv_aload_n hx hb dX4_setDelay_0 rfl (lv_at hl 0 rfl) ?_
  refine lv_iconst (v := nI 0) hx hb dX4_setDelay_1 (by decide) ?_
  refine va_put (D := g.1) (ci := 5) (v := .int (nI 0)) (ty := .int) (C := RX4) (T := TX4) (N := 9) hx hb hts (q_sub wsX40 21 rfl) tyX4 tyX4_ok nmX4 hown hE.K hP hD hS 0 rfl rfl 0 (by decide) (hts _ (List.mem_of_getElem? (i := 1) rfl)) (fun _ h9 => h9) rfl (by decide +kernel) rfl rfl (Nat.le_of_ble_eq_true rfl) dX4_setDelay_2 (fun H locs hP hD hS => ?_)
  have hP : va_P g.1 vwCl (wMo g am (nI 0) (sa) (z)) H := hP
  have hD : va_D (va_A (wMo g am (th) (sa) (z)) s.heap.size) (wMo g am (nI 0) (sa) (z)) := hD
  have hE := hE0.kept hS.2.1
  refine lv_aload_n hx hb dX4_setDelay_5 rfl (lv_at hl 0 rfl) ?_
  refine lv_iload_n hx hb dX4_setDelay_6 rfl (lv_at hl 1 rfl) ?_
  refine q_roV (As := [.int (nI k)]) (rest := []) ⟨hx, hb, hml, hown, hts⟩ (c_X4_isHill hV hR (x := nI k)) (cwV 1 hts gX4_setDelay_X4_isHill rfl rfl rfl (by decide +kernel) ⟨Nat.le_of_ble_eq_true rfl, Nat.le_of_ble_eq_true rfl⟩) hE (fun q h => hA q (Nat.le_trans hS.1 h)) hP (va_recv hE.K hP (ci := 5) (q0 := 0) rfl rfl) rfl hl.1 rfl (Nat.le_of_ble_eq_true rfl) dX4_setDelay_7 ⟨Nat.le_of_ble_eq_true rfl, Nat.le_of_ble_eq_true rfl⟩ ?_
  refine q_ifb_ne (tgt := 19) hx hb dX4_setDelay_10 (by decide) (fun c_1 => ?_) (fun c_1 => ?_)
  · refine lv_aload_n hx hb dX4_setDelay_19 rfl (lv_at hl 0 rfl) ?_
    refine lv_iload_n hx hb dX4_setDelay_20 rfl (lv_at hl 2 rfl) ?_
    refine q_roV (As := [.int x]) (rest := []) ⟨hx, hb, hml, hown, hts⟩ (c_X4_isCode hV hR (x := x)) (cwV 1 hts gX4_setDelay_X4_isCode rfl rfl rfl (by decide +kernel) ⟨Nat.le_of_ble_eq_true rfl, Nat.le_of_ble_eq_true rfl⟩) hE (fun q h => hA q (Nat.le_trans hS.1 h)) hP (va_recv hE.K hP (ci := 5) (q0 := 0) rfl rfl) rfl hl.1 rfl (Nat.le_of_ble_eq_true rfl) dX4_setDelay_21 ⟨Nat.le_of_ble_eq_true rfl, Nat.le_of_ble_eq_true rfl⟩ ?_
    refine q_ifb_ne (tgt := 33) hx hb dX4_setDelay_24 (by decide) (fun c_2 => ?_) (fun c_2 => ?_)
    · exact absurd c_2 (hx_)
    · refine lv_aload_n hx hb dX4_setDelay_27 rfl (lv_at hl 0 rfl) ?_
      refine lv_iconst (v := nI 2) hx hb dX4_setDelay_28 (by decide) ?_
      refine q_wrV (wr := []) (As := [.int (nI 2)]) (rest := []) ⟨hx, hb, hml, hown, hts⟩ (c_X4_no (th := nI 0) (x := nI 2) hV hR) (cwV 1 hts gX4_setDelay_X4_no rfl rfl rfl (by decide +kernel) ⟨Nat.le_of_ble_eq_true rfl, Nat.le_of_ble_eq_true rfl⟩) hE hP hD hS hA (va_recv hE.K hP (ci := 5) (q0 := 0) rfl rfl) rfl hl.1 rfl (Nat.le_of_ble_eq_true rfl) dX4_setDelay_29 ⟨Nat.le_of_ble_eq_true rfl, Nat.le_of_ble_eq_true rfl⟩ (fun _u H locs hP hD hS hE => ?_)
      have hP : va_P g.1 vwCl (wMo g am (nI 2) (sa) (z)) H := hP
      have hD : va_D (va_A (wMo g am (th) (sa) (z)) s.heap.size) (wMo g am (nI 2) (sa) (z)) := hD
      exact q_wiret (()) hx hb hr hlocks hP hD hS dX4_setDelay_32 rfl
  · exact absurd (inR_nI hk_ (by omega)) c_1
set_option maxHeartbeats 4000000 in
set_option maxRecDepth 100000 in
theorem c_X4_setStrength {l : Launch} {g : gT} {sz : Nat} {am : Nat → Nat} {th : Int32} {sa : Nat → Int32} {z : sT} (hV : VS z) (hR : RS z sa) {k s_ : Nat} (hk_ : k < sn z) (h1_ : 1 ≤ s_) (h9_ : s_ ≤ 9) : WR (S := Unit) l yX4_setStrength wsX4_setStrength ({ frames := 2, cells := 0, slots := 0, locals := 43 } : Room) [.ref (am 0), .int (nI k), .int (nI s_)] g (wMo g am (th) (sa) (z)) sz (fun _ : Unit => wMo g am (nI 0) (sa) (zsr z k s_)) (fun _ => some (.int (nI (ssr z k)))) 0 0 := by
  refine WR.of (cc := cX4_setStrength) (maxL := 4) (ret := (some .int)) (by decide) rfl (Nat.le_of_ble_eq_true rfl) ?_
  intro p e s m below meth c hx hb hml hr hlocks hown hin0 hts hsz hE0 hP hD ls hl
  subst hsz
  have hown : s.vm.findClass RX4 = some m.cls := hown
  have hA : ∀ q, s.heap.size ≤ q → va_A (wMo g am (th) (sa) (z)) s.heap.size q := fun q h => Or.inr h
  have hE := hE0
  have hS : va_S (va_A (wMo g am (th) (sa) (z)) s.heap.size) s.heap s.heap [] := va_S.rf
  have hl : lv_has ls 4 [(0, .ref (am 0)), (1, .int (nI k)), (2, .int (nI s_))] := hl
  have hL := hV.L
  have hn := hV.n
  have hb9 := hV.h hk_
  refine lv_aload_n hx hb dX4_setStrength_0 rfl (lv_at hl 0 rfl) ?_
  refine lv_iconst (v := nI 0) hx hb dX4_setStrength_1 (by decide) ?_
  refine va_put (D := g.1) (ci := 5) (v := .int (nI 0)) (ty := .int) (C := RX4) (T := TX4) (N := 9) hx hb hts (q_sub wsX40 19 rfl) tyX4 tyX4_ok nmX4 hown hE.K hP hD hS 0 rfl rfl 0 (by decide) (hts _ (List.mem_of_getElem? (i := 1) rfl)) (fun _ h9 => h9) rfl (by decide +kernel) rfl rfl (Nat.le_of_ble_eq_true rfl) dX4_setStrength_2 (fun H locs hP hD hS => ?_)
  have hP : va_P g.1 vwCl (wMo g am (nI 0) (sa) (z)) H := hP
  have hD : va_D (va_A (wMo g am (th) (sa) (z)) s.heap.size) (wMo g am (nI 0) (sa) (z)) := hD
  have hE := hE0.kept hS.2.1
  refine lv_aload_n hx hb dX4_setStrength_5 rfl (lv_at hl 0 rfl) ?_
  refine lv_iload_n hx hb dX4_setStrength_6 rfl (lv_at hl 1 rfl) ?_
  refine q_roV (As := [.int (nI k)]) (rest := []) ⟨hx, hb, hml, hown, hts⟩ (c_X4_isHill hV hR (x := nI k)) (cwV 1 hts gX4_setStrength_X4_isHill rfl rfl rfl (by decide +kernel) ⟨Nat.le_of_ble_eq_true rfl, Nat.le_of_ble_eq_true rfl⟩) hE (fun q h => hA q (Nat.le_trans hS.1 h)) hP (va_recv hE.K hP (ci := 5) (q0 := 0) rfl rfl) rfl hl.1 rfl (Nat.le_of_ble_eq_true rfl) dX4_setStrength_7 ⟨Nat.le_of_ble_eq_true rfl, Nat.le_of_ble_eq_true rfl⟩ ?_
  refine q_ifb_ne (tgt := 19) hx hb dX4_setStrength_10 (by decide) (fun c_1 => ?_) (fun c_1 => ?_)
  · refine lv_iload_n hx hb dX4_setStrength_19 rfl (lv_at hl 2 rfl) ?_
    refine q_roS (As := [.int (nI s_)]) (rest := []) ⟨hx, hb, hml, hown, hts⟩ (c_X4_isStrength (x := nI s_)) (va_cwS 1 hts gX4_setStrength_X4_isStrength rfl rfl rfl (by decide +kernel) ⟨Nat.le_of_ble_eq_true rfl, Nat.le_of_ble_eq_true rfl⟩) hE (fun q h => hA q (Nat.le_trans hS.1 h)) trivial rfl hl.1 rfl (Nat.le_of_ble_eq_true rfl) dX4_setStrength_20 ⟨Nat.le_of_ble_eq_true rfl, Nat.le_of_ble_eq_true rfl⟩ ?_
    refine q_ifb_ne (tgt := 32) hx hb dX4_setStrength_23 (by decide) (fun c_2 => ?_) (fun c_2 => ?_)
    · refine lv_aload_n hx hb dX4_setStrength_32 rfl (lv_at hl 0 rfl) ?_
      refine va_get (v := .ref (am 2)) (C := RX4) (T := TX4) (N := 9) hx hb hts (q_sub wsX40 19 rfl) hown hE.K hP 0 rfl rfl 4 (by decide) (hts _ (List.mem_of_getElem? (i := 2) rfl)) (fun _ h9 => h9) rfl dX4_setStrength_33 ?_
      refine lv_iload_n hx hb dX4_setStrength_36 rfl (lv_at hl 1 rfl) ?_
      refine q_iald (v := nI (ssr z k)) hx hb hE (hP 2 _ rfl) (by omega) (by omega) dX4_setStrength_37 rfl ?_
      refine lv_istore_n (lv' := [(3, .int (nI (ssr z k))), (0, .ref (am 0)), (1, .int (nI k)), (2, .int (nI s_))]) hx hb dX4_setStrength_38 rfl hl (by decide) rfl (fun ls hl => ?_)
      refine lv_aload_n hx hb dX4_setStrength_39 rfl (lv_at hl 1 rfl) ?_
      refine va_get (v := .ref (am 2)) (C := RX4) (T := TX4) (N := 9) hx hb hts (q_sub wsX40 19 rfl) hown hE.K hP 0 rfl rfl 4 (by decide) (hts _ (List.mem_of_getElem? (i := 2) rfl)) (fun _ h9 => h9) rfl dX4_setStrength_40 ?_
      refine lv_iload_n hx hb dX4_setStrength_43 rfl (lv_at hl 2 rfl) ?_
      refine lv_iload_n hx hb dX4_setStrength_44 rfl (lv_at hl 3 rfl) ?_
      refine q_iast hx hb hE hP hD hS (q0 := 2) rfl (by omega) (by omega) dX4_setStrength_45 (fun H locs hP hD hS => ?_)
      have hP : va_P g.1 vwCl (wMo g am (nI 0) (sa) (zsr z k s_)) H := q_eqP wMo_2 hP
      have hD : va_D (va_A (wMo g am (th) (sa) (z)) s.heap.size) (wMo g am (nI 0) (sa) (zsr z k s_)) := q_eqD wMo_2 hD
      have hE := hE0.kept hS.2.1
      refine lv_iload_n hx hb dX4_setStrength_46 rfl (lv_at hl 0 rfl) ?_
      exact q_wiret (()) hx hb hr hlocks hP hD hS dX4_setStrength_47 rfl
    · exact absurd (inB_nI (by omega) (by omega) (by omega)) c_2
  · exact absurd (inR_nI hk_ (by omega)) c_1
set_option maxHeartbeats 4000000 in
set_option maxRecDepth 100000 in
theorem cn_X4_setStrength_1 {l : Launch} {g : gT} {sz : Nat} {am : Nat → Nat} {th : Int32} {sa : Nat → Int32} {z : sT} (hV : VS z) (hR : RS z sa) {x y : Int32} (hx_ : ¬ inR x (sn z)) : WR (S := Unit) l yX4_setStrength wsX4_setStrength ({ frames := 2, cells := 0, slots := 0, locals := 43 } : Room) [.ref (am 0), .int x, .int y] g (wMo g am (th) (sa) (z)) sz (fun _ : Unit => wMo g am (nI 1) (sa) (z)) (fun _ => some (.int (nI 0))) 0 0 := by
  refine WR.of (cc := cX4_setStrength) (maxL := 4) (ret := (some .int)) (by decide) rfl (Nat.le_of_ble_eq_true rfl) ?_
  intro p e s m below meth c hx hb hml hr hlocks hown hin0 hts hsz hE0 hP hD ls hl
  subst hsz
  have hown : s.vm.findClass RX4 = some m.cls := hown
  have hA : ∀ q, s.heap.size ≤ q → va_A (wMo g am (th) (sa) (z)) s.heap.size q := fun q h => Or.inr h
  have hE := hE0
  have hS : va_S (va_A (wMo g am (th) (sa) (z)) s.heap.size) s.heap s.heap [] := va_S.rf
  have hl : lv_has ls 4 [(0, .ref (am 0)), (1, .int x), (2, .int y)] := hl
  have hL := hV.L
  have hn := hV.n
  refine lv_aload_n hx hb dX4_setStrength_0 rfl (lv_at hl 0 rfl) ?_
  refine lv_iconst (v := nI 0) hx hb dX4_setStrength_1 (by decide) ?_
  refine va_put (D := g.1) (ci := 5) (v := .int (nI 0)) (ty := .int) (C := RX4) (T := TX4) (N := 9) hx hb hts (q_sub wsX40 19 rfl) tyX4 tyX4_ok nmX4 hown hE.K hP hD hS 0 rfl rfl 0 (by decide) (hts _ (List.mem_of_getElem? (i := 1) rfl)) (fun _ h9 => h9) rfl (by decide +kernel) rfl rfl (Nat.le_of_ble_eq_true rfl) dX4_setStrength_2 (fun H locs hP hD hS => ?_)
  have hP : va_P g.1 vwCl (wMo g am (nI 0) (sa) (z)) H := hP
  have hD : va_D (va_A (wMo g am (th) (sa) (z)) s.heap.size) (wMo g am (nI 0) (sa) (z)) := hD
  have hE := hE0.kept hS.2.1
  refine lv_aload_n hx hb dX4_setStrength_5 rfl (lv_at hl 0 rfl) ?_
  refine lv_iload_n hx hb dX4_setStrength_6 rfl (lv_at hl 1 rfl) ?_
  refine q_roV (As := [.int x]) (rest := []) ⟨hx, hb, hml, hown, hts⟩ (c_X4_isHill hV hR (x := x)) (cwV 1 hts gX4_setStrength_X4_isHill rfl rfl rfl (by decide +kernel) ⟨Nat.le_of_ble_eq_true rfl, Nat.le_of_ble_eq_true rfl⟩) hE (fun q h => hA q (Nat.le_trans hS.1 h)) hP (va_recv hE.K hP (ci := 5) (q0 := 0) rfl rfl) rfl hl.1 rfl (Nat.le_of_ble_eq_true rfl) dX4_setStrength_7 ⟨Nat.le_of_ble_eq_true rfl, Nat.le_of_ble_eq_true rfl⟩ ?_
  refine q_ifb_ne (tgt := 19) hx hb dX4_setStrength_10 (by decide) (fun c_1 => ?_) (fun c_1 => ?_)
  · exact absurd c_1 (hx_)
  · refine lv_aload_n hx hb dX4_setStrength_13 rfl (lv_at hl 0 rfl) ?_
    refine lv_iconst (v := nI 1) hx hb dX4_setStrength_14 (by decide) ?_
    refine q_wrV (wr := []) (As := [.int (nI 1)]) (rest := []) ⟨hx, hb, hml, hown, hts⟩ (c_X4_no (th := nI 0) (x := nI 1) hV hR) (cwV 1 hts gX4_setStrength_X4_no rfl rfl rfl (by decide +kernel) ⟨Nat.le_of_ble_eq_true rfl, Nat.le_of_ble_eq_true rfl⟩) hE hP hD hS hA (va_recv hE.K hP (ci := 5) (q0 := 0) rfl rfl) rfl hl.1 rfl (Nat.le_of_ble_eq_true rfl) dX4_setStrength_15 ⟨Nat.le_of_ble_eq_true rfl, Nat.le_of_ble_eq_true rfl⟩ (fun _u H locs hP hD hS hE => ?_)
    have hP : va_P g.1 vwCl (wMo g am (nI 1) (sa) (z)) H := hP
    have hD : va_D (va_A (wMo g am (th) (sa) (z)) s.heap.size) (wMo g am (nI 1) (sa) (z)) := hD
    exact q_wiret (()) hx hb hr hlocks hP hD hS dX4_setStrength_18 rfl
set_option maxHeartbeats 4000000 in
set_option maxRecDepth 100000 in
theorem cn_X4_setStrength_2 {l : Launch} {g : gT} {sz : Nat} {am : Nat → Nat} {th : Int32} {sa : Nat → Int32} {z : sT} (hV : VS z) (hR : RS z sa) {k : Nat} {x : Int32} (hk_ : k < sn z) (hx_ : ¬ inB x 1 9) : WR (S := Unit) l yX4_setStrength wsX4_setStrength ({ frames := 2, cells := 0, slots := 0, locals := 43 } : Room) [.ref (am 0), .int (nI k), .int x] g (wMo g am (th) (sa) (z)) sz (fun _ : Unit => wMo g am (nI 2) (sa) (z)) (fun _ => some (.int (nI 0))) 0 0 := by
  refine WR.of (cc := cX4_setStrength) (maxL := 4) (ret := (some .int)) (by decide) rfl (Nat.le_of_ble_eq_true rfl) ?_
  intro p e s m below meth c hx hb hml hr hlocks hown hin0 hts hsz hE0 hP hD ls hl
  subst hsz
  have hown : s.vm.findClass RX4 = some m.cls := hown
  have hA : ∀ q, s.heap.size ≤ q → va_A (wMo g am (th) (sa) (z)) s.heap.size q := fun q h => Or.inr h
  have hE := hE0
  have hS : va_S (va_A (wMo g am (th) (sa) (z)) s.heap.size) s.heap s.heap [] := va_S.rf
  have hl : lv_has ls 4 [(0, .ref (am 0)), (1, .int (nI k)), (2, .int x)] := hl
  have hL := hV.L
  have hn := hV.n
  have hb9 := hV.h hk_
  refine lv_aload_n hx hb dX4_setStrength_0 rfl (lv_at hl 0 rfl) ?_
  refine lv_iconst (v := nI 0) hx hb dX4_setStrength_1 (by decide) ?_
  refine va_put (D := g.1) (ci := 5) (v := .int (nI 0)) (ty := .int) (C := RX4) (T := TX4) (N := 9) hx hb hts (q_sub wsX40 19 rfl) tyX4 tyX4_ok nmX4 hown hE.K hP hD hS 0 rfl rfl 0 (by decide) (hts _ (List.mem_of_getElem? (i := 1) rfl)) (fun _ h9 => h9) rfl (by decide +kernel) rfl rfl (Nat.le_of_ble_eq_true rfl) dX4_setStrength_2 (fun H locs hP hD hS => ?_)
  have hP : va_P g.1 vwCl (wMo g am (nI 0) (sa) (z)) H := hP
  have hD : va_D (va_A (wMo g am (th) (sa) (z)) s.heap.size) (wMo g am (nI 0) (sa) (z)) := hD
  have hE := hE0.kept hS.2.1
  refine lv_aload_n hx hb dX4_setStrength_5 rfl (lv_at hl 0 rfl) ?_
  refine lv_iload_n hx hb dX4_setStrength_6 rfl (lv_at hl 1 rfl) ?_
  refine q_roV (As := [.int (nI k)]) (rest := []) ⟨hx, hb, hml, hown, hts⟩ (c_X4_isHill hV hR (x := nI k)) (cwV 1 hts gX4_setStrength_X4_isHill rfl rfl rfl (by decide +kernel) ⟨Nat.le_of_ble_eq_true rfl, Nat.le_of_ble_eq_true rfl⟩) hE (fun q h => hA q (Nat.le_trans hS.1 h)) hP (va_recv hE.K hP (ci := 5) (q0 := 0) rfl rfl) rfl hl.1 rfl (Nat.le_of_ble_eq_true rfl) dX4_setStrength_7 ⟨Nat.le_of_ble_eq_true rfl, Nat.le_of_ble_eq_true rfl⟩ ?_
  refine q_ifb_ne (tgt := 19) hx hb dX4_setStrength_10 (by decide) (fun c_1 => ?_) (fun c_1 => ?_)
  · refine lv_iload_n hx hb dX4_setStrength_19 rfl (lv_at hl 2 rfl) ?_
    refine q_roS (As := [.int x]) (rest := []) ⟨hx, hb, hml, hown, hts⟩ (c_X4_isStrength (x := x)) (va_cwS 1 hts gX4_setStrength_X4_isStrength rfl rfl rfl (by decide +kernel) ⟨Nat.le_of_ble_eq_true rfl, Nat.le_of_ble_eq_true rfl⟩) hE (fun q h => hA q (Nat.le_trans hS.1 h)) trivial rfl hl.1 rfl (Nat.le_of_ble_eq_true rfl) dX4_setStrength_20 ⟨Nat.le_of_ble_eq_true rfl, Nat.le_of_ble_eq_true rfl⟩ ?_
    refine q_ifb_ne (tgt := 32) hx hb dX4_setStrength_23 (by decide) (fun c_2 => ?_) (fun c_2 => ?_)
    · exact absurd c_2 (hx_)
    · refine lv_aload_n hx hb dX4_setStrength_26 rfl (lv_at hl 0 rfl) ?_
      refine lv_iconst (v := nI 2) hx hb dX4_setStrength_27 (by decide) ?_
      refine q_wrV (wr := []) (As := [.int (nI 2)]) (rest := []) ⟨hx, hb, hml, hown, hts⟩ (c_X4_no (th := nI 0) (x := nI 2) hV hR) (cwV 1 hts gX4_setStrength_X4_no rfl rfl rfl (by decide +kernel) ⟨Nat.le_of_ble_eq_true rfl, Nat.le_of_ble_eq_true rfl⟩) hE hP hD hS hA (va_recv hE.K hP (ci := 5) (q0 := 0) rfl rfl) rfl hl.1 rfl (Nat.le_of_ble_eq_true rfl) dX4_setStrength_28 ⟨Nat.le_of_ble_eq_true rfl, Nat.le_of_ble_eq_true rfl⟩ (fun _u H locs hP hD hS hE => ?_)
      have hP : va_P g.1 vwCl (wMo g am (nI 2) (sa) (z)) H := hP
      have hD : va_D (va_A (wMo g am (th) (sa) (z)) s.heap.size) (wMo g am (nI 2) (sa) (z)) := hD
      exact q_wiret (()) hx hb hr hlocks hP hD hS dX4_setStrength_31 rfl
  · exact absurd (inR_nI hk_ (by omega)) c_1
set_option maxHeartbeats 4000000 in
set_option maxRecDepth 100000 in
theorem c_X4_setStorm {l : Launch} {g : gT} {sz : Nat} {am : Nat → Nat} {th : Int32} {sa : Nat → Int32} {z : sT} (hV : VS z) (hR : RS z sa) {p_ : Nat} {v : Int32} (hp_ : p_ < 20) (hv : inB v (-99) 99) : WR (S := Unit) l yX4_setStorm wsX4_setStorm ({ frames := 1, cells := 0, slots := 0, locals := 22 } : Room) [.ref (am 0), .int (nI p_), .int v] g (wMo g am (th) (sa) (z)) sz (fun _ : Unit => wMo g am (nI 0) (sa) (zst z p_ v)) (fun _ => some (.int (sst z p_))) 0 0 := by
  refine WR.of (cc := cX4_setStorm) (maxL := 4) (ret := (some .int)) (by decide) rfl (Nat.le_of_ble_eq_true rfl) ?_
  intro p e s m below meth c hx hb hml hr hlocks hown hin0 hts hsz hE0 hP hD ls hl
  subst hsz
  have hown : s.vm.findClass RX4 = some m.cls := hown
  have hA : ∀ q, s.heap.size ≤ q → va_A (wMo g am (th) (sa) (z)) s.heap.size q := fun q h => Or.inr h
  have hE := hE0
  have hS : va_S (va_A (wMo g am (th) (sa) (z)) s.heap.size) s.heap s.heap [] := va_S.rf
  have hl : lv_has ls 4 [(0, .ref (am 0)), (1, .int (nI p_)), (2, .int v)] := hl
  have hL := hV.L
  have hn := hV.n
  have e9_ : (-99 : Int32).toInt = -99 := rfl
  have f9_ : (nI 99).toInt = 99 := rfl
  refine lv_aload_n hx hb dX4_setStorm_0 rfl (lv_at hl 0 rfl) ?_
  refine lv_iconst (v := nI 0) hx hb dX4_setStorm_1 (by decide) ?_
  refine va_put (D := g.1) (ci := 5) (v := .int (nI 0)) (ty := .int) (C := RX4) (T := TX4) (N := 9) hx hb hts (q_sub wsX40 11 rfl) tyX4 tyX4_ok nmX4 hown hE.K hP hD hS 0 rfl rfl 0 (by decide) (hts _ (List.mem_of_getElem? (i := 1) rfl)) (fun _ h9 => h9) rfl (by decide +kernel) rfl rfl (Nat.le_of_ble_eq_true rfl) dX4_setStorm_2 (fun H locs hP hD hS => ?_)
  have hP : va_P g.1 vwCl (wMo g am (nI 0) (sa) (z)) H := hP
  have hD : va_D (va_A (wMo g am (th) (sa) (z)) s.heap.size) (wMo g am (nI 0) (sa) (z)) := hD
  have hE := hE0.kept hS.2.1
  refine lv_iload_n hx hb dX4_setStorm_5 rfl (lv_at hl 1 rfl) ?_
  refine lv_iconst (v := nI 0) hx hb dX4_setStorm_6 (by decide) ?_
  refine lv_bipush (v := nI 19) hx hb dX4_setStorm_7 (by decide) ?_
  refine q_roS (As := [.int (nI p_), .int (nI 0), .int (nI 19)]) (rest := []) ⟨hx, hb, hml, hown, hts⟩ (c_X4_isIn (x := nI p_) (lo := nI 0) (hi := nI 19)) (va_cwS 3 hts gX4_setStorm_X4_isIn rfl rfl rfl (by decide +kernel) ⟨Nat.le_of_ble_eq_true rfl, Nat.le_of_ble_eq_true rfl⟩) hE (fun q h => hA q (Nat.le_trans hS.1 h)) trivial rfl hl.1 rfl (Nat.le_of_ble_eq_true rfl) dX4_setStorm_9 ⟨Nat.le_of_ble_eq_true rfl, Nat.le_of_ble_eq_true rfl⟩ ?_
  refine q_ifb_ne (tgt := 21) hx hb dX4_setStorm_12 (by decide) (fun c_1 => ?_) (fun c_1 => ?_)
  · refine lv_iload_n hx hb dX4_setStorm_21 rfl (lv_at hl 2 rfl) ?_
    refine lv_bipush (v := (-99 : Int32)) hx hb dX4_setStorm_22 (by decide) ?_
    refine lv_bipush (v := nI 99) hx hb dX4_setStorm_24 (by decide) ?_
    refine q_roS (As := [.int v, .int (-99 : Int32), .int (nI 99)]) (rest := []) ⟨hx, hb, hml, hown, hts⟩ (c_X4_isIn (x := v) (lo := (-99 : Int32)) (hi := nI 99)) (va_cwS 3 hts gX4_setStorm_X4_isIn rfl rfl rfl (by decide +kernel) ⟨Nat.le_of_ble_eq_true rfl, Nat.le_of_ble_eq_true rfl⟩) hE (fun q h => hA q (Nat.le_trans hS.1 h)) trivial rfl hl.1 rfl (Nat.le_of_ble_eq_true rfl) dX4_setStorm_26 ⟨Nat.le_of_ble_eq_true rfl, Nat.le_of_ble_eq_true rfl⟩ ?_
    refine q_ifb_ne (tgt := 38) hx hb dX4_setStorm_29 (by decide) (fun c_2 => ?_) (fun c_2 => ?_)
    · refine lv_aload_n hx hb dX4_setStorm_38 rfl (lv_at hl 0 rfl) ?_
      refine va_get (v := .ref (am 6)) (C := RX4) (T := TX4) (N := 9) hx hb hts (q_sub wsX40 11 rfl) hown hE.K hP 0 rfl rfl 8 (by decide) (hts _ (List.mem_of_getElem? (i := 2) rfl)) (fun _ h9 => h9) rfl dX4_setStorm_39 ?_
      refine lv_iload_n hx hb dX4_setStorm_42 rfl (lv_at hl 1 rfl) ?_
      refine q_iald (v := (sst z) p_) hx hb hE (hP 6 _ rfl) (by omega) (by omega) dX4_setStorm_43 rfl ?_
      refine lv_istore_n (lv' := [(3, .int ((sst z) p_)), (0, .ref (am 0)), (1, .int (nI p_)), (2, .int v)]) hx hb dX4_setStorm_44 rfl hl (by decide) rfl (fun ls hl => ?_)
      refine lv_aload_n hx hb dX4_setStorm_45 rfl (lv_at hl 1 rfl) ?_
      refine va_get (v := .ref (am 6)) (C := RX4) (T := TX4) (N := 9) hx hb hts (q_sub wsX40 11 rfl) hown hE.K hP 0 rfl rfl 8 (by decide) (hts _ (List.mem_of_getElem? (i := 2) rfl)) (fun _ h9 => h9) rfl dX4_setStorm_46 ?_
      refine lv_iload_n hx hb dX4_setStorm_49 rfl (lv_at hl 2 rfl) ?_
      refine lv_iload_n hx hb dX4_setStorm_50 rfl (lv_at hl 3 rfl) ?_
      refine q_iast hx hb hE hP hD hS (q0 := 6) rfl (by omega) (by omega) dX4_setStorm_51 (fun H locs hP hD hS => ?_)
      have hP : va_P g.1 vwCl (wMo g am (nI 0) (sa) (zst z p_ v)) H := hP
      have hD : va_D (va_A (wMo g am (th) (sa) (z)) s.heap.size) (wMo g am (nI 0) (sa) (zst z p_ v)) := hD
      have hE := hE0.kept hS.2.1
      refine lv_iload_n hx hb dX4_setStorm_52 rfl (lv_at hl 0 rfl) ?_
      exact q_wiret (()) hx hb hr hlocks hP hD hS dX4_setStorm_53 rfl
    · exact absurd (by rw [e9_, f9_]; exact hv) c_2
  · exact absurd (by rw [nI_toInt (by omega), nI_toInt (by omega), nI_toInt (by omega)]; omega) c_1
set_option maxHeartbeats 4000000 in
set_option maxRecDepth 100000 in
theorem cn_X4_setStorm_1 {l : Launch} {g : gT} {sz : Nat} {am : Nat → Nat} {th : Int32} {sa : Nat → Int32} {z : sT} (hV : VS z) (hR : RS z sa) {x y : Int32} (hx_ : ¬ inR x (20)) : WR (S := Unit) l yX4_setStorm wsX4_setStorm ({ frames := 1, cells := 0, slots := 0, locals := 22 } : Room) [.ref (am 0), .int x, .int y] g (wMo g am (th) (sa) (z)) sz (fun _ : Unit => wMo g am (nI 1) (sa) (z)) (fun _ => some (.int (nI 0))) 0 0 := by
  refine WR.of (cc := cX4_setStorm) (maxL := 4) (ret := (some .int)) (by decide) rfl (Nat.le_of_ble_eq_true rfl) ?_
  intro p e s m below meth c hx hb hml hr hlocks hown hin0 hts hsz hE0 hP hD ls hl
  subst hsz
  have hown : s.vm.findClass RX4 = some m.cls := hown
  have hA : ∀ q, s.heap.size ≤ q → va_A (wMo g am (th) (sa) (z)) s.heap.size q := fun q h => Or.inr h
  have hE := hE0
  have hS : va_S (va_A (wMo g am (th) (sa) (z)) s.heap.size) s.heap s.heap [] := va_S.rf
  have hl : lv_has ls 4 [(0, .ref (am 0)), (1, .int x), (2, .int y)] := hl
  have hL := hV.L
  have hn := hV.n
  have hx_ : ¬ (0 ≤ x.toInt ∧ x.toInt < ((20 : Nat) : Int)) := hx_
  have e0_ : (nI 0).toInt = 0 := rfl
  have e4_ : (nI 19).toInt = 19 := rfl
  refine lv_aload_n hx hb dX4_setStorm_0 rfl (lv_at hl 0 rfl) ?_
  refine lv_iconst (v := nI 0) hx hb dX4_setStorm_1 (by decide) ?_
  refine va_put (D := g.1) (ci := 5) (v := .int (nI 0)) (ty := .int) (C := RX4) (T := TX4) (N := 9) hx hb hts (q_sub wsX40 11 rfl) tyX4 tyX4_ok nmX4 hown hE.K hP hD hS 0 rfl rfl 0 (by decide) (hts _ (List.mem_of_getElem? (i := 1) rfl)) (fun _ h9 => h9) rfl (by decide +kernel) rfl rfl (Nat.le_of_ble_eq_true rfl) dX4_setStorm_2 (fun H locs hP hD hS => ?_)
  have hP : va_P g.1 vwCl (wMo g am (nI 0) (sa) (z)) H := hP
  have hD : va_D (va_A (wMo g am (th) (sa) (z)) s.heap.size) (wMo g am (nI 0) (sa) (z)) := hD
  have hE := hE0.kept hS.2.1
  refine lv_iload_n hx hb dX4_setStorm_5 rfl (lv_at hl 1 rfl) ?_
  refine lv_iconst (v := nI 0) hx hb dX4_setStorm_6 (by decide) ?_
  refine lv_bipush (v := nI 19) hx hb dX4_setStorm_7 (by decide) ?_
  refine q_roS (As := [.int x, .int (nI 0), .int (nI 19)]) (rest := []) ⟨hx, hb, hml, hown, hts⟩ (c_X4_isIn (x := x) (lo := nI 0) (hi := nI 19)) (va_cwS 3 hts gX4_setStorm_X4_isIn rfl rfl rfl (by decide +kernel) ⟨Nat.le_of_ble_eq_true rfl, Nat.le_of_ble_eq_true rfl⟩) hE (fun q h => hA q (Nat.le_trans hS.1 h)) trivial rfl hl.1 rfl (Nat.le_of_ble_eq_true rfl) dX4_setStorm_9 ⟨Nat.le_of_ble_eq_true rfl, Nat.le_of_ble_eq_true rfl⟩ ?_
  refine q_ifb_ne (tgt := 21) hx hb dX4_setStorm_12 (by decide) (fun c_1 => ?_) (fun c_1 => ?_)
  · exact absurd c_1 (by rw [e0_, e4_]; omega)
  · refine lv_aload_n hx hb dX4_setStorm_15 rfl (lv_at hl 0 rfl) ?_
    refine lv_iconst (v := nI 1) hx hb dX4_setStorm_16 (by decide) ?_
    refine q_wrV (wr := []) (As := [.int (nI 1)]) (rest := []) ⟨hx, hb, hml, hown, hts⟩ (c_X4_no (th := nI 0) (x := nI 1) hV hR) (cwV 1 hts gX4_setStorm_X4_no rfl rfl rfl (by decide +kernel) ⟨Nat.le_of_ble_eq_true rfl, Nat.le_of_ble_eq_true rfl⟩) hE hP hD hS hA (va_recv hE.K hP (ci := 5) (q0 := 0) rfl rfl) rfl hl.1 rfl (Nat.le_of_ble_eq_true rfl) dX4_setStorm_17 ⟨Nat.le_of_ble_eq_true rfl, Nat.le_of_ble_eq_true rfl⟩ (fun _u H locs hP hD hS hE => ?_)
    have hP : va_P g.1 vwCl (wMo g am (nI 1) (sa) (z)) H := hP
    have hD : va_D (va_A (wMo g am (th) (sa) (z)) s.heap.size) (wMo g am (nI 1) (sa) (z)) := hD
    exact q_wiret (()) hx hb hr hlocks hP hD hS dX4_setStorm_20 rfl
set_option maxHeartbeats 4000000 in
set_option maxRecDepth 100000 in
theorem cn_X4_setStorm_2 {l : Launch} {g : gT} {sz : Nat} {am : Nat → Nat} {th : Int32} {sa : Nat → Int32} {z : sT} (hV : VS z) (hR : RS z sa) {p_ : Nat} {x : Int32} (hp_ : p_ < 20) (hx_ : ¬ inB x (-99) 99) : WR (S := Unit) l yX4_setStorm wsX4_setStorm ({ frames := 1, cells := 0, slots := 0, locals := 22 } : Room) [.ref (am 0), .int (nI p_), .int x] g (wMo g am (th) (sa) (z)) sz (fun _ : Unit => wMo g am (nI 2) (sa) (z)) (fun _ => some (.int (nI 0))) 0 0 := by
  refine WR.of (cc := cX4_setStorm) (maxL := 4) (ret := (some .int)) (by decide) rfl (Nat.le_of_ble_eq_true rfl) ?_
  intro p e s m below meth c hx hb hml hr hlocks hown hin0 hts hsz hE0 hP hD ls hl
  subst hsz
  have hown : s.vm.findClass RX4 = some m.cls := hown
  have hA : ∀ q, s.heap.size ≤ q → va_A (wMo g am (th) (sa) (z)) s.heap.size q := fun q h => Or.inr h
  have hE := hE0
  have hS : va_S (va_A (wMo g am (th) (sa) (z)) s.heap.size) s.heap s.heap [] := va_S.rf
  have hl : lv_has ls 4 [(0, .ref (am 0)), (1, .int (nI p_)), (2, .int x)] := hl
  have hL := hV.L
  have hn := hV.n
  have e9_ : (-99 : Int32).toInt = -99 := rfl
  have f9_ : (nI 99).toInt = 99 := rfl
  refine lv_aload_n hx hb dX4_setStorm_0 rfl (lv_at hl 0 rfl) ?_
  refine lv_iconst (v := nI 0) hx hb dX4_setStorm_1 (by decide) ?_
  refine va_put (D := g.1) (ci := 5) (v := .int (nI 0)) (ty := .int) (C := RX4) (T := TX4) (N := 9) hx hb hts (q_sub wsX40 11 rfl) tyX4 tyX4_ok nmX4 hown hE.K hP hD hS 0 rfl rfl 0 (by decide) (hts _ (List.mem_of_getElem? (i := 1) rfl)) (fun _ h9 => h9) rfl (by decide +kernel) rfl rfl (Nat.le_of_ble_eq_true rfl) dX4_setStorm_2 (fun H locs hP hD hS => ?_)
  have hP : va_P g.1 vwCl (wMo g am (nI 0) (sa) (z)) H := hP
  have hD : va_D (va_A (wMo g am (th) (sa) (z)) s.heap.size) (wMo g am (nI 0) (sa) (z)) := hD
  have hE := hE0.kept hS.2.1
  refine lv_iload_n hx hb dX4_setStorm_5 rfl (lv_at hl 1 rfl) ?_
  refine lv_iconst (v := nI 0) hx hb dX4_setStorm_6 (by decide) ?_
  refine lv_bipush (v := nI 19) hx hb dX4_setStorm_7 (by decide) ?_
  refine q_roS (As := [.int (nI p_), .int (nI 0), .int (nI 19)]) (rest := []) ⟨hx, hb, hml, hown, hts⟩ (c_X4_isIn (x := nI p_) (lo := nI 0) (hi := nI 19)) (va_cwS 3 hts gX4_setStorm_X4_isIn rfl rfl rfl (by decide +kernel) ⟨Nat.le_of_ble_eq_true rfl, Nat.le_of_ble_eq_true rfl⟩) hE (fun q h => hA q (Nat.le_trans hS.1 h)) trivial rfl hl.1 rfl (Nat.le_of_ble_eq_true rfl) dX4_setStorm_9 ⟨Nat.le_of_ble_eq_true rfl, Nat.le_of_ble_eq_true rfl⟩ ?_
  refine q_ifb_ne (tgt := 21) hx hb dX4_setStorm_12 (by decide) (fun c_1 => ?_) (fun c_1 => ?_)
  · refine lv_iload_n hx hb dX4_setStorm_21 rfl (lv_at hl 2 rfl) ?_
    refine lv_bipush (v := (-99 : Int32)) hx hb dX4_setStorm_22 (by decide) ?_
    refine lv_bipush (v := nI 99) hx hb dX4_setStorm_24 (by decide) ?_
    refine q_roS (As := [.int x, .int (-99 : Int32), .int (nI 99)]) (rest := []) ⟨hx, hb, hml, hown, hts⟩ (c_X4_isIn (x := x) (lo := (-99 : Int32)) (hi := nI 99)) (va_cwS 3 hts gX4_setStorm_X4_isIn rfl rfl rfl (by decide +kernel) ⟨Nat.le_of_ble_eq_true rfl, Nat.le_of_ble_eq_true rfl⟩) hE (fun q h => hA q (Nat.le_trans hS.1 h)) trivial rfl hl.1 rfl (Nat.le_of_ble_eq_true rfl) dX4_setStorm_26 ⟨Nat.le_of_ble_eq_true rfl, Nat.le_of_ble_eq_true rfl⟩ ?_
    refine q_ifb_ne (tgt := 38) hx hb dX4_setStorm_29 (by decide) (fun c_2 => ?_) (fun c_2 => ?_)
    · exact absurd c_2 (by rw [e9_, f9_]; exact hx_)
    · refine lv_aload_n hx hb dX4_setStorm_32 rfl (lv_at hl 0 rfl) ?_
      refine lv_iconst (v := nI 2) hx hb dX4_setStorm_33 (by decide) ?_
      refine q_wrV (wr := []) (As := [.int (nI 2)]) (rest := []) ⟨hx, hb, hml, hown, hts⟩ (c_X4_no (th := nI 0) (x := nI 2) hV hR) (cwV 1 hts gX4_setStorm_X4_no rfl rfl rfl (by decide +kernel) ⟨Nat.le_of_ble_eq_true rfl, Nat.le_of_ble_eq_true rfl⟩) hE hP hD hS hA (va_recv hE.K hP (ci := 5) (q0 := 0) rfl rfl) rfl hl.1 rfl (Nat.le_of_ble_eq_true rfl) dX4_setStorm_34 ⟨Nat.le_of_ble_eq_true rfl, Nat.le_of_ble_eq_true rfl⟩ (fun _u H locs hP hD hS hE => ?_)
      have hP : va_P g.1 vwCl (wMo g am (nI 2) (sa) (z)) H := hP
      have hD : va_D (va_A (wMo g am (th) (sa) (z)) s.heap.size) (wMo g am (nI 2) (sa) (z)) := hD
      exact q_wiret (()) hx hb hr hlocks hP hD hS dX4_setStorm_37 rfl
  · exact absurd (by rw [nI_toInt (by omega), nI_toInt (by omega), nI_toInt (by omega)]; omega) c_1
set_option maxHeartbeats 4000000 in
set_option maxRecDepth 100000 in
theorem c_X4_chip {l : Launch} {g : gT} {sz : Nat} {am : Nat → Nat} {th : Int32} {sa : Nat → Int32} {z : sT} (hV : VS z) (hR : RS z sa) {a b : Nat} (ha_ : a < sL z) (hb_ : b < sL z) : WR (S := Unit) l yX4_chip wsX4_chip ({ frames := 2, cells := 0, slots := 0, locals := 43 } : Room) [.ref (am 0), .int (nI a), .int (nI b)] g (wMo g am (th) (sa) (z)) sz (fun _ : Unit => wMo g am (nI 0) (sa) (z)) (fun _ => some (.int (chip a b))) 0 0 := by
  refine WR.of (cc := cX4_chip) (maxL := 3) (ret := (some .int)) (by decide) rfl (Nat.le_of_ble_eq_true rfl) ?_
  intro p e s m below meth c hx hb hml hr hlocks hown hin0 hts hsz hE0 hP hD ls hl
  subst hsz
  have hown : s.vm.findClass RX4 = some m.cls := hown
  have hA : ∀ q, s.heap.size ≤ q → va_A (wMo g am (th) (sa) (z)) s.heap.size q := fun q h => Or.inr h
  have hE := hE0
  have hS : va_S (va_A (wMo g am (th) (sa) (z)) s.heap.size) s.heap s.heap [] := va_S.rf
  have hl : lv_has ls 3 [(0, .ref (am 0)), (1, .int (nI a)), (2, .int (nI b))] := hl
  have hL := hV.L
  have hn := hV.n
  refine lv_aload_n hx hb dX4_chip_0 rfl (lv_at hl 0 rfl) ?_
  refine lv_iconst (v := nI 0) hx hb dX4_chip_1 (by decide) ?_
  refine va_put (D := g.1) (ci := 5) (v := .int (nI 0)) (ty := .int) (C := RX4) (T := TX4) (N := 9) hx hb hts (q_sub wsX40 25 rfl) tyX4 tyX4_ok nmX4 hown hE.K hP hD hS 0 rfl rfl 0 (by decide) (hts _ (List.mem_of_getElem? (i := 1) rfl)) (fun _ h9 => h9) rfl (by decide +kernel) rfl rfl (Nat.le_of_ble_eq_true rfl) dX4_chip_2 (fun H locs hP hD hS => ?_)
  have hP : va_P g.1 vwCl (wMo g am (nI 0) (sa) (z)) H := hP
  have hD : va_D (va_A (wMo g am (th) (sa) (z)) s.heap.size) (wMo g am (nI 0) (sa) (z)) := hD
  have hE := hE0.kept hS.2.1
  refine lv_aload_n hx hb dX4_chip_5 rfl (lv_at hl 0 rfl) ?_
  refine lv_iload_n hx hb dX4_chip_6 rfl (lv_at hl 1 rfl) ?_
  refine q_roV (As := [.int (nI a)]) (rest := []) ⟨hx, hb, hml, hown, hts⟩ (c_X4_isCode hV hR (x := nI a)) (cwV 1 hts gX4_chip_X4_isCode rfl rfl rfl (by decide +kernel) ⟨Nat.le_of_ble_eq_true rfl, Nat.le_of_ble_eq_true rfl⟩) hE (fun q h => hA q (Nat.le_trans hS.1 h)) hP (va_recv hE.K hP (ci := 5) (q0 := 0) rfl rfl) rfl hl.1 rfl (Nat.le_of_ble_eq_true rfl) dX4_chip_7 ⟨Nat.le_of_ble_eq_true rfl, Nat.le_of_ble_eq_true rfl⟩ ?_
  refine q_ifb_eq (tgt := 29) hx hb dX4_chip_10 (by decide) (fun c_1 => ?_) (fun c_1 => ?_)
  · exact absurd (inR_nI ha_ (by omega)) c_1
  · refine lv_aload_n hx hb dX4_chip_13 rfl (lv_at hl 0 rfl) ?_
    refine lv_iload_n hx hb dX4_chip_14 rfl (lv_at hl 2 rfl) ?_
    refine q_roV (As := [.int (nI b)]) (rest := []) ⟨hx, hb, hml, hown, hts⟩ (c_X4_isCode hV hR (x := nI b)) (cwV 1 hts gX4_chip_X4_isCode rfl rfl rfl (by decide +kernel) ⟨Nat.le_of_ble_eq_true rfl, Nat.le_of_ble_eq_true rfl⟩) hE (fun q h => hA q (Nat.le_trans hS.1 h)) hP (va_recv hE.K hP (ci := 5) (q0 := 0) rfl rfl) rfl hl.1 rfl (Nat.le_of_ble_eq_true rfl) dX4_chip_15 ⟨Nat.le_of_ble_eq_true rfl, Nat.le_of_ble_eq_true rfl⟩ ?_
    refine q_ifb_eq (tgt := 29) hx hb dX4_chip_18 (by decide) (fun c_2 => ?_) (fun c_2 => ?_)
    · exact absurd (inR_nI hb_ (by omega)) c_2
    · refine lv_iload_n hx hb dX4_chip_21 rfl (lv_at hl 1 rfl) ?_
      refine lv_iload_n hx hb dX4_chip_22 rfl (lv_at hl 2 rfl) ?_
      refine q_roS (As := [.int (nI a), .int (nI b)]) (rest := []) ⟨hx, hb, hml, hown, hts⟩ (c_X4_chipOf (a := a) (b := b) (by omega)) (va_cwS 2 hts gX4_chip_X4_chipOf rfl rfl rfl (by decide +kernel) ⟨Nat.le_of_ble_eq_true rfl, Nat.le_of_ble_eq_true rfl⟩) hE (fun q h => hA q (Nat.le_trans hS.1 h)) trivial rfl hl.1 rfl (Nat.le_of_ble_eq_true rfl) dX4_chip_23 ⟨Nat.le_of_ble_eq_true rfl, Nat.le_of_ble_eq_true rfl⟩ ?_
      refine lv_goto (tgt := 34) hx hb dX4_chip_26 (by decide) ?_
      exact q_wiret (()) hx hb hr hlocks hP hD hS dX4_chip_34 rfl
set_option maxHeartbeats 4000000 in
set_option maxRecDepth 100000 in
theorem cn_X4_chip_1 {l : Launch} {g : gT} {sz : Nat} {am : Nat → Nat} {th : Int32} {sa : Nat → Int32} {z : sT} (hV : VS z) (hR : RS z sa) {x y : Int32} (hx_ : ¬ inR x (sL z)) : WR (S := Unit) l yX4_chip wsX4_chip ({ frames := 2, cells := 0, slots := 0, locals := 43 } : Room) [.ref (am 0), .int x, .int y] g (wMo g am (th) (sa) (z)) sz (fun _ : Unit => wMo g am (nI 1) (sa) (z)) (fun _ => some (.int (nI 0))) 0 0 := by
  refine WR.of (cc := cX4_chip) (maxL := 3) (ret := (some .int)) (by decide) rfl (Nat.le_of_ble_eq_true rfl) ?_
  intro p e s m below meth c hx hb hml hr hlocks hown hin0 hts hsz hE0 hP hD ls hl
  subst hsz
  have hown : s.vm.findClass RX4 = some m.cls := hown
  have hA : ∀ q, s.heap.size ≤ q → va_A (wMo g am (th) (sa) (z)) s.heap.size q := fun q h => Or.inr h
  have hE := hE0
  have hS : va_S (va_A (wMo g am (th) (sa) (z)) s.heap.size) s.heap s.heap [] := va_S.rf
  have hl : lv_has ls 3 [(0, .ref (am 0)), (1, .int x), (2, .int y)] := hl
  have hL := hV.L
  have hn := hV.n
  refine lv_aload_n hx hb dX4_chip_0 rfl (lv_at hl 0 rfl) ?_
  refine lv_iconst (v := nI 0) hx hb dX4_chip_1 (by decide) ?_
  refine va_put (D := g.1) (ci := 5) (v := .int (nI 0)) (ty := .int) (C := RX4) (T := TX4) (N := 9) hx hb hts (q_sub wsX40 25 rfl) tyX4 tyX4_ok nmX4 hown hE.K hP hD hS 0 rfl rfl 0 (by decide) (hts _ (List.mem_of_getElem? (i := 1) rfl)) (fun _ h9 => h9) rfl (by decide +kernel) rfl rfl (Nat.le_of_ble_eq_true rfl) dX4_chip_2 (fun H locs hP hD hS => ?_)
  have hP : va_P g.1 vwCl (wMo g am (nI 0) (sa) (z)) H := hP
  have hD : va_D (va_A (wMo g am (th) (sa) (z)) s.heap.size) (wMo g am (nI 0) (sa) (z)) := hD
  have hE := hE0.kept hS.2.1
  refine lv_aload_n hx hb dX4_chip_5 rfl (lv_at hl 0 rfl) ?_
  refine lv_iload_n hx hb dX4_chip_6 rfl (lv_at hl 1 rfl) ?_
  refine q_roV (As := [.int x]) (rest := []) ⟨hx, hb, hml, hown, hts⟩ (c_X4_isCode hV hR (x := x)) (cwV 1 hts gX4_chip_X4_isCode rfl rfl rfl (by decide +kernel) ⟨Nat.le_of_ble_eq_true rfl, Nat.le_of_ble_eq_true rfl⟩) hE (fun q h => hA q (Nat.le_trans hS.1 h)) hP (va_recv hE.K hP (ci := 5) (q0 := 0) rfl rfl) rfl hl.1 rfl (Nat.le_of_ble_eq_true rfl) dX4_chip_7 ⟨Nat.le_of_ble_eq_true rfl, Nat.le_of_ble_eq_true rfl⟩ ?_
  refine q_ifb_eq (tgt := 29) hx hb dX4_chip_10 (by decide) (fun c_1 => ?_) (fun c_1 => ?_)
  · refine lv_aload_n hx hb dX4_chip_29 rfl (lv_at hl 0 rfl) ?_
    refine lv_iconst (v := nI 1) hx hb dX4_chip_30 (by decide) ?_
    refine q_wrV (wr := []) (As := [.int (nI 1)]) (rest := []) ⟨hx, hb, hml, hown, hts⟩ (c_X4_no (th := nI 0) (x := nI 1) hV hR) (cwV 1 hts gX4_chip_X4_no rfl rfl rfl (by decide +kernel) ⟨Nat.le_of_ble_eq_true rfl, Nat.le_of_ble_eq_true rfl⟩) hE hP hD hS hA (va_recv hE.K hP (ci := 5) (q0 := 0) rfl rfl) rfl hl.1 rfl (Nat.le_of_ble_eq_true rfl) dX4_chip_31 ⟨Nat.le_of_ble_eq_true rfl, Nat.le_of_ble_eq_true rfl⟩ (fun _u H locs hP hD hS hE => ?_)
    have hP : va_P g.1 vwCl (wMo g am (nI 1) (sa) (z)) H := hP
    have hD : va_D (va_A (wMo g am (th) (sa) (z)) s.heap.size) (wMo g am (nI 1) (sa) (z)) := hD
    exact q_wiret (()) hx hb hr hlocks hP hD hS dX4_chip_34 rfl
  · exact absurd c_1 hx_
set_option maxHeartbeats 4000000 in
set_option maxRecDepth 100000 in
theorem cn_X4_chip_2 {l : Launch} {g : gT} {sz : Nat} {am : Nat → Nat} {th : Int32} {sa : Nat → Int32} {z : sT} (hV : VS z) (hR : RS z sa) {a : Nat} {x : Int32} (ha_ : a < sL z) (hx_ : ¬ inR x (sL z)) : WR (S := Unit) l yX4_chip wsX4_chip ({ frames := 2, cells := 0, slots := 0, locals := 43 } : Room) [.ref (am 0), .int (nI a), .int x] g (wMo g am (th) (sa) (z)) sz (fun _ : Unit => wMo g am (nI 1) (sa) (z)) (fun _ => some (.int (nI 0))) 0 0 := by
  refine WR.of (cc := cX4_chip) (maxL := 3) (ret := (some .int)) (by decide) rfl (Nat.le_of_ble_eq_true rfl) ?_
  intro p e s m below meth c hx hb hml hr hlocks hown hin0 hts hsz hE0 hP hD ls hl
  subst hsz
  have hown : s.vm.findClass RX4 = some m.cls := hown
  have hA : ∀ q, s.heap.size ≤ q → va_A (wMo g am (th) (sa) (z)) s.heap.size q := fun q h => Or.inr h
  have hE := hE0
  have hS : va_S (va_A (wMo g am (th) (sa) (z)) s.heap.size) s.heap s.heap [] := va_S.rf
  have hl : lv_has ls 3 [(0, .ref (am 0)), (1, .int (nI a)), (2, .int x)] := hl
  have hL := hV.L
  have hn := hV.n
  refine lv_aload_n hx hb dX4_chip_0 rfl (lv_at hl 0 rfl) ?_
  refine lv_iconst (v := nI 0) hx hb dX4_chip_1 (by decide) ?_
  refine va_put (D := g.1) (ci := 5) (v := .int (nI 0)) (ty := .int) (C := RX4) (T := TX4) (N := 9) hx hb hts (q_sub wsX40 25 rfl) tyX4 tyX4_ok nmX4 hown hE.K hP hD hS 0 rfl rfl 0 (by decide) (hts _ (List.mem_of_getElem? (i := 1) rfl)) (fun _ h9 => h9) rfl (by decide +kernel) rfl rfl (Nat.le_of_ble_eq_true rfl) dX4_chip_2 (fun H locs hP hD hS => ?_)
  have hP : va_P g.1 vwCl (wMo g am (nI 0) (sa) (z)) H := hP
  have hD : va_D (va_A (wMo g am (th) (sa) (z)) s.heap.size) (wMo g am (nI 0) (sa) (z)) := hD
  have hE := hE0.kept hS.2.1
  refine lv_aload_n hx hb dX4_chip_5 rfl (lv_at hl 0 rfl) ?_
  refine lv_iload_n hx hb dX4_chip_6 rfl (lv_at hl 1 rfl) ?_
  refine q_roV (As := [.int (nI a)]) (rest := []) ⟨hx, hb, hml, hown, hts⟩ (c_X4_isCode hV hR (x := nI a)) (cwV 1 hts gX4_chip_X4_isCode rfl rfl rfl (by decide +kernel) ⟨Nat.le_of_ble_eq_true rfl, Nat.le_of_ble_eq_true rfl⟩) hE (fun q h => hA q (Nat.le_trans hS.1 h)) hP (va_recv hE.K hP (ci := 5) (q0 := 0) rfl rfl) rfl hl.1 rfl (Nat.le_of_ble_eq_true rfl) dX4_chip_7 ⟨Nat.le_of_ble_eq_true rfl, Nat.le_of_ble_eq_true rfl⟩ ?_
  refine q_ifb_eq (tgt := 29) hx hb dX4_chip_10 (by decide) (fun c_1 => ?_) (fun c_1 => ?_)
  · exact absurd (inR_nI ha_ (by omega)) c_1
  · refine lv_aload_n hx hb dX4_chip_13 rfl (lv_at hl 0 rfl) ?_
    refine lv_iload_n hx hb dX4_chip_14 rfl (lv_at hl 2 rfl) ?_
    refine q_roV (As := [.int x]) (rest := []) ⟨hx, hb, hml, hown, hts⟩ (c_X4_isCode hV hR (x := x)) (cwV 1 hts gX4_chip_X4_isCode rfl rfl rfl (by decide +kernel) ⟨Nat.le_of_ble_eq_true rfl, Nat.le_of_ble_eq_true rfl⟩) hE (fun q h => hA q (Nat.le_trans hS.1 h)) hP (va_recv hE.K hP (ci := 5) (q0 := 0) rfl rfl) rfl hl.1 rfl (Nat.le_of_ble_eq_true rfl) dX4_chip_15 ⟨Nat.le_of_ble_eq_true rfl, Nat.le_of_ble_eq_true rfl⟩ ?_
    refine q_ifb_eq (tgt := 29) hx hb dX4_chip_18 (by decide) (fun c_2 => ?_) (fun c_2 => ?_)
    · refine lv_aload_n hx hb dX4_chip_29 rfl (lv_at hl 0 rfl) ?_
      refine lv_iconst (v := nI 1) hx hb dX4_chip_30 (by decide) ?_
      refine q_wrV (wr := []) (As := [.int (nI 1)]) (rest := []) ⟨hx, hb, hml, hown, hts⟩ (c_X4_no (th := nI 0) (x := nI 1) hV hR) (cwV 1 hts gX4_chip_X4_no rfl rfl rfl (by decide +kernel) ⟨Nat.le_of_ble_eq_true rfl, Nat.le_of_ble_eq_true rfl⟩) hE hP hD hS hA (va_recv hE.K hP (ci := 5) (q0 := 0) rfl rfl) rfl hl.1 rfl (Nat.le_of_ble_eq_true rfl) dX4_chip_31 ⟨Nat.le_of_ble_eq_true rfl, Nat.le_of_ble_eq_true rfl⟩ (fun _u H locs hP hD hS hE => ?_)
      have hP : va_P g.1 vwCl (wMo g am (nI 1) (sa) (z)) H := hP
      have hD : va_D (va_A (wMo g am (th) (sa) (z)) s.heap.size) (wMo g am (nI 1) (sa) (z)) := hD
      exact q_wiret (()) hx hb hr hlocks hP hD hS dX4_chip_34 rfl
    · exact absurd c_2 (hx_)
set_option maxHeartbeats 4000000 in
set_option maxRecDepth 100000 in
theorem c_X4_sky {l : Launch} {g : gT} {sz : Nat} {am : Nat → Nat} {th : Int32} {sa : Nat → Int32} {z : sT} (hV : VS z) (hR : RS z sa) {t : Nat} (ht_ : t < 1000) : WR (S := Unit) l yX4_sky wsX4_sky ({ frames := 4, cells := 0, slots := 0, locals := 87 } : Room) [.ref (am 0), .int (nI t)] g (wMo g am (th) (sa) (z)) sz (fun _ : Unit => wMo g am (nI 0) (sa) (z)) (fun _ => some (.int (kM z t))) 0 0 := by
  refine WR.of (cc := cX4_sky) (maxL := 2) (ret := (some .int)) (by decide) rfl (Nat.le_of_ble_eq_true rfl) ?_
  intro p e s m below meth c hx hb hml hr hlocks hown hin0 hts hsz hE0 hP hD ls hl
  subst hsz
  have hown : s.vm.findClass RX4 = some m.cls := hown
  have hA : ∀ q, s.heap.size ≤ q → va_A (wMo g am (th) (sa) (z)) s.heap.size q := fun q h => Or.inr h
  have hE := hE0
  have hS : va_S (va_A (wMo g am (th) (sa) (z)) s.heap.size) s.heap s.heap [] := va_S.rf
  have hl : lv_has ls 2 [(0, .ref (am 0)), (1, .int (nI t))] := hl
  have hL := hV.L
  have hn := hV.n
  refine lv_aload_n hx hb dX4_sky_0 rfl (lv_at hl 0 rfl) ?_
  refine lv_iconst (v := nI 0) hx hb dX4_sky_1 (by decide) ?_
  refine va_put (D := g.1) (ci := 5) (v := .int (nI 0)) (ty := .int) (C := RX4) (T := TX4) (N := 9) hx hb hts (q_sub wsX40 39 rfl) tyX4 tyX4_ok nmX4 hown hE.K hP hD hS 0 rfl rfl 0 (by decide) (hts _ (List.mem_of_getElem? (i := 1) rfl)) (fun _ h9 => h9) rfl (by decide +kernel) rfl rfl (Nat.le_of_ble_eq_true rfl) dX4_sky_2 (fun H locs hP hD hS => ?_)
  have hP : va_P g.1 vwCl (wMo g am (nI 0) (sa) (z)) H := hP
  have hD : va_D (va_A (wMo g am (th) (sa) (z)) s.heap.size) (wMo g am (nI 0) (sa) (z)) := hD
  have hE := hE0.kept hS.2.1
  refine lv_iload_n hx hb dX4_sky_5 rfl (lv_at hl 1 rfl) ?_
  refine q_roS (As := [.int (nI t)]) (rest := []) ⟨hx, hb, hml, hown, hts⟩ (c_X4_isTime (x := nI t)) (va_cwS 1 hts gX4_sky_X4_isTime rfl rfl rfl (by decide +kernel) ⟨Nat.le_of_ble_eq_true rfl, Nat.le_of_ble_eq_true rfl⟩) hE (fun q h => hA q (Nat.le_trans hS.1 h)) trivial rfl hl.1 rfl (Nat.le_of_ble_eq_true rfl) dX4_sky_6 ⟨Nat.le_of_ble_eq_true rfl, Nat.le_of_ble_eq_true rfl⟩ ?_
  refine q_ifb_eq (tgt := 20) hx hb dX4_sky_9 (by decide) (fun c_1 => ?_) (fun c_1 => ?_)
  · exact absurd (inR_nI ht_ (by omega)) c_1
  · refine lv_aload_n hx hb dX4_sky_12 rfl (lv_at hl 0 rfl) ?_
    refine lv_iload_n hx hb dX4_sky_13 rfl (lv_at hl 1 rfl) ?_
    refine q_roV (As := [.int (nI t)]) (rest := []) ⟨hx, hb, hml, hown, hts⟩ (c_X4_skyAt hV hR (t := t) (by omega)) (cwV 1 hts gX4_sky_X4_skyAt rfl rfl rfl (by decide +kernel) ⟨Nat.le_of_ble_eq_true rfl, Nat.le_of_ble_eq_true rfl⟩) hE (fun q h => hA q (Nat.le_trans hS.1 h)) hP (va_recv hE.K hP (ci := 5) (q0 := 0) rfl rfl) rfl hl.1 rfl (Nat.le_of_ble_eq_true rfl) dX4_sky_14 ⟨Nat.le_of_ble_eq_true rfl, Nat.le_of_ble_eq_true rfl⟩ ?_
    refine lv_goto (tgt := 25) hx hb dX4_sky_17 (by decide) ?_
    exact q_wiret (()) hx hb hr hlocks hP hD hS dX4_sky_25 rfl
set_option maxHeartbeats 4000000 in
set_option maxRecDepth 100000 in
theorem cn_X4_sky_1 {l : Launch} {g : gT} {sz : Nat} {am : Nat → Nat} {th : Int32} {sa : Nat → Int32} {z : sT} (hV : VS z) (hR : RS z sa) {x : Int32} (hx_ : ¬ inR x (1000)) : WR (S := Unit) l yX4_sky wsX4_sky ({ frames := 2, cells := 0, slots := 0, locals := 42 } : Room) [.ref (am 0), .int x] g (wMo g am (th) (sa) (z)) sz (fun _ : Unit => wMo g am (nI 1) (sa) (z)) (fun _ => some (.int (nI 0))) 0 0 := by
  refine WR.of (cc := cX4_sky) (maxL := 2) (ret := (some .int)) (by decide) rfl (Nat.le_of_ble_eq_true rfl) ?_
  intro p e s m below meth c hx hb hml hr hlocks hown hin0 hts hsz hE0 hP hD ls hl
  subst hsz
  have hown : s.vm.findClass RX4 = some m.cls := hown
  have hA : ∀ q, s.heap.size ≤ q → va_A (wMo g am (th) (sa) (z)) s.heap.size q := fun q h => Or.inr h
  have hE := hE0
  have hS : va_S (va_A (wMo g am (th) (sa) (z)) s.heap.size) s.heap s.heap [] := va_S.rf
  have hl : lv_has ls 2 [(0, .ref (am 0)), (1, .int x)] := hl
  have hL := hV.L
  have hn := hV.n
  refine lv_aload_n hx hb dX4_sky_0 rfl (lv_at hl 0 rfl) ?_
  refine lv_iconst (v := nI 0) hx hb dX4_sky_1 (by decide) ?_
  refine va_put (D := g.1) (ci := 5) (v := .int (nI 0)) (ty := .int) (C := RX4) (T := TX4) (N := 9) hx hb hts (q_sub wsX40 39 rfl) tyX4 tyX4_ok nmX4 hown hE.K hP hD hS 0 rfl rfl 0 (by decide) (hts _ (List.mem_of_getElem? (i := 1) rfl)) (fun _ h9 => h9) rfl (by decide +kernel) rfl rfl (Nat.le_of_ble_eq_true rfl) dX4_sky_2 (fun H locs hP hD hS => ?_)
  have hP : va_P g.1 vwCl (wMo g am (nI 0) (sa) (z)) H := hP
  have hD : va_D (va_A (wMo g am (th) (sa) (z)) s.heap.size) (wMo g am (nI 0) (sa) (z)) := hD
  have hE := hE0.kept hS.2.1
  refine lv_iload_n hx hb dX4_sky_5 rfl (lv_at hl 1 rfl) ?_
  refine q_roS (As := [.int x]) (rest := []) ⟨hx, hb, hml, hown, hts⟩ (c_X4_isTime (x := x)) (va_cwS 1 hts gX4_sky_X4_isTime rfl rfl rfl (by decide +kernel) ⟨Nat.le_of_ble_eq_true rfl, Nat.le_of_ble_eq_true rfl⟩) hE (fun q h => hA q (Nat.le_trans hS.1 h)) trivial rfl hl.1 rfl (Nat.le_of_ble_eq_true rfl) dX4_sky_6 ⟨Nat.le_of_ble_eq_true rfl, Nat.le_of_ble_eq_true rfl⟩ ?_
  refine q_ifb_eq (tgt := 20) hx hb dX4_sky_9 (by decide) (fun c_1 => ?_) (fun c_1 => ?_)
  · refine lv_aload_n hx hb dX4_sky_20 rfl (lv_at hl 0 rfl) ?_
    refine lv_iconst (v := nI 1) hx hb dX4_sky_21 (by decide) ?_
    refine q_wrV (wr := []) (As := [.int (nI 1)]) (rest := []) ⟨hx, hb, hml, hown, hts⟩ (c_X4_no (th := nI 0) (x := nI 1) hV hR) (cwV 1 hts gX4_sky_X4_no rfl rfl rfl (by decide +kernel) ⟨Nat.le_of_ble_eq_true rfl, Nat.le_of_ble_eq_true rfl⟩) hE hP hD hS hA (va_recv hE.K hP (ci := 5) (q0 := 0) rfl rfl) rfl hl.1 rfl (Nat.le_of_ble_eq_true rfl) dX4_sky_22 ⟨Nat.le_of_ble_eq_true rfl, Nat.le_of_ble_eq_true rfl⟩ (fun _u H locs hP hD hS hE => ?_)
    have hP : va_P g.1 vwCl (wMo g am (nI 1) (sa) (z)) H := hP
    have hD : va_D (va_A (wMo g am (th) (sa) (z)) s.heap.size) (wMo g am (nI 1) (sa) (z)) := hD
    exact q_wiret (()) hx hb hr hlocks hP hD hS dX4_sky_25 rfl
  · exact absurd c_1 (hx_)
set_option maxHeartbeats 4000000 in
set_option maxRecDepth 100000 in
theorem c_X4_hear {l : Launch} {g : gT} {sz : Nat} {am : Nat → Nat} {th : Int32} {sa : Nat → Int32} {z : sT} (hV : VS z) (hR : RS z sa) {a t : Nat} (ha_ : a < sL z) (ht_ : t < 1000) : WR (S := Unit) l yX4_hear wsX4_hear ({ frames := 5, cells := 0, slots := 0, locals := 111 } : Room) [.ref (am 0), .int (nI a), .int (nI t)] g (wMo g am (th) (sa) (z)) sz (fun _ : Unit => wMo g am (nI 0) (sa) (z)) (fun _ => some (.int (hearF (sL z) (kM z) a t))) 0 0 := by
  refine WR.of (cc := cX4_hear) (maxL := 3) (ret := (some .int)) (by decide) rfl (Nat.le_of_ble_eq_true rfl) ?_
  intro p e s m below meth c hx hb hml hr hlocks hown hin0 hts hsz hE0 hP hD ls hl
  subst hsz
  have hown : s.vm.findClass RX4 = some m.cls := hown
  have hA : ∀ q, s.heap.size ≤ q → va_A (wMo g am (th) (sa) (z)) s.heap.size q := fun q h => Or.inr h
  have hE := hE0
  have hS : va_S (va_A (wMo g am (th) (sa) (z)) s.heap.size) s.heap s.heap [] := va_S.rf
  have hl : lv_has ls 3 [(0, .ref (am 0)), (1, .int (nI a)), (2, .int (nI t))] := hl
  have hL := hV.L
  have hn := hV.n
  refine lv_aload_n hx hb dX4_hear_0 rfl (lv_at hl 0 rfl) ?_
  refine lv_iconst (v := nI 0) hx hb dX4_hear_1 (by decide) ?_
  refine va_put (D := g.1) (ci := 5) (v := .int (nI 0)) (ty := .int) (C := RX4) (T := TX4) (N := 9) hx hb hts (q_sub wsX40 47 rfl) tyX4 tyX4_ok nmX4 hown hE.K hP hD hS 0 rfl rfl 0 (by decide) (hts _ (List.mem_of_getElem? (i := 1) rfl)) (fun _ h9 => h9) rfl (by decide +kernel) rfl rfl (Nat.le_of_ble_eq_true rfl) dX4_hear_2 (fun H locs hP hD hS => ?_)
  have hP : va_P g.1 vwCl (wMo g am (nI 0) (sa) (z)) H := hP
  have hD : va_D (va_A (wMo g am (th) (sa) (z)) s.heap.size) (wMo g am (nI 0) (sa) (z)) := hD
  have hE := hE0.kept hS.2.1
  refine lv_aload_n hx hb dX4_hear_5 rfl (lv_at hl 0 rfl) ?_
  refine lv_iload_n hx hb dX4_hear_6 rfl (lv_at hl 1 rfl) ?_
  refine q_roV (As := [.int (nI a)]) (rest := []) ⟨hx, hb, hml, hown, hts⟩ (c_X4_isCode hV hR (x := nI a)) (cwV 1 hts gX4_hear_X4_isCode rfl rfl rfl (by decide +kernel) ⟨Nat.le_of_ble_eq_true rfl, Nat.le_of_ble_eq_true rfl⟩) hE (fun q h => hA q (Nat.le_trans hS.1 h)) hP (va_recv hE.K hP (ci := 5) (q0 := 0) rfl rfl) rfl hl.1 rfl (Nat.le_of_ble_eq_true rfl) dX4_hear_7 ⟨Nat.le_of_ble_eq_true rfl, Nat.le_of_ble_eq_true rfl⟩ ?_
  refine q_ifb_ne (tgt := 19) hx hb dX4_hear_10 (by decide) (fun c_1 => ?_) (fun c_1 => ?_)
  · refine lv_iload_n hx hb dX4_hear_19 rfl (lv_at hl 2 rfl) ?_
    refine q_roS (As := [.int (nI t)]) (rest := []) ⟨hx, hb, hml, hown, hts⟩ (c_X4_isTime (x := nI t)) (va_cwS 1 hts gX4_hear_X4_isTime rfl rfl rfl (by decide +kernel) ⟨Nat.le_of_ble_eq_true rfl, Nat.le_of_ble_eq_true rfl⟩) hE (fun q h => hA q (Nat.le_trans hS.1 h)) trivial rfl hl.1 rfl (Nat.le_of_ble_eq_true rfl) dX4_hear_20 ⟨Nat.le_of_ble_eq_true rfl, Nat.le_of_ble_eq_true rfl⟩ ?_
    refine q_ifb_eq (tgt := 35) hx hb dX4_hear_23 (by decide) (fun c_2 => ?_) (fun c_2 => ?_)
    · exact absurd (inR_nI ht_ (by omega)) c_2
    · refine lv_aload_n hx hb dX4_hear_26 rfl (lv_at hl 0 rfl) ?_
      refine lv_iload_n hx hb dX4_hear_27 rfl (lv_at hl 1 rfl) ?_
      refine lv_iload_n hx hb dX4_hear_28 rfl (lv_at hl 2 rfl) ?_
      refine q_roV (As := [.int (nI a), .int (nI t)]) (rest := []) ⟨hx, hb, hml, hown, hts⟩ (c_X4_heard hV hR (t := t) (by omega) (by omega)) (cwV 2 hts gX4_hear_X4_heard rfl rfl rfl (by decide +kernel) ⟨Nat.le_of_ble_eq_true rfl, Nat.le_of_ble_eq_true rfl⟩) hE (fun q h => hA q (Nat.le_trans hS.1 h)) hP (va_recv hE.K hP (ci := 5) (q0 := 0) rfl rfl) rfl hl.1 rfl (Nat.le_of_ble_eq_true rfl) dX4_hear_29 ⟨Nat.le_of_ble_eq_true rfl, Nat.le_of_ble_eq_true rfl⟩ ?_
      refine lv_goto (tgt := 40) hx hb dX4_hear_32 (by decide) ?_
      exact q_wiret (()) hx hb hr hlocks hP hD hS dX4_hear_40 rfl
  · exact absurd (inR_nI ha_ (by omega)) c_1
set_option maxHeartbeats 4000000 in
set_option maxRecDepth 100000 in
theorem cn_X4_hear_1 {l : Launch} {g : gT} {sz : Nat} {am : Nat → Nat} {th : Int32} {sa : Nat → Int32} {z : sT} (hV : VS z) (hR : RS z sa) {x y : Int32} (hx_ : ¬ inR x (sL z)) : WR (S := Unit) l yX4_hear wsX4_hear ({ frames := 2, cells := 0, slots := 0, locals := 43 } : Room) [.ref (am 0), .int x, .int y] g (wMo g am (th) (sa) (z)) sz (fun _ : Unit => wMo g am (nI 1) (sa) (z)) (fun _ => some (.int (nI 0))) 0 0 := by
  refine WR.of (cc := cX4_hear) (maxL := 3) (ret := (some .int)) (by decide) rfl (Nat.le_of_ble_eq_true rfl) ?_
  intro p e s m below meth c hx hb hml hr hlocks hown hin0 hts hsz hE0 hP hD ls hl
  subst hsz
  have hown : s.vm.findClass RX4 = some m.cls := hown
  have hA : ∀ q, s.heap.size ≤ q → va_A (wMo g am (th) (sa) (z)) s.heap.size q := fun q h => Or.inr h
  have hE := hE0
  have hS : va_S (va_A (wMo g am (th) (sa) (z)) s.heap.size) s.heap s.heap [] := va_S.rf
  have hl : lv_has ls 3 [(0, .ref (am 0)), (1, .int x), (2, .int y)] := hl
  have hL := hV.L
  have hn := hV.n
  refine lv_aload_n hx hb dX4_hear_0 rfl (lv_at hl 0 rfl) ?_
  refine lv_iconst (v := nI 0) hx hb dX4_hear_1 (by decide) ?_
  refine va_put (D := g.1) (ci := 5) (v := .int (nI 0)) (ty := .int) (C := RX4) (T := TX4) (N := 9) hx hb hts (q_sub wsX40 47 rfl) tyX4 tyX4_ok nmX4 hown hE.K hP hD hS 0 rfl rfl 0 (by decide) (hts _ (List.mem_of_getElem? (i := 1) rfl)) (fun _ h9 => h9) rfl (by decide +kernel) rfl rfl (Nat.le_of_ble_eq_true rfl) dX4_hear_2 (fun H locs hP hD hS => ?_)
  have hP : va_P g.1 vwCl (wMo g am (nI 0) (sa) (z)) H := hP
  have hD : va_D (va_A (wMo g am (th) (sa) (z)) s.heap.size) (wMo g am (nI 0) (sa) (z)) := hD
  have hE := hE0.kept hS.2.1
  refine lv_aload_n hx hb dX4_hear_5 rfl (lv_at hl 0 rfl) ?_
  refine lv_iload_n hx hb dX4_hear_6 rfl (lv_at hl 1 rfl) ?_
  refine q_roV (As := [.int x]) (rest := []) ⟨hx, hb, hml, hown, hts⟩ (c_X4_isCode hV hR (x := x)) (cwV 1 hts gX4_hear_X4_isCode rfl rfl rfl (by decide +kernel) ⟨Nat.le_of_ble_eq_true rfl, Nat.le_of_ble_eq_true rfl⟩) hE (fun q h => hA q (Nat.le_trans hS.1 h)) hP (va_recv hE.K hP (ci := 5) (q0 := 0) rfl rfl) rfl hl.1 rfl (Nat.le_of_ble_eq_true rfl) dX4_hear_7 ⟨Nat.le_of_ble_eq_true rfl, Nat.le_of_ble_eq_true rfl⟩ ?_
  refine q_ifb_ne (tgt := 19) hx hb dX4_hear_10 (by decide) (fun c_1 => ?_) (fun c_1 => ?_)
  · exact absurd c_1 (hx_)
  · refine lv_aload_n hx hb dX4_hear_13 rfl (lv_at hl 0 rfl) ?_
    refine lv_iconst (v := nI 1) hx hb dX4_hear_14 (by decide) ?_
    refine q_wrV (wr := []) (As := [.int (nI 1)]) (rest := []) ⟨hx, hb, hml, hown, hts⟩ (c_X4_no (th := nI 0) (x := nI 1) hV hR) (cwV 1 hts gX4_hear_X4_no rfl rfl rfl (by decide +kernel) ⟨Nat.le_of_ble_eq_true rfl, Nat.le_of_ble_eq_true rfl⟩) hE hP hD hS hA (va_recv hE.K hP (ci := 5) (q0 := 0) rfl rfl) rfl hl.1 rfl (Nat.le_of_ble_eq_true rfl) dX4_hear_15 ⟨Nat.le_of_ble_eq_true rfl, Nat.le_of_ble_eq_true rfl⟩ (fun _u H locs hP hD hS hE => ?_)
    have hP : va_P g.1 vwCl (wMo g am (nI 1) (sa) (z)) H := hP
    have hD : va_D (va_A (wMo g am (th) (sa) (z)) s.heap.size) (wMo g am (nI 1) (sa) (z)) := hD
    exact q_wiret (()) hx hb hr hlocks hP hD hS dX4_hear_18 rfl
set_option maxHeartbeats 4000000 in
set_option maxRecDepth 100000 in
theorem cn_X4_hear_2 {l : Launch} {g : gT} {sz : Nat} {am : Nat → Nat} {th : Int32} {sa : Nat → Int32} {z : sT} (hV : VS z) (hR : RS z sa) {a : Nat} {x : Int32} (ha_ : a < sL z) (hx_ : ¬ inR x (1000)) : WR (S := Unit) l yX4_hear wsX4_hear ({ frames := 2, cells := 0, slots := 0, locals := 43 } : Room) [.ref (am 0), .int (nI a), .int x] g (wMo g am (th) (sa) (z)) sz (fun _ : Unit => wMo g am (nI 2) (sa) (z)) (fun _ => some (.int (nI 0))) 0 0 := by
  refine WR.of (cc := cX4_hear) (maxL := 3) (ret := (some .int)) (by decide) rfl (Nat.le_of_ble_eq_true rfl) ?_
  intro p e s m below meth c hx hb hml hr hlocks hown hin0 hts hsz hE0 hP hD ls hl
  subst hsz
  have hown : s.vm.findClass RX4 = some m.cls := hown
  have hA : ∀ q, s.heap.size ≤ q → va_A (wMo g am (th) (sa) (z)) s.heap.size q := fun q h => Or.inr h
  have hE := hE0
  have hS : va_S (va_A (wMo g am (th) (sa) (z)) s.heap.size) s.heap s.heap [] := va_S.rf
  have hl : lv_has ls 3 [(0, .ref (am 0)), (1, .int (nI a)), (2, .int x)] := hl
  have hL := hV.L
  have hn := hV.n
  refine lv_aload_n hx hb dX4_hear_0 rfl (lv_at hl 0 rfl) ?_
  refine lv_iconst (v := nI 0) hx hb dX4_hear_1 (by decide) ?_
  refine va_put (D := g.1) (ci := 5) (v := .int (nI 0)) (ty := .int) (C := RX4) (T := TX4) (N := 9) hx hb hts (q_sub wsX40 47 rfl) tyX4 tyX4_ok nmX4 hown hE.K hP hD hS 0 rfl rfl 0 (by decide) (hts _ (List.mem_of_getElem? (i := 1) rfl)) (fun _ h9 => h9) rfl (by decide +kernel) rfl rfl (Nat.le_of_ble_eq_true rfl) dX4_hear_2 (fun H locs hP hD hS => ?_)
  have hP : va_P g.1 vwCl (wMo g am (nI 0) (sa) (z)) H := hP
  have hD : va_D (va_A (wMo g am (th) (sa) (z)) s.heap.size) (wMo g am (nI 0) (sa) (z)) := hD
  have hE := hE0.kept hS.2.1
  refine lv_aload_n hx hb dX4_hear_5 rfl (lv_at hl 0 rfl) ?_
  refine lv_iload_n hx hb dX4_hear_6 rfl (lv_at hl 1 rfl) ?_
  refine q_roV (As := [.int (nI a)]) (rest := []) ⟨hx, hb, hml, hown, hts⟩ (c_X4_isCode hV hR (x := nI a)) (cwV 1 hts gX4_hear_X4_isCode rfl rfl rfl (by decide +kernel) ⟨Nat.le_of_ble_eq_true rfl, Nat.le_of_ble_eq_true rfl⟩) hE (fun q h => hA q (Nat.le_trans hS.1 h)) hP (va_recv hE.K hP (ci := 5) (q0 := 0) rfl rfl) rfl hl.1 rfl (Nat.le_of_ble_eq_true rfl) dX4_hear_7 ⟨Nat.le_of_ble_eq_true rfl, Nat.le_of_ble_eq_true rfl⟩ ?_
  refine q_ifb_ne (tgt := 19) hx hb dX4_hear_10 (by decide) (fun c_1 => ?_) (fun c_1 => ?_)
  · refine lv_iload_n hx hb dX4_hear_19 rfl (lv_at hl 2 rfl) ?_
    refine q_roS (As := [.int x]) (rest := []) ⟨hx, hb, hml, hown, hts⟩ (c_X4_isTime (x := x)) (va_cwS 1 hts gX4_hear_X4_isTime rfl rfl rfl (by decide +kernel) ⟨Nat.le_of_ble_eq_true rfl, Nat.le_of_ble_eq_true rfl⟩) hE (fun q h => hA q (Nat.le_trans hS.1 h)) trivial rfl hl.1 rfl (Nat.le_of_ble_eq_true rfl) dX4_hear_20 ⟨Nat.le_of_ble_eq_true rfl, Nat.le_of_ble_eq_true rfl⟩ ?_
    refine q_ifb_eq (tgt := 35) hx hb dX4_hear_23 (by decide) (fun c_2 => ?_) (fun c_2 => ?_)
    · refine lv_aload_n hx hb dX4_hear_35 rfl (lv_at hl 0 rfl) ?_
      refine lv_iconst (v := nI 2) hx hb dX4_hear_36 (by decide) ?_
      refine q_wrV (wr := []) (As := [.int (nI 2)]) (rest := []) ⟨hx, hb, hml, hown, hts⟩ (c_X4_no (th := nI 0) (x := nI 2) hV hR) (cwV 1 hts gX4_hear_X4_no rfl rfl rfl (by decide +kernel) ⟨Nat.le_of_ble_eq_true rfl, Nat.le_of_ble_eq_true rfl⟩) hE hP hD hS hA (va_recv hE.K hP (ci := 5) (q0 := 0) rfl rfl) rfl hl.1 rfl (Nat.le_of_ble_eq_true rfl) dX4_hear_37 ⟨Nat.le_of_ble_eq_true rfl, Nat.le_of_ble_eq_true rfl⟩ (fun _u H locs hP hD hS hE => ?_)
      have hP : va_P g.1 vwCl (wMo g am (nI 2) (sa) (z)) H := hP
      have hD : va_D (va_A (wMo g am (th) (sa) (z)) s.heap.size) (wMo g am (nI 2) (sa) (z)) := hD
      exact q_wiret (()) hx hb hr hlocks hP hD hS dX4_hear_40 rfl
    · exact absurd c_2 (hx_)
  · exact absurd (inR_nI ha_ (by omega)) c_1
set_option maxHeartbeats 4000000 in
set_option maxRecDepth 100000 in
theorem c_X4_word {l : Launch} {g : gT} {sz : Nat} {am : Nat → Nat} {th : Int32} {sa : Nat → Int32} {z : sT} (hV : VS z) (hR : RS z sa) {k w q_ : Nat} (hk_ : k < sn z) (hw_ : w < ssd z k) (hq_ : q_ < 3) : WR (S := Unit) l yX4_word wsX4_word ({ frames := 8, cells := 0, slots := 0, locals := 178 } : Room) [.ref (am 0), .int (nI k), .int (nI w), .int (nI q_)] g (wMo g am (th) (sa) (z)) sz (fun _ : Unit => wMo g am (nI 0) (sa) (z)) (fun _ => some (.int (wrdV z (kM z) k w q_))) 0 0 := by
  refine WR.of (cc := cX4_word) (maxL := 4) (ret := (some .int)) (by decide) rfl (Nat.le_of_ble_eq_true rfl) ?_
  intro p e s m below meth c hx hb hml hr hlocks hown hin0 hts hsz hE0 hP hD ls hl
  subst hsz
  have hown : s.vm.findClass RX4 = some m.cls := hown
  have hA : ∀ q, s.heap.size ≤ q → va_A (wMo g am (th) (sa) (z)) s.heap.size q := fun q h => Or.inr h
  have hE := hE0
  have hS : va_S (va_A (wMo g am (th) (sa) (z)) s.heap.size) s.heap s.heap [] := va_S.rf
  have hl : lv_has ls 4 [(0, .ref (am 0)), (1, .int (nI k)), (2, .int (nI w)), (3, .int (nI q_))] := hl
  have hL := hV.L
  have hn := hV.n
  have hb9 := hV.h hk_
  refine lv_aload_n hx hb dX4_word_0 rfl (lv_at hl 0 rfl) ?_
  refine lv_iconst (v := nI 0) hx hb dX4_word_1 (by decide) ?_
  refine va_put (D := g.1) (ci := 5) (v := .int (nI 0)) (ty := .int) (C := RX4) (T := TX4) (N := 9) hx hb hts (q_sub wsX40 63 rfl) tyX4 tyX4_ok nmX4 hown hE.K hP hD hS 0 rfl rfl 0 (by decide) (hts _ (List.mem_of_getElem? (i := 1) rfl)) (fun _ h9 => h9) rfl (by decide +kernel) rfl rfl (Nat.le_of_ble_eq_true rfl) dX4_word_2 (fun H locs hP hD hS => ?_)
  have hP : va_P g.1 vwCl (wMo g am (nI 0) (sa) (z)) H := hP
  have hD : va_D (va_A (wMo g am (th) (sa) (z)) s.heap.size) (wMo g am (nI 0) (sa) (z)) := hD
  have hE := hE0.kept hS.2.1
  refine lv_aload_n hx hb dX4_word_5 rfl (lv_at hl 0 rfl) ?_
  refine lv_iload_n hx hb dX4_word_6 rfl (lv_at hl 1 rfl) ?_
  refine q_roV (As := [.int (nI k)]) (rest := []) ⟨hx, hb, hml, hown, hts⟩ (c_X4_isHill hV hR (x := nI k)) (cwV 1 hts gX4_word_X4_isHill rfl rfl rfl (by decide +kernel) ⟨Nat.le_of_ble_eq_true rfl, Nat.le_of_ble_eq_true rfl⟩) hE (fun q h => hA q (Nat.le_trans hS.1 h)) hP (va_recv hE.K hP (ci := 5) (q0 := 0) rfl rfl) rfl hl.1 rfl (Nat.le_of_ble_eq_true rfl) dX4_word_7 ⟨Nat.le_of_ble_eq_true rfl, Nat.le_of_ble_eq_true rfl⟩ ?_
  refine q_ifb_eq (tgt := 48) hx hb dX4_word_10 (by decide) (fun c_1 => ?_) (fun c_1 => ?_)
  · exact absurd (inR_nI hk_ (by omega)) c_1
  · refine lv_iload_n hx hb dX4_word_13 rfl (lv_at hl 2 rfl) ?_
    refine lv_iconst (v := nI 0) hx hb dX4_word_14 (by decide) ?_
    refine lv_aload_n hx hb dX4_word_15 rfl (lv_at hl 0 rfl) ?_
    refine va_get (v := .ref (am 4)) (C := RX4) (T := TX4) (N := 9) hx hb hts (q_sub wsX40 63 rfl) hown hE.K hP 0 rfl rfl 6 (by decide) (hts _ (List.mem_of_getElem? (i := 2) rfl)) (fun _ h9 => h9) rfl dX4_word_16 ?_
    refine lv_iload_n hx hb dX4_word_19 rfl (lv_at hl 1 rfl) ?_
    refine q_iald (v := nI (ssd z k)) hx hb hE (hP 4 _ rfl) (by omega) (by omega) dX4_word_20 rfl ?_
    refine lv_iconst (v := nI 1) hx hb dX4_word_21 (by decide) ?_
    refine q_isub (v := (nI (ssd z k)) - (nI 1)) hx hb dX4_word_22 rfl ?_
    refine q_roS (As := [.int (nI w), .int (nI 0), .int ((nI (ssd z k)) - (nI 1))]) (rest := []) ⟨hx, hb, hml, hown, hts⟩ (c_X4_isIn (x := nI w) (lo := nI 0) (hi := nI (ssd z k) - nI 1)) (va_cwS 3 hts gX4_word_X4_isIn rfl rfl rfl (by decide +kernel) ⟨Nat.le_of_ble_eq_true rfl, Nat.le_of_ble_eq_true rfl⟩) hE (fun q h => hA q (Nat.le_trans hS.1 h)) trivial rfl hl.1 rfl (Nat.le_of_ble_eq_true rfl) dX4_word_23 ⟨Nat.le_of_ble_eq_true rfl, Nat.le_of_ble_eq_true rfl⟩ ?_
    refine q_ifb_eq (tgt := 48) hx hb dX4_word_26 (by decide) (fun c_2 => ?_) (fun c_2 => ?_)
    · exact absurd (by rw [pk_sub_toInt (by omega) (by omega), nI_toInt (by omega), nI_toInt (by omega)]; omega) c_2
    · refine lv_iload_n hx hb dX4_word_29 rfl (lv_at hl 3 rfl) ?_
      refine lv_iconst (v := nI 0) hx hb dX4_word_30 (by decide) ?_
      refine lv_iconst (v := nI 2) hx hb dX4_word_31 (by decide) ?_
      refine q_roS (As := [.int (nI q_), .int (nI 0), .int (nI 2)]) (rest := []) ⟨hx, hb, hml, hown, hts⟩ (c_X4_isIn (x := nI q_) (lo := nI 0) (hi := nI 2)) (va_cwS 3 hts gX4_word_X4_isIn rfl rfl rfl (by decide +kernel) ⟨Nat.le_of_ble_eq_true rfl, Nat.le_of_ble_eq_true rfl⟩) hE (fun q h => hA q (Nat.le_trans hS.1 h)) trivial rfl hl.1 rfl (Nat.le_of_ble_eq_true rfl) dX4_word_32 ⟨Nat.le_of_ble_eq_true rfl, Nat.le_of_ble_eq_true rfl⟩ ?_
      refine q_ifb_eq (tgt := 48) hx hb dX4_word_35 (by decide) (fun c_3 => ?_) (fun c_3 => ?_)
      · exact absurd (by rw [nI_toInt (by omega), nI_toInt (by omega), nI_toInt (by omega)]; omega) c_3
      · refine lv_aload_n hx hb dX4_word_38 rfl (lv_at hl 0 rfl) ?_
        refine lv_iload_n hx hb dX4_word_39 rfl (lv_at hl 1 rfl) ?_
        refine lv_iload_n hx hb dX4_word_40 rfl (lv_at hl 2 rfl) ?_
        refine lv_iload_n hx hb dX4_word_41 rfl (lv_at hl 3 rfl) ?_
        refine q_roV (As := [.int (nI k), .int (nI w), .int (nI q_)]) (rest := []) ⟨hx, hb, hml, hown, hts⟩ (c_X4_wordTold hV hR hk_ (w := w) (q := q_) hw_ hq_) (cwV 3 hts gX4_word_X4_wordTold rfl rfl rfl (by decide +kernel) ⟨Nat.le_of_ble_eq_true rfl, Nat.le_of_ble_eq_true rfl⟩) hE (fun q h => hA q (Nat.le_trans hS.1 h)) hP (va_recv hE.K hP (ci := 5) (q0 := 0) rfl rfl) rfl hl.1 rfl (Nat.le_of_ble_eq_true rfl) dX4_word_42 ⟨Nat.le_of_ble_eq_true rfl, Nat.le_of_ble_eq_true rfl⟩ ?_
        refine lv_goto (tgt := 53) hx hb dX4_word_45 (by decide) ?_
        exact q_wiret (()) hx hb hr hlocks hP hD hS dX4_word_53 rfl
set_option maxHeartbeats 4000000 in
set_option maxRecDepth 100000 in
theorem cn_X4_word_1 {l : Launch} {g : gT} {sz : Nat} {am : Nat → Nat} {th : Int32} {sa : Nat → Int32} {z : sT} (hV : VS z) (hR : RS z sa) {x y u : Int32} (hx_ : ¬ inR x (sn z)) : WR (S := Unit) l yX4_word wsX4_word ({ frames := 2, cells := 0, slots := 0, locals := 43 } : Room) [.ref (am 0), .int x, .int y, .int u] g (wMo g am (th) (sa) (z)) sz (fun _ : Unit => wMo g am (nI 1) (sa) (z)) (fun _ => some (.int (nI 0))) 0 0 := by
  refine WR.of (cc := cX4_word) (maxL := 4) (ret := (some .int)) (by decide) rfl (Nat.le_of_ble_eq_true rfl) ?_
  intro p e s m below meth c hx hb hml hr hlocks hown hin0 hts hsz hE0 hP hD ls hl
  subst hsz
  have hown : s.vm.findClass RX4 = some m.cls := hown
  have hA : ∀ q, s.heap.size ≤ q → va_A (wMo g am (th) (sa) (z)) s.heap.size q := fun q h => Or.inr h
  have hE := hE0
  have hS : va_S (va_A (wMo g am (th) (sa) (z)) s.heap.size) s.heap s.heap [] := va_S.rf
  have hl : lv_has ls 4 [(0, .ref (am 0)), (1, .int x), (2, .int y), (3, .int u)] := hl
  have hL := hV.L
  have hn := hV.n
  refine lv_aload_n hx hb dX4_word_0 rfl (lv_at hl 0 rfl) ?_
  refine lv_iconst (v := nI 0) hx hb dX4_word_1 (by decide) ?_
  refine va_put (D := g.1) (ci := 5) (v := .int (nI 0)) (ty := .int) (C := RX4) (T := TX4) (N := 9) hx hb hts (q_sub wsX40 63 rfl) tyX4 tyX4_ok nmX4 hown hE.K hP hD hS 0 rfl rfl 0 (by decide) (hts _ (List.mem_of_getElem? (i := 1) rfl)) (fun _ h9 => h9) rfl (by decide +kernel) rfl rfl (Nat.le_of_ble_eq_true rfl) dX4_word_2 (fun H locs hP hD hS => ?_)
  have hP : va_P g.1 vwCl (wMo g am (nI 0) (sa) (z)) H := hP
  have hD : va_D (va_A (wMo g am (th) (sa) (z)) s.heap.size) (wMo g am (nI 0) (sa) (z)) := hD
  have hE := hE0.kept hS.2.1
  refine lv_aload_n hx hb dX4_word_5 rfl (lv_at hl 0 rfl) ?_
  refine lv_iload_n hx hb dX4_word_6 rfl (lv_at hl 1 rfl) ?_
  refine q_roV (As := [.int x]) (rest := []) ⟨hx, hb, hml, hown, hts⟩ (c_X4_isHill hV hR (x := x)) (cwV 1 hts gX4_word_X4_isHill rfl rfl rfl (by decide +kernel) ⟨Nat.le_of_ble_eq_true rfl, Nat.le_of_ble_eq_true rfl⟩) hE (fun q h => hA q (Nat.le_trans hS.1 h)) hP (va_recv hE.K hP (ci := 5) (q0 := 0) rfl rfl) rfl hl.1 rfl (Nat.le_of_ble_eq_true rfl) dX4_word_7 ⟨Nat.le_of_ble_eq_true rfl, Nat.le_of_ble_eq_true rfl⟩ ?_
  refine q_ifb_eq (tgt := 48) hx hb dX4_word_10 (by decide) (fun c_1 => ?_) (fun c_1 => ?_)
  · refine lv_aload_n hx hb dX4_word_48 rfl (lv_at hl 0 rfl) ?_
    refine lv_iconst (v := nI 1) hx hb dX4_word_49 (by decide) ?_
    refine q_wrV (wr := []) (As := [.int (nI 1)]) (rest := []) ⟨hx, hb, hml, hown, hts⟩ (c_X4_no (th := nI 0) (x := nI 1) hV hR) (cwV 1 hts gX4_word_X4_no rfl rfl rfl (by decide +kernel) ⟨Nat.le_of_ble_eq_true rfl, Nat.le_of_ble_eq_true rfl⟩) hE hP hD hS hA (va_recv hE.K hP (ci := 5) (q0 := 0) rfl rfl) rfl hl.1 rfl (Nat.le_of_ble_eq_true rfl) dX4_word_50 ⟨Nat.le_of_ble_eq_true rfl, Nat.le_of_ble_eq_true rfl⟩ (fun _u H locs hP hD hS hE => ?_)
    have hP : va_P g.1 vwCl (wMo g am (nI 1) (sa) (z)) H := hP
    have hD : va_D (va_A (wMo g am (th) (sa) (z)) s.heap.size) (wMo g am (nI 1) (sa) (z)) := hD
    exact q_wiret (()) hx hb hr hlocks hP hD hS dX4_word_53 rfl
  · exact absurd c_1 (hx_)
set_option maxHeartbeats 4000000 in
set_option maxRecDepth 100000 in
theorem cn_X4_word_2 {l : Launch} {g : gT} {sz : Nat} {am : Nat → Nat} {th : Int32} {sa : Nat → Int32} {z : sT} (hV : VS z) (hR : RS z sa) {k : Nat} {x u : Int32} (hk_ : k < sn z) (hx_ : ¬ inR x (ssd z k)) : WR (S := Unit) l yX4_word wsX4_word ({ frames := 2, cells := 0, slots := 0, locals := 43 } : Room) [.ref (am 0), .int (nI k), .int x, .int u] g (wMo g am (th) (sa) (z)) sz (fun _ : Unit => wMo g am (nI 1) (sa) (z)) (fun _ => some (.int (nI 0))) 0 0 := by
  refine WR.of (cc := cX4_word) (maxL := 4) (ret := (some .int)) (by decide) rfl (Nat.le_of_ble_eq_true rfl) ?_
  intro p e s m below meth c hx hb hml hr hlocks hown hin0 hts hsz hE0 hP hD ls hl
  subst hsz
  have hown : s.vm.findClass RX4 = some m.cls := hown
  have hA : ∀ q, s.heap.size ≤ q → va_A (wMo g am (th) (sa) (z)) s.heap.size q := fun q h => Or.inr h
  have hE := hE0
  have hS : va_S (va_A (wMo g am (th) (sa) (z)) s.heap.size) s.heap s.heap [] := va_S.rf
  have hl : lv_has ls 4 [(0, .ref (am 0)), (1, .int (nI k)), (2, .int x), (3, .int u)] := hl
  have hL := hV.L
  have hn := hV.n
  have hb9 := hV.h hk_
  have hx_ : ¬ (0 ≤ x.toInt ∧ x.toInt < ((ssd z k : Nat) : Int)) := hx_
  have e0_ : (nI 0).toInt = 0 := rfl
  refine lv_aload_n hx hb dX4_word_0 rfl (lv_at hl 0 rfl) ?_
  refine lv_iconst (v := nI 0) hx hb dX4_word_1 (by decide) ?_
  refine va_put (D := g.1) (ci := 5) (v := .int (nI 0)) (ty := .int) (C := RX4) (T := TX4) (N := 9) hx hb hts (q_sub wsX40 63 rfl) tyX4 tyX4_ok nmX4 hown hE.K hP hD hS 0 rfl rfl 0 (by decide) (hts _ (List.mem_of_getElem? (i := 1) rfl)) (fun _ h9 => h9) rfl (by decide +kernel) rfl rfl (Nat.le_of_ble_eq_true rfl) dX4_word_2 (fun H locs hP hD hS => ?_)
  have hP : va_P g.1 vwCl (wMo g am (nI 0) (sa) (z)) H := hP
  have hD : va_D (va_A (wMo g am (th) (sa) (z)) s.heap.size) (wMo g am (nI 0) (sa) (z)) := hD
  have hE := hE0.kept hS.2.1
  refine lv_aload_n hx hb dX4_word_5 rfl (lv_at hl 0 rfl) ?_
  refine lv_iload_n hx hb dX4_word_6 rfl (lv_at hl 1 rfl) ?_
  refine q_roV (As := [.int (nI k)]) (rest := []) ⟨hx, hb, hml, hown, hts⟩ (c_X4_isHill hV hR (x := nI k)) (cwV 1 hts gX4_word_X4_isHill rfl rfl rfl (by decide +kernel) ⟨Nat.le_of_ble_eq_true rfl, Nat.le_of_ble_eq_true rfl⟩) hE (fun q h => hA q (Nat.le_trans hS.1 h)) hP (va_recv hE.K hP (ci := 5) (q0 := 0) rfl rfl) rfl hl.1 rfl (Nat.le_of_ble_eq_true rfl) dX4_word_7 ⟨Nat.le_of_ble_eq_true rfl, Nat.le_of_ble_eq_true rfl⟩ ?_
  refine q_ifb_eq (tgt := 48) hx hb dX4_word_10 (by decide) (fun c_1 => ?_) (fun c_1 => ?_)
  · exact absurd (inR_nI hk_ (by omega)) c_1
  · refine lv_iload_n hx hb dX4_word_13 rfl (lv_at hl 2 rfl) ?_
    refine lv_iconst (v := nI 0) hx hb dX4_word_14 (by decide) ?_
    refine lv_aload_n hx hb dX4_word_15 rfl (lv_at hl 0 rfl) ?_
    refine va_get (v := .ref (am 4)) (C := RX4) (T := TX4) (N := 9) hx hb hts (q_sub wsX40 63 rfl) hown hE.K hP 0 rfl rfl 6 (by decide) (hts _ (List.mem_of_getElem? (i := 2) rfl)) (fun _ h9 => h9) rfl dX4_word_16 ?_
    refine lv_iload_n hx hb dX4_word_19 rfl (lv_at hl 1 rfl) ?_
    refine q_iald (v := nI (ssd z k)) hx hb hE (hP 4 _ rfl) (by omega) (by omega) dX4_word_20 rfl ?_
    refine lv_iconst (v := nI 1) hx hb dX4_word_21 (by decide) ?_
    refine q_isub (v := (nI (ssd z k)) - (nI 1)) hx hb dX4_word_22 rfl ?_
    refine q_roS (As := [.int x, .int (nI 0), .int ((nI (ssd z k)) - (nI 1))]) (rest := []) ⟨hx, hb, hml, hown, hts⟩ (c_X4_isIn (x := x) (lo := nI 0) (hi := nI (ssd z k) - nI 1)) (va_cwS 3 hts gX4_word_X4_isIn rfl rfl rfl (by decide +kernel) ⟨Nat.le_of_ble_eq_true rfl, Nat.le_of_ble_eq_true rfl⟩) hE (fun q h => hA q (Nat.le_trans hS.1 h)) trivial rfl hl.1 rfl (Nat.le_of_ble_eq_true rfl) dX4_word_23 ⟨Nat.le_of_ble_eq_true rfl, Nat.le_of_ble_eq_true rfl⟩ ?_
    refine q_ifb_eq (tgt := 48) hx hb dX4_word_26 (by decide) (fun c_2 => ?_) (fun c_2 => ?_)
    · refine lv_aload_n hx hb dX4_word_48 rfl (lv_at hl 0 rfl) ?_
      refine lv_iconst (v := nI 1) hx hb dX4_word_49 (by decide) ?_
      refine q_wrV (wr := []) (As := [.int (nI 1)]) (rest := []) ⟨hx, hb, hml, hown, hts⟩ (c_X4_no (th := nI 0) (x := nI 1) hV hR) (cwV 1 hts gX4_word_X4_no rfl rfl rfl (by decide +kernel) ⟨Nat.le_of_ble_eq_true rfl, Nat.le_of_ble_eq_true rfl⟩) hE hP hD hS hA (va_recv hE.K hP (ci := 5) (q0 := 0) rfl rfl) rfl hl.1 rfl (Nat.le_of_ble_eq_true rfl) dX4_word_50 ⟨Nat.le_of_ble_eq_true rfl, Nat.le_of_ble_eq_true rfl⟩ (fun _u H locs hP hD hS hE => ?_)
      have hP : va_P g.1 vwCl (wMo g am (nI 1) (sa) (z)) H := hP
      have hD : va_D (va_A (wMo g am (th) (sa) (z)) s.heap.size) (wMo g am (nI 1) (sa) (z)) := hD
      exact q_wiret (()) hx hb hr hlocks hP hD hS dX4_word_53 rfl
    · exact absurd c_2 (by rw [pk_sub_toInt (by omega) (by omega), e0_]; omega)
set_option maxHeartbeats 4000000 in
set_option maxRecDepth 100000 in
theorem cn_X4_word_3 {l : Launch} {g : gT} {sz : Nat} {am : Nat → Nat} {th : Int32} {sa : Nat → Int32} {z : sT} (hV : VS z) (hR : RS z sa) {k w : Nat} {x : Int32} (hk_ : k < sn z) (hw_ : w < ssd z k) (hx_ : ¬ inR x (3)) : WR (S := Unit) l yX4_word wsX4_word ({ frames := 2, cells := 0, slots := 0, locals := 43 } : Room) [.ref (am 0), .int (nI k), .int (nI w), .int x] g (wMo g am (th) (sa) (z)) sz (fun _ : Unit => wMo g am (nI 1) (sa) (z)) (fun _ => some (.int (nI 0))) 0 0 := by
  refine WR.of (cc := cX4_word) (maxL := 4) (ret := (some .int)) (by decide) rfl (Nat.le_of_ble_eq_true rfl) ?_
  intro p e s m below meth c hx hb hml hr hlocks hown hin0 hts hsz hE0 hP hD ls hl
  subst hsz
  have hown : s.vm.findClass RX4 = some m.cls := hown
  have hA : ∀ q, s.heap.size ≤ q → va_A (wMo g am (th) (sa) (z)) s.heap.size q := fun q h => Or.inr h
  have hE := hE0
  have hS : va_S (va_A (wMo g am (th) (sa) (z)) s.heap.size) s.heap s.heap [] := va_S.rf
  have hl : lv_has ls 4 [(0, .ref (am 0)), (1, .int (nI k)), (2, .int (nI w)), (3, .int x)] := hl
  have hL := hV.L
  have hn := hV.n
  have hb9 := hV.h hk_
  have hx_ : ¬ (0 ≤ x.toInt ∧ x.toInt < ((3 : Nat) : Int)) := hx_
  have e0_ : (nI 0).toInt = 0 := rfl
  have e4_ : (nI 2).toInt = 2 := rfl
  refine lv_aload_n hx hb dX4_word_0 rfl (lv_at hl 0 rfl) ?_
  refine lv_iconst (v := nI 0) hx hb dX4_word_1 (by decide) ?_
  refine va_put (D := g.1) (ci := 5) (v := .int (nI 0)) (ty := .int) (C := RX4) (T := TX4) (N := 9) hx hb hts (q_sub wsX40 63 rfl) tyX4 tyX4_ok nmX4 hown hE.K hP hD hS 0 rfl rfl 0 (by decide) (hts _ (List.mem_of_getElem? (i := 1) rfl)) (fun _ h9 => h9) rfl (by decide +kernel) rfl rfl (Nat.le_of_ble_eq_true rfl) dX4_word_2 (fun H locs hP hD hS => ?_)
  have hP : va_P g.1 vwCl (wMo g am (nI 0) (sa) (z)) H := hP
  have hD : va_D (va_A (wMo g am (th) (sa) (z)) s.heap.size) (wMo g am (nI 0) (sa) (z)) := hD
  have hE := hE0.kept hS.2.1
  refine lv_aload_n hx hb dX4_word_5 rfl (lv_at hl 0 rfl) ?_
  refine lv_iload_n hx hb dX4_word_6 rfl (lv_at hl 1 rfl) ?_
  refine q_roV (As := [.int (nI k)]) (rest := []) ⟨hx, hb, hml, hown, hts⟩ (c_X4_isHill hV hR (x := nI k)) (cwV 1 hts gX4_word_X4_isHill rfl rfl rfl (by decide +kernel) ⟨Nat.le_of_ble_eq_true rfl, Nat.le_of_ble_eq_true rfl⟩) hE (fun q h => hA q (Nat.le_trans hS.1 h)) hP (va_recv hE.K hP (ci := 5) (q0 := 0) rfl rfl) rfl hl.1 rfl (Nat.le_of_ble_eq_true rfl) dX4_word_7 ⟨Nat.le_of_ble_eq_true rfl, Nat.le_of_ble_eq_true rfl⟩ ?_
  refine q_ifb_eq (tgt := 48) hx hb dX4_word_10 (by decide) (fun c_1 => ?_) (fun c_1 => ?_)
  · exact absurd (inR_nI hk_ (by omega)) c_1
  · refine lv_iload_n hx hb dX4_word_13 rfl (lv_at hl 2 rfl) ?_
    refine lv_iconst (v := nI 0) hx hb dX4_word_14 (by decide) ?_
    refine lv_aload_n hx hb dX4_word_15 rfl (lv_at hl 0 rfl) ?_
    refine va_get (v := .ref (am 4)) (C := RX4) (T := TX4) (N := 9) hx hb hts (q_sub wsX40 63 rfl) hown hE.K hP 0 rfl rfl 6 (by decide) (hts _ (List.mem_of_getElem? (i := 2) rfl)) (fun _ h9 => h9) rfl dX4_word_16 ?_
    refine lv_iload_n hx hb dX4_word_19 rfl (lv_at hl 1 rfl) ?_
    refine q_iald (v := nI (ssd z k)) hx hb hE (hP 4 _ rfl) (by omega) (by omega) dX4_word_20 rfl ?_
    refine lv_iconst (v := nI 1) hx hb dX4_word_21 (by decide) ?_
    refine q_isub (v := (nI (ssd z k)) - (nI 1)) hx hb dX4_word_22 rfl ?_
    refine q_roS (As := [.int (nI w), .int (nI 0), .int ((nI (ssd z k)) - (nI 1))]) (rest := []) ⟨hx, hb, hml, hown, hts⟩ (c_X4_isIn (x := nI w) (lo := nI 0) (hi := nI (ssd z k) - nI 1)) (va_cwS 3 hts gX4_word_X4_isIn rfl rfl rfl (by decide +kernel) ⟨Nat.le_of_ble_eq_true rfl, Nat.le_of_ble_eq_true rfl⟩) hE (fun q h => hA q (Nat.le_trans hS.1 h)) trivial rfl hl.1 rfl (Nat.le_of_ble_eq_true rfl) dX4_word_23 ⟨Nat.le_of_ble_eq_true rfl, Nat.le_of_ble_eq_true rfl⟩ ?_
    refine q_ifb_eq (tgt := 48) hx hb dX4_word_26 (by decide) (fun c_2 => ?_) (fun c_2 => ?_)
    · exact absurd (by rw [pk_sub_toInt (by omega) (by omega), nI_toInt (by omega), nI_toInt (by omega)]; omega) c_2
    · refine lv_iload_n hx hb dX4_word_29 rfl (lv_at hl 3 rfl) ?_
      refine lv_iconst (v := nI 0) hx hb dX4_word_30 (by decide) ?_
      refine lv_iconst (v := nI 2) hx hb dX4_word_31 (by decide) ?_
      refine q_roS (As := [.int x, .int (nI 0), .int (nI 2)]) (rest := []) ⟨hx, hb, hml, hown, hts⟩ (c_X4_isIn (x := x) (lo := nI 0) (hi := nI 2)) (va_cwS 3 hts gX4_word_X4_isIn rfl rfl rfl (by decide +kernel) ⟨Nat.le_of_ble_eq_true rfl, Nat.le_of_ble_eq_true rfl⟩) hE (fun q h => hA q (Nat.le_trans hS.1 h)) trivial rfl hl.1 rfl (Nat.le_of_ble_eq_true rfl) dX4_word_32 ⟨Nat.le_of_ble_eq_true rfl, Nat.le_of_ble_eq_true rfl⟩ ?_
      refine q_ifb_eq (tgt := 48) hx hb dX4_word_35 (by decide) (fun c_3 => ?_) (fun c_3 => ?_)
      · refine lv_aload_n hx hb dX4_word_48 rfl (lv_at hl 0 rfl) ?_
        refine lv_iconst (v := nI 1) hx hb dX4_word_49 (by decide) ?_
        refine q_wrV (wr := []) (As := [.int (nI 1)]) (rest := []) ⟨hx, hb, hml, hown, hts⟩ (c_X4_no (th := nI 0) (x := nI 1) hV hR) (cwV 1 hts gX4_word_X4_no rfl rfl rfl (by decide +kernel) ⟨Nat.le_of_ble_eq_true rfl, Nat.le_of_ble_eq_true rfl⟩) hE hP hD hS hA (va_recv hE.K hP (ci := 5) (q0 := 0) rfl rfl) rfl hl.1 rfl (Nat.le_of_ble_eq_true rfl) dX4_word_50 ⟨Nat.le_of_ble_eq_true rfl, Nat.le_of_ble_eq_true rfl⟩ (fun _u H locs hP hD hS hE => ?_)
        have hP : va_P g.1 vwCl (wMo g am (nI 1) (sa) (z)) H := hP
        have hD : va_D (va_A (wMo g am (th) (sa) (z)) s.heap.size) (wMo g am (nI 1) (sa) (z)) := hD
        exact q_wiret (()) hx hb hr hlocks hP hD hS dX4_word_53 rfl
      · exact absurd c_3 (by rw [e0_, e4_]; omega)
set_option maxHeartbeats 4000000 in
set_option maxRecDepth 100000 in
theorem c_X4_about {l : Launch} {g : gT} {sz : Nat} {am : Nat → Nat} {th : Int32} {sa : Nat → Int32} {z : sT} (hV : VS z) (hR : RS z sa) {k q_ : Nat} (hk_ : k < sn z) (hq_ : q_ < 7) : WR (S := Unit) l yX4_about wsX4_about ({ frames := 9, cells := 0, slots := 0, locals := 200 } : Room) [.ref (am 0), .int (nI k), .int (nI q_)] g (wMo g am (th) (sa) (z)) sz (fun _ : Unit => wMo g am (nI 0) (sa) (z)) (fun _ => some (.int (abtV z (kM z) k q_))) 0 0 := by
  refine WR.of (cc := cX4_about) (maxL := 3) (ret := (some .int)) (by decide) rfl (Nat.le_of_ble_eq_true rfl) ?_
  intro p e s m below meth c hx hb hml hr hlocks hown hin0 hts hsz hE0 hP hD ls hl
  subst hsz
  have hown : s.vm.findClass RX4 = some m.cls := hown
  have hA : ∀ q, s.heap.size ≤ q → va_A (wMo g am (th) (sa) (z)) s.heap.size q := fun q h => Or.inr h
  have hE := hE0
  have hS : va_S (va_A (wMo g am (th) (sa) (z)) s.heap.size) s.heap s.heap [] := va_S.rf
  have hl : lv_has ls 3 [(0, .ref (am 0)), (1, .int (nI k)), (2, .int (nI q_))] := hl
  have hL := hV.L
  have hn := hV.n
  have hb9 := hV.h hk_
  refine lv_aload_n hx hb dX4_about_0 rfl (lv_at hl 0 rfl) ?_
  refine lv_iconst (v := nI 0) hx hb dX4_about_1 (by decide) ?_
  refine va_put (D := g.1) (ci := 5) (v := .int (nI 0)) (ty := .int) (C := RX4) (T := TX4) (N := 9) hx hb hts (q_sub wsX40 82 rfl) tyX4 tyX4_ok nmX4 hown hE.K hP hD hS 0 rfl rfl 0 (by decide) (hts _ (List.mem_of_getElem? (i := 1) rfl)) (fun _ h9 => h9) rfl (by decide +kernel) rfl rfl (Nat.le_of_ble_eq_true rfl) dX4_about_2 (fun H locs hP hD hS => ?_)
  have hP : va_P g.1 vwCl (wMo g am (nI 0) (sa) (z)) H := hP
  have hD : va_D (va_A (wMo g am (th) (sa) (z)) s.heap.size) (wMo g am (nI 0) (sa) (z)) := hD
  have hE := hE0.kept hS.2.1
  refine lv_aload_n hx hb dX4_about_5 rfl (lv_at hl 0 rfl) ?_
  refine lv_iload_n hx hb dX4_about_6 rfl (lv_at hl 1 rfl) ?_
  refine q_roV (As := [.int (nI k)]) (rest := []) ⟨hx, hb, hml, hown, hts⟩ (c_X4_isHill hV hR (x := nI k)) (cwV 1 hts gX4_about_X4_isHill rfl rfl rfl (by decide +kernel) ⟨Nat.le_of_ble_eq_true rfl, Nat.le_of_ble_eq_true rfl⟩) hE (fun q h => hA q (Nat.le_trans hS.1 h)) hP (va_recv hE.K hP (ci := 5) (q0 := 0) rfl rfl) rfl hl.1 rfl (Nat.le_of_ble_eq_true rfl) dX4_about_7 ⟨Nat.le_of_ble_eq_true rfl, Nat.le_of_ble_eq_true rfl⟩ ?_
  refine q_ifb_eq (tgt := 32) hx hb dX4_about_10 (by decide) (fun c_1 => ?_) (fun c_1 => ?_)
  · exact absurd (inR_nI hk_ (by omega)) c_1
  · refine lv_iload_n hx hb dX4_about_13 rfl (lv_at hl 2 rfl) ?_
    refine lv_iconst (v := nI 0) hx hb dX4_about_14 (by decide) ?_
    refine lv_bipush (v := nI 6) hx hb dX4_about_15 (by decide) ?_
    refine q_roS (As := [.int (nI q_), .int (nI 0), .int (nI 6)]) (rest := []) ⟨hx, hb, hml, hown, hts⟩ (c_X4_isIn (x := nI q_) (lo := nI 0) (hi := nI 6)) (va_cwS 3 hts gX4_about_X4_isIn rfl rfl rfl (by decide +kernel) ⟨Nat.le_of_ble_eq_true rfl, Nat.le_of_ble_eq_true rfl⟩) hE (fun q h => hA q (Nat.le_trans hS.1 h)) trivial rfl hl.1 rfl (Nat.le_of_ble_eq_true rfl) dX4_about_17 ⟨Nat.le_of_ble_eq_true rfl, Nat.le_of_ble_eq_true rfl⟩ ?_
    refine q_ifb_eq (tgt := 32) hx hb dX4_about_20 (by decide) (fun c_2 => ?_) (fun c_2 => ?_)
    · exact absurd (by rw [nI_toInt (by omega), nI_toInt (by omega), nI_toInt (by omega)]; omega) c_2
    · refine lv_aload_n hx hb dX4_about_23 rfl (lv_at hl 0 rfl) ?_
      refine lv_iload_n hx hb dX4_about_24 rfl (lv_at hl 1 rfl) ?_
      refine lv_iload_n hx hb dX4_about_25 rfl (lv_at hl 2 rfl) ?_
      refine q_roV (As := [.int (nI k), .int (nI q_)]) (rest := []) ⟨hx, hb, hml, hown, hts⟩ (c_X4_hillTold hV hR hk_ (q := q_) hq_) (cwV 2 hts gX4_about_X4_hillTold rfl rfl rfl (by decide +kernel) ⟨Nat.le_of_ble_eq_true rfl, Nat.le_of_ble_eq_true rfl⟩) hE (fun q h => hA q (Nat.le_trans hS.1 h)) hP (va_recv hE.K hP (ci := 5) (q0 := 0) rfl rfl) rfl hl.1 rfl (Nat.le_of_ble_eq_true rfl) dX4_about_26 ⟨Nat.le_of_ble_eq_true rfl, Nat.le_of_ble_eq_true rfl⟩ ?_
      refine lv_goto (tgt := 37) hx hb dX4_about_29 (by decide) ?_
      exact q_wiret (()) hx hb hr hlocks hP hD hS dX4_about_37 rfl
set_option maxHeartbeats 4000000 in
set_option maxRecDepth 100000 in
theorem cn_X4_about_1 {l : Launch} {g : gT} {sz : Nat} {am : Nat → Nat} {th : Int32} {sa : Nat → Int32} {z : sT} (hV : VS z) (hR : RS z sa) {x y : Int32} (hx_ : ¬ inR x (sn z)) : WR (S := Unit) l yX4_about wsX4_about ({ frames := 2, cells := 0, slots := 0, locals := 43 } : Room) [.ref (am 0), .int x, .int y] g (wMo g am (th) (sa) (z)) sz (fun _ : Unit => wMo g am (nI 1) (sa) (z)) (fun _ => some (.int (nI 0))) 0 0 := by
  refine WR.of (cc := cX4_about) (maxL := 3) (ret := (some .int)) (by decide) rfl (Nat.le_of_ble_eq_true rfl) ?_
  intro p e s m below meth c hx hb hml hr hlocks hown hin0 hts hsz hE0 hP hD ls hl
  subst hsz
  have hown : s.vm.findClass RX4 = some m.cls := hown
  have hA : ∀ q, s.heap.size ≤ q → va_A (wMo g am (th) (sa) (z)) s.heap.size q := fun q h => Or.inr h
  have hE := hE0
  have hS : va_S (va_A (wMo g am (th) (sa) (z)) s.heap.size) s.heap s.heap [] := va_S.rf
  have hl : lv_has ls 3 [(0, .ref (am 0)), (1, .int x), (2, .int y)] := hl
  have hL := hV.L
  have hn := hV.n
  refine lv_aload_n hx hb dX4_about_0 rfl (lv_at hl 0 rfl) ?_
  refine lv_iconst (v := nI 0) hx hb dX4_about_1 (by decide) ?_
  refine va_put (D := g.1) (ci := 5) (v := .int (nI 0)) (ty := .int) (C := RX4) (T := TX4) (N := 9) hx hb hts (q_sub wsX40 82 rfl) tyX4 tyX4_ok nmX4 hown hE.K hP hD hS 0 rfl rfl 0 (by decide) (hts _ (List.mem_of_getElem? (i := 1) rfl)) (fun _ h9 => h9) rfl (by decide +kernel) rfl rfl (Nat.le_of_ble_eq_true rfl) dX4_about_2 (fun H locs hP hD hS => ?_)
  have hP : va_P g.1 vwCl (wMo g am (nI 0) (sa) (z)) H := hP
  have hD : va_D (va_A (wMo g am (th) (sa) (z)) s.heap.size) (wMo g am (nI 0) (sa) (z)) := hD
  have hE := hE0.kept hS.2.1
  refine lv_aload_n hx hb dX4_about_5 rfl (lv_at hl 0 rfl) ?_
  refine lv_iload_n hx hb dX4_about_6 rfl (lv_at hl 1 rfl) ?_
  refine q_roV (As := [.int x]) (rest := []) ⟨hx, hb, hml, hown, hts⟩ (c_X4_isHill hV hR (x := x)) (cwV 1 hts gX4_about_X4_isHill rfl rfl rfl (by decide +kernel) ⟨Nat.le_of_ble_eq_true rfl, Nat.le_of_ble_eq_true rfl⟩) hE (fun q h => hA q (Nat.le_trans hS.1 h)) hP (va_recv hE.K hP (ci := 5) (q0 := 0) rfl rfl) rfl hl.1 rfl (Nat.le_of_ble_eq_true rfl) dX4_about_7 ⟨Nat.le_of_ble_eq_true rfl, Nat.le_of_ble_eq_true rfl⟩ ?_
  refine q_ifb_eq (tgt := 32) hx hb dX4_about_10 (by decide) (fun c_1 => ?_) (fun c_1 => ?_)
  · refine lv_aload_n hx hb dX4_about_32 rfl (lv_at hl 0 rfl) ?_
    refine lv_iconst (v := nI 1) hx hb dX4_about_33 (by decide) ?_
    refine q_wrV (wr := []) (As := [.int (nI 1)]) (rest := []) ⟨hx, hb, hml, hown, hts⟩ (c_X4_no (th := nI 0) (x := nI 1) hV hR) (cwV 1 hts gX4_about_X4_no rfl rfl rfl (by decide +kernel) ⟨Nat.le_of_ble_eq_true rfl, Nat.le_of_ble_eq_true rfl⟩) hE hP hD hS hA (va_recv hE.K hP (ci := 5) (q0 := 0) rfl rfl) rfl hl.1 rfl (Nat.le_of_ble_eq_true rfl) dX4_about_34 ⟨Nat.le_of_ble_eq_true rfl, Nat.le_of_ble_eq_true rfl⟩ (fun _u H locs hP hD hS hE => ?_)
    have hP : va_P g.1 vwCl (wMo g am (nI 1) (sa) (z)) H := hP
    have hD : va_D (va_A (wMo g am (th) (sa) (z)) s.heap.size) (wMo g am (nI 1) (sa) (z)) := hD
    exact q_wiret (()) hx hb hr hlocks hP hD hS dX4_about_37 rfl
  · exact absurd c_1 (hx_)
set_option maxHeartbeats 4000000 in
set_option maxRecDepth 100000 in
theorem cn_X4_about_2 {l : Launch} {g : gT} {sz : Nat} {am : Nat → Nat} {th : Int32} {sa : Nat → Int32} {z : sT} (hV : VS z) (hR : RS z sa) {k : Nat} {x : Int32} (hk_ : k < sn z) (hx_ : ¬ inR x (7)) : WR (S := Unit) l yX4_about wsX4_about ({ frames := 2, cells := 0, slots := 0, locals := 43 } : Room) [.ref (am 0), .int (nI k), .int x] g (wMo g am (th) (sa) (z)) sz (fun _ : Unit => wMo g am (nI 1) (sa) (z)) (fun _ => some (.int (nI 0))) 0 0 := by
  refine WR.of (cc := cX4_about) (maxL := 3) (ret := (some .int)) (by decide) rfl (Nat.le_of_ble_eq_true rfl) ?_
  intro p e s m below meth c hx hb hml hr hlocks hown hin0 hts hsz hE0 hP hD ls hl
  subst hsz
  have hown : s.vm.findClass RX4 = some m.cls := hown
  have hA : ∀ q, s.heap.size ≤ q → va_A (wMo g am (th) (sa) (z)) s.heap.size q := fun q h => Or.inr h
  have hE := hE0
  have hS : va_S (va_A (wMo g am (th) (sa) (z)) s.heap.size) s.heap s.heap [] := va_S.rf
  have hl : lv_has ls 3 [(0, .ref (am 0)), (1, .int (nI k)), (2, .int x)] := hl
  have hL := hV.L
  have hn := hV.n
  have hb9 := hV.h hk_
  have hx_ : ¬ (0 ≤ x.toInt ∧ x.toInt < ((7 : Nat) : Int)) := hx_
  have e0_ : (nI 0).toInt = 0 := rfl
  have e4_ : (nI 6).toInt = 6 := rfl
  refine lv_aload_n hx hb dX4_about_0 rfl (lv_at hl 0 rfl) ?_
  refine lv_iconst (v := nI 0) hx hb dX4_about_1 (by decide) ?_
  refine va_put (D := g.1) (ci := 5) (v := .int (nI 0)) (ty := .int) (C := RX4) (T := TX4) (N := 9) hx hb hts (q_sub wsX40 82 rfl) tyX4 tyX4_ok nmX4 hown hE.K hP hD hS 0 rfl rfl 0 (by decide) (hts _ (List.mem_of_getElem? (i := 1) rfl)) (fun _ h9 => h9) rfl (by decide +kernel) rfl rfl (Nat.le_of_ble_eq_true rfl) dX4_about_2 (fun H locs hP hD hS => ?_)
  have hP : va_P g.1 vwCl (wMo g am (nI 0) (sa) (z)) H := hP
  have hD : va_D (va_A (wMo g am (th) (sa) (z)) s.heap.size) (wMo g am (nI 0) (sa) (z)) := hD
  have hE := hE0.kept hS.2.1
  refine lv_aload_n hx hb dX4_about_5 rfl (lv_at hl 0 rfl) ?_
  refine lv_iload_n hx hb dX4_about_6 rfl (lv_at hl 1 rfl) ?_
  refine q_roV (As := [.int (nI k)]) (rest := []) ⟨hx, hb, hml, hown, hts⟩ (c_X4_isHill hV hR (x := nI k)) (cwV 1 hts gX4_about_X4_isHill rfl rfl rfl (by decide +kernel) ⟨Nat.le_of_ble_eq_true rfl, Nat.le_of_ble_eq_true rfl⟩) hE (fun q h => hA q (Nat.le_trans hS.1 h)) hP (va_recv hE.K hP (ci := 5) (q0 := 0) rfl rfl) rfl hl.1 rfl (Nat.le_of_ble_eq_true rfl) dX4_about_7 ⟨Nat.le_of_ble_eq_true rfl, Nat.le_of_ble_eq_true rfl⟩ ?_
  refine q_ifb_eq (tgt := 32) hx hb dX4_about_10 (by decide) (fun c_1 => ?_) (fun c_1 => ?_)
  · exact absurd (inR_nI hk_ (by omega)) c_1
  · refine lv_iload_n hx hb dX4_about_13 rfl (lv_at hl 2 rfl) ?_
    refine lv_iconst (v := nI 0) hx hb dX4_about_14 (by decide) ?_
    refine lv_bipush (v := nI 6) hx hb dX4_about_15 (by decide) ?_
    refine q_roS (As := [.int x, .int (nI 0), .int (nI 6)]) (rest := []) ⟨hx, hb, hml, hown, hts⟩ (c_X4_isIn (x := x) (lo := nI 0) (hi := nI 6)) (va_cwS 3 hts gX4_about_X4_isIn rfl rfl rfl (by decide +kernel) ⟨Nat.le_of_ble_eq_true rfl, Nat.le_of_ble_eq_true rfl⟩) hE (fun q h => hA q (Nat.le_trans hS.1 h)) trivial rfl hl.1 rfl (Nat.le_of_ble_eq_true rfl) dX4_about_17 ⟨Nat.le_of_ble_eq_true rfl, Nat.le_of_ble_eq_true rfl⟩ ?_
    refine q_ifb_eq (tgt := 32) hx hb dX4_about_20 (by decide) (fun c_2 => ?_) (fun c_2 => ?_)
    · refine lv_aload_n hx hb dX4_about_32 rfl (lv_at hl 0 rfl) ?_
      refine lv_iconst (v := nI 1) hx hb dX4_about_33 (by decide) ?_
      refine q_wrV (wr := []) (As := [.int (nI 1)]) (rest := []) ⟨hx, hb, hml, hown, hts⟩ (c_X4_no (th := nI 0) (x := nI 1) hV hR) (cwV 1 hts gX4_about_X4_no rfl rfl rfl (by decide +kernel) ⟨Nat.le_of_ble_eq_true rfl, Nat.le_of_ble_eq_true rfl⟩) hE hP hD hS hA (va_recv hE.K hP (ci := 5) (q0 := 0) rfl rfl) rfl hl.1 rfl (Nat.le_of_ble_eq_true rfl) dX4_about_34 ⟨Nat.le_of_ble_eq_true rfl, Nat.le_of_ble_eq_true rfl⟩ (fun _u H locs hP hD hS hE => ?_)
      have hP : va_P g.1 vwCl (wMo g am (nI 1) (sa) (z)) H := hP
      have hD : va_D (va_A (wMo g am (th) (sa) (z)) s.heap.size) (wMo g am (nI 1) (sa) (z)) := hD
      exact q_wiret (()) hx hb hr hlocks hP hD hS dX4_about_37 rfl
    · exact absurd c_2 (by rw [e0_, e4_]; omega)
set_option maxHeartbeats 4000000 in
set_option maxRecDepth 100000 in
theorem c_X4_count {l : Launch} {g : gT} {sz : Nat} {am : Nat → Nat} {th : Int32} {sa : Nat → Int32} {z : sT} (hV : VS z) (hR : RS z sa) {q_ : Nat} (hq_ : q_ < 7) : WR (S := Unit) l yX4_count wsX4_count ({ frames := 10, cells := 0, slots := 0, locals := 223 } : Room) [.ref (am 0), .int (nI q_)] g (wMo g am (th) (sa) (z)) sz (fun _ : Unit => wMo g am (nI 0) (sa) (z)) (fun _ => some (.int (cntV z (kM z) q_))) 0 0 := by
  refine WR.of (cc := cX4_count) (maxL := 2) (ret := (some .int)) (by decide) rfl (Nat.le_of_ble_eq_true rfl) ?_
  intro p e s m below meth c hx hb hml hr hlocks hown hin0 hts hsz hE0 hP hD ls hl
  subst hsz
  have hown : s.vm.findClass RX4 = some m.cls := hown
  have hA : ∀ q, s.heap.size ≤ q → va_A (wMo g am (th) (sa) (z)) s.heap.size q := fun q h => Or.inr h
  have hE := hE0
  have hS : va_S (va_A (wMo g am (th) (sa) (z)) s.heap.size) s.heap s.heap [] := va_S.rf
  have hl : lv_has ls 2 [(0, .ref (am 0)), (1, .int (nI q_))] := hl
  have hL := hV.L
  have hn := hV.n
  refine lv_aload_n hx hb dX4_count_0 rfl (lv_at hl 0 rfl) ?_
  refine lv_iconst (v := nI 0) hx hb dX4_count_1 (by decide) ?_
  refine va_put (D := g.1) (ci := 5) (v := .int (nI 0)) (ty := .int) (C := RX4) (T := TX4) (N := 9) hx hb hts (q_sub wsX40 90 rfl) tyX4 tyX4_ok nmX4 hown hE.K hP hD hS 0 rfl rfl 0 (by decide) (hts _ (List.mem_of_getElem? (i := 1) rfl)) (fun _ h9 => h9) rfl (by decide +kernel) rfl rfl (Nat.le_of_ble_eq_true rfl) dX4_count_2 (fun H locs hP hD hS => ?_)
  have hP : va_P g.1 vwCl (wMo g am (nI 0) (sa) (z)) H := hP
  have hD : va_D (va_A (wMo g am (th) (sa) (z)) s.heap.size) (wMo g am (nI 0) (sa) (z)) := hD
  have hE := hE0.kept hS.2.1
  refine lv_iload_n hx hb dX4_count_5 rfl (lv_at hl 1 rfl) ?_
  refine lv_iconst (v := nI 0) hx hb dX4_count_6 (by decide) ?_
  refine lv_bipush (v := nI 6) hx hb dX4_count_7 (by decide) ?_
  refine q_roS (As := [.int (nI q_), .int (nI 0), .int (nI 6)]) (rest := []) ⟨hx, hb, hml, hown, hts⟩ (c_X4_isIn (x := nI q_) (lo := nI 0) (hi := nI 6)) (va_cwS 3 hts gX4_count_X4_isIn rfl rfl rfl (by decide +kernel) ⟨Nat.le_of_ble_eq_true rfl, Nat.le_of_ble_eq_true rfl⟩) hE (fun q h => hA q (Nat.le_trans hS.1 h)) trivial rfl hl.1 rfl (Nat.le_of_ble_eq_true rfl) dX4_count_9 ⟨Nat.le_of_ble_eq_true rfl, Nat.le_of_ble_eq_true rfl⟩ ?_
  refine q_ifb_eq (tgt := 23) hx hb dX4_count_12 (by decide) (fun c_1 => ?_) (fun c_1 => ?_)
  · exact absurd (by rw [nI_toInt (by omega), nI_toInt (by omega), nI_toInt (by omega)]; omega) c_1
  · refine lv_aload_n hx hb dX4_count_15 rfl (lv_at hl 0 rfl) ?_
    refine lv_iload_n hx hb dX4_count_16 rfl (lv_at hl 1 rfl) ?_
    refine q_roV (As := [.int (nI q_)]) (rest := []) ⟨hx, hb, hml, hown, hts⟩ (c_X4_counted hV hR (q := q_) hq_) (cwV 1 hts gX4_count_X4_counted rfl rfl rfl (by decide +kernel) ⟨Nat.le_of_ble_eq_true rfl, Nat.le_of_ble_eq_true rfl⟩) hE (fun q h => hA q (Nat.le_trans hS.1 h)) hP (va_recv hE.K hP (ci := 5) (q0 := 0) rfl rfl) rfl hl.1 rfl (Nat.le_of_ble_eq_true rfl) dX4_count_17 ⟨Nat.le_of_ble_eq_true rfl, Nat.le_of_ble_eq_true rfl⟩ ?_
    refine lv_goto (tgt := 28) hx hb dX4_count_20 (by decide) ?_
    exact q_wiret (()) hx hb hr hlocks hP hD hS dX4_count_28 rfl
set_option maxHeartbeats 4000000 in
set_option maxRecDepth 100000 in
theorem cn_X4_count_1 {l : Launch} {g : gT} {sz : Nat} {am : Nat → Nat} {th : Int32} {sa : Nat → Int32} {z : sT} (hV : VS z) (hR : RS z sa) {x : Int32} (hx_ : ¬ inR x (7)) : WR (S := Unit) l yX4_count wsX4_count ({ frames := 1, cells := 0, slots := 0, locals := 22 } : Room) [.ref (am 0), .int x] g (wMo g am (th) (sa) (z)) sz (fun _ : Unit => wMo g am (nI 1) (sa) (z)) (fun _ => some (.int (nI 0))) 0 0 := by
  refine WR.of (cc := cX4_count) (maxL := 2) (ret := (some .int)) (by decide) rfl (Nat.le_of_ble_eq_true rfl) ?_
  intro p e s m below meth c hx hb hml hr hlocks hown hin0 hts hsz hE0 hP hD ls hl
  subst hsz
  have hown : s.vm.findClass RX4 = some m.cls := hown
  have hA : ∀ q, s.heap.size ≤ q → va_A (wMo g am (th) (sa) (z)) s.heap.size q := fun q h => Or.inr h
  have hE := hE0
  have hS : va_S (va_A (wMo g am (th) (sa) (z)) s.heap.size) s.heap s.heap [] := va_S.rf
  have hl : lv_has ls 2 [(0, .ref (am 0)), (1, .int x)] := hl
  have hL := hV.L
  have hn := hV.n
  have hx_ : ¬ (0 ≤ x.toInt ∧ x.toInt < ((7 : Nat) : Int)) := hx_
  have e0_ : (nI 0).toInt = 0 := rfl
  have e4_ : (nI 6).toInt = 6 := rfl
  refine lv_aload_n hx hb dX4_count_0 rfl (lv_at hl 0 rfl) ?_
  refine lv_iconst (v := nI 0) hx hb dX4_count_1 (by decide) ?_
  refine va_put (D := g.1) (ci := 5) (v := .int (nI 0)) (ty := .int) (C := RX4) (T := TX4) (N := 9) hx hb hts (q_sub wsX40 90 rfl) tyX4 tyX4_ok nmX4 hown hE.K hP hD hS 0 rfl rfl 0 (by decide) (hts _ (List.mem_of_getElem? (i := 1) rfl)) (fun _ h9 => h9) rfl (by decide +kernel) rfl rfl (Nat.le_of_ble_eq_true rfl) dX4_count_2 (fun H locs hP hD hS => ?_)
  have hP : va_P g.1 vwCl (wMo g am (nI 0) (sa) (z)) H := hP
  have hD : va_D (va_A (wMo g am (th) (sa) (z)) s.heap.size) (wMo g am (nI 0) (sa) (z)) := hD
  have hE := hE0.kept hS.2.1
  refine lv_iload_n hx hb dX4_count_5 rfl (lv_at hl 1 rfl) ?_
  refine lv_iconst (v := nI 0) hx hb dX4_count_6 (by decide) ?_
  refine lv_bipush (v := nI 6) hx hb dX4_count_7 (by decide) ?_
  refine q_roS (As := [.int x, .int (nI 0), .int (nI 6)]) (rest := []) ⟨hx, hb, hml, hown, hts⟩ (c_X4_isIn (x := x) (lo := nI 0) (hi := nI 6)) (va_cwS 3 hts gX4_count_X4_isIn rfl rfl rfl (by decide +kernel) ⟨Nat.le_of_ble_eq_true rfl, Nat.le_of_ble_eq_true rfl⟩) hE (fun q h => hA q (Nat.le_trans hS.1 h)) trivial rfl hl.1 rfl (Nat.le_of_ble_eq_true rfl) dX4_count_9 ⟨Nat.le_of_ble_eq_true rfl, Nat.le_of_ble_eq_true rfl⟩ ?_
  refine q_ifb_eq (tgt := 23) hx hb dX4_count_12 (by decide) (fun c_1 => ?_) (fun c_1 => ?_)
  · refine lv_aload_n hx hb dX4_count_23 rfl (lv_at hl 0 rfl) ?_
    refine lv_iconst (v := nI 1) hx hb dX4_count_24 (by decide) ?_
    refine q_wrV (wr := []) (As := [.int (nI 1)]) (rest := []) ⟨hx, hb, hml, hown, hts⟩ (c_X4_no (th := nI 0) (x := nI 1) hV hR) (cwV 1 hts gX4_count_X4_no rfl rfl rfl (by decide +kernel) ⟨Nat.le_of_ble_eq_true rfl, Nat.le_of_ble_eq_true rfl⟩) hE hP hD hS hA (va_recv hE.K hP (ci := 5) (q0 := 0) rfl rfl) rfl hl.1 rfl (Nat.le_of_ble_eq_true rfl) dX4_count_25 ⟨Nat.le_of_ble_eq_true rfl, Nat.le_of_ble_eq_true rfl⟩ (fun _u H locs hP hD hS hE => ?_)
    have hP : va_P g.1 vwCl (wMo g am (nI 1) (sa) (z)) H := hP
    have hD : va_D (va_A (wMo g am (th) (sa) (z)) s.heap.size) (wMo g am (nI 1) (sa) (z)) := hD
    exact q_wiret (()) hx hb hr hlocks hP hD hS dX4_count_28 rfl
  · exact absurd c_1 (by rw [e0_, e4_]; omega)
set_option maxHeartbeats 4000000 in
set_option maxRecDepth 100000 in
theorem c_X4_alike {l : Launch} {g : gT} {sz : Nat} {am : Nat → Nat} {th : Int32} {sa : Nat → Int32} {z : sT} (hV : VS z) (hR : RS z sa) {a b s_ : Nat} (ha_ : a < sL z) (hb_ : b < sL z) (hs_ : s_ < sL z) : WR (S := Unit) l yX4_alike wsX4_alike ({ frames := 3, cells := 0, slots := 0, locals := 66 } : Room) [.ref (am 0), .int (nI a), .int (nI b), .int (nI s_)] g (wMo g am (th) (sa) (z)) sz (fun _ : Unit => wMo g am (nI 0) (sa) (z)) (fun _ => some (.int (likF (sL z) a b s_))) 0 0 := by
  refine WR.of (cc := cX4_alike) (maxL := 4) (ret := (some .int)) (by decide) rfl (Nat.le_of_ble_eq_true rfl) ?_
  intro p e s m below meth c hx hb hml hr hlocks hown hin0 hts hsz hE0 hP hD ls hl
  subst hsz
  have hown : s.vm.findClass RX4 = some m.cls := hown
  have hA : ∀ q, s.heap.size ≤ q → va_A (wMo g am (th) (sa) (z)) s.heap.size q := fun q h => Or.inr h
  have hE := hE0
  have hS : va_S (va_A (wMo g am (th) (sa) (z)) s.heap.size) s.heap s.heap [] := va_S.rf
  have hl : lv_has ls 4 [(0, .ref (am 0)), (1, .int (nI a)), (2, .int (nI b)), (3, .int (nI s_))] := hl
  have hL := hV.L
  have hn := hV.n
  refine lv_aload_n hx hb dX4_alike_0 rfl (lv_at hl 0 rfl) ?_
  refine lv_iconst (v := nI 0) hx hb dX4_alike_1 (by decide) ?_
  refine va_put (D := g.1) (ci := 5) (v := .int (nI 0)) (ty := .int) (C := RX4) (T := TX4) (N := 9) hx hb hts (q_sub wsX40 33 rfl) tyX4 tyX4_ok nmX4 hown hE.K hP hD hS 0 rfl rfl 0 (by decide) (hts _ (List.mem_of_getElem? (i := 1) rfl)) (fun _ h9 => h9) rfl (by decide +kernel) rfl rfl (Nat.le_of_ble_eq_true rfl) dX4_alike_2 (fun H locs hP hD hS => ?_)
  have hP : va_P g.1 vwCl (wMo g am (nI 0) (sa) (z)) H := hP
  have hD : va_D (va_A (wMo g am (th) (sa) (z)) s.heap.size) (wMo g am (nI 0) (sa) (z)) := hD
  have hE := hE0.kept hS.2.1
  refine lv_aload_n hx hb dX4_alike_5 rfl (lv_at hl 0 rfl) ?_
  refine lv_iload_n hx hb dX4_alike_6 rfl (lv_at hl 1 rfl) ?_
  refine q_roV (As := [.int (nI a)]) (rest := []) ⟨hx, hb, hml, hown, hts⟩ (c_X4_isCode hV hR (x := nI a)) (cwV 1 hts gX4_alike_X4_isCode rfl rfl rfl (by decide +kernel) ⟨Nat.le_of_ble_eq_true rfl, Nat.le_of_ble_eq_true rfl⟩) hE (fun q h => hA q (Nat.le_trans hS.1 h)) hP (va_recv hE.K hP (ci := 5) (q0 := 0) rfl rfl) rfl hl.1 rfl (Nat.le_of_ble_eq_true rfl) dX4_alike_7 ⟨Nat.le_of_ble_eq_true rfl, Nat.le_of_ble_eq_true rfl⟩ ?_
  refine q_ifb_eq (tgt := 21) hx hb dX4_alike_10 (by decide) (fun c_1 => ?_) (fun c_1 => ?_)
  · exact absurd (inR_nI ha_ (by omega)) c_1
  · refine lv_aload_n hx hb dX4_alike_13 rfl (lv_at hl 0 rfl) ?_
    refine lv_iload_n hx hb dX4_alike_14 rfl (lv_at hl 2 rfl) ?_
    refine q_roV (As := [.int (nI b)]) (rest := []) ⟨hx, hb, hml, hown, hts⟩ (c_X4_isCode hV hR (x := nI b)) (cwV 1 hts gX4_alike_X4_isCode rfl rfl rfl (by decide +kernel) ⟨Nat.le_of_ble_eq_true rfl, Nat.le_of_ble_eq_true rfl⟩) hE (fun q h => hA q (Nat.le_trans hS.1 h)) hP (va_recv hE.K hP (ci := 5) (q0 := 0) rfl rfl) rfl hl.1 rfl (Nat.le_of_ble_eq_true rfl) dX4_alike_15 ⟨Nat.le_of_ble_eq_true rfl, Nat.le_of_ble_eq_true rfl⟩ ?_
    refine q_ifb_ne (tgt := 27) hx hb dX4_alike_18 (by decide) (fun c_2 => ?_) (fun c_2 => ?_)
    · refine lv_aload_n hx hb dX4_alike_27 rfl (lv_at hl 0 rfl) ?_
      refine lv_iload_n hx hb dX4_alike_28 rfl (lv_at hl 3 rfl) ?_
      refine q_roV (As := [.int (nI s_)]) (rest := []) ⟨hx, hb, hml, hown, hts⟩ (c_X4_isCode hV hR (x := nI s_)) (cwV 1 hts gX4_alike_X4_isCode rfl rfl rfl (by decide +kernel) ⟨Nat.le_of_ble_eq_true rfl, Nat.le_of_ble_eq_true rfl⟩) hE (fun q h => hA q (Nat.le_trans hS.1 h)) hP (va_recv hE.K hP (ci := 5) (q0 := 0) rfl rfl) rfl hl.1 rfl (Nat.le_of_ble_eq_true rfl) dX4_alike_29 ⟨Nat.le_of_ble_eq_true rfl, Nat.le_of_ble_eq_true rfl⟩ ?_
      refine q_ifb_eq (tgt := 45) hx hb dX4_alike_32 (by decide) (fun c_3 => ?_) (fun c_3 => ?_)
      · exact absurd (inR_nI hs_ (by omega)) c_3
      · refine lv_aload_n hx hb dX4_alike_35 rfl (lv_at hl 0 rfl) ?_
        refine lv_iload_n hx hb dX4_alike_36 rfl (lv_at hl 1 rfl) ?_
        refine lv_iload_n hx hb dX4_alike_37 rfl (lv_at hl 2 rfl) ?_
        refine lv_iload_n hx hb dX4_alike_38 rfl (lv_at hl 3 rfl) ?_
        refine q_roV (As := [.int (nI a), .int (nI b), .int (nI s_)]) (rest := []) ⟨hx, hb, hml, hown, hts⟩ (c_X4_likeness hV hR (a := a) (b := b) (s_ := s_) (by omega) (by omega) (by omega)) (cwV 3 hts gX4_alike_X4_likeness rfl rfl rfl (by decide +kernel) ⟨Nat.le_of_ble_eq_true rfl, Nat.le_of_ble_eq_true rfl⟩) hE (fun q h => hA q (Nat.le_trans hS.1 h)) hP (va_recv hE.K hP (ci := 5) (q0 := 0) rfl rfl) rfl hl.1 rfl (Nat.le_of_ble_eq_true rfl) dX4_alike_39 ⟨Nat.le_of_ble_eq_true rfl, Nat.le_of_ble_eq_true rfl⟩ ?_
        refine lv_goto (tgt := 50) hx hb dX4_alike_42 (by decide) ?_
        exact q_wiret (()) hx hb hr hlocks hP hD hS dX4_alike_50 rfl
    · exact absurd (inR_nI hb_ (by omega)) c_2
set_option maxHeartbeats 4000000 in
set_option maxRecDepth 100000 in
theorem cn_X4_alike_1 {l : Launch} {g : gT} {sz : Nat} {am : Nat → Nat} {th : Int32} {sa : Nat → Int32} {z : sT} (hV : VS z) (hR : RS z sa) {x y u : Int32} (hx_ : ¬ inR x (sL z)) : WR (S := Unit) l yX4_alike wsX4_alike ({ frames := 2, cells := 0, slots := 0, locals := 43 } : Room) [.ref (am 0), .int x, .int y, .int u] g (wMo g am (th) (sa) (z)) sz (fun _ : Unit => wMo g am (nI 1) (sa) (z)) (fun _ => some (.int (nI 0))) 0 0 := by
  refine WR.of (cc := cX4_alike) (maxL := 4) (ret := (some .int)) (by decide) rfl (Nat.le_of_ble_eq_true rfl) ?_
  intro p e s m below meth c hx hb hml hr hlocks hown hin0 hts hsz hE0 hP hD ls hl
  subst hsz
  have hown : s.vm.findClass RX4 = some m.cls := hown
  have hA : ∀ q, s.heap.size ≤ q → va_A (wMo g am (th) (sa) (z)) s.heap.size q := fun q h => Or.inr h
  have hE := hE0
  have hS : va_S (va_A (wMo g am (th) (sa) (z)) s.heap.size) s.heap s.heap [] := va_S.rf
  have hl : lv_has ls 4 [(0, .ref (am 0)), (1, .int x), (2, .int y), (3, .int u)] := hl
  have hL := hV.L
  have hn := hV.n
  refine lv_aload_n hx hb dX4_alike_0 rfl (lv_at hl 0 rfl) ?_
  refine lv_iconst (v := nI 0) hx hb dX4_alike_1 (by decide) ?_
  refine va_put (D := g.1) (ci := 5) (v := .int (nI 0)) (ty := .int) (C := RX4) (T := TX4) (N := 9) hx hb hts (q_sub wsX40 33 rfl) tyX4 tyX4_ok nmX4 hown hE.K hP hD hS 0 rfl rfl 0 (by decide) (hts _ (List.mem_of_getElem? (i := 1) rfl)) (fun _ h9 => h9) rfl (by decide +kernel) rfl rfl (Nat.le_of_ble_eq_true rfl) dX4_alike_2 (fun H locs hP hD hS => ?_)
  have hP : va_P g.1 vwCl (wMo g am (nI 0) (sa) (z)) H := hP
  have hD : va_D (va_A (wMo g am (th) (sa) (z)) s.heap.size) (wMo g am (nI 0) (sa) (z)) := hD
  have hE := hE0.kept hS.2.1
  refine lv_aload_n hx hb dX4_alike_5 rfl (lv_at hl 0 rfl) ?_
  refine lv_iload_n hx hb dX4_alike_6 rfl (lv_at hl 1 rfl) ?_
  refine q_roV (As := [.int x]) (rest := []) ⟨hx, hb, hml, hown, hts⟩ (c_X4_isCode hV hR (x := x)) (cwV 1 hts gX4_alike_X4_isCode rfl rfl rfl (by decide +kernel) ⟨Nat.le_of_ble_eq_true rfl, Nat.le_of_ble_eq_true rfl⟩) hE (fun q h => hA q (Nat.le_trans hS.1 h)) hP (va_recv hE.K hP (ci := 5) (q0 := 0) rfl rfl) rfl hl.1 rfl (Nat.le_of_ble_eq_true rfl) dX4_alike_7 ⟨Nat.le_of_ble_eq_true rfl, Nat.le_of_ble_eq_true rfl⟩ ?_
  refine q_ifb_eq (tgt := 21) hx hb dX4_alike_10 (by decide) (fun c_1 => ?_) (fun c_1 => ?_)
  · refine lv_aload_n hx hb dX4_alike_21 rfl (lv_at hl 0 rfl) ?_
    refine lv_iconst (v := nI 1) hx hb dX4_alike_22 (by decide) ?_
    refine q_wrV (wr := []) (As := [.int (nI 1)]) (rest := []) ⟨hx, hb, hml, hown, hts⟩ (c_X4_no (th := nI 0) (x := nI 1) hV hR) (cwV 1 hts gX4_alike_X4_no rfl rfl rfl (by decide +kernel) ⟨Nat.le_of_ble_eq_true rfl, Nat.le_of_ble_eq_true rfl⟩) hE hP hD hS hA (va_recv hE.K hP (ci := 5) (q0 := 0) rfl rfl) rfl hl.1 rfl (Nat.le_of_ble_eq_true rfl) dX4_alike_23 ⟨Nat.le_of_ble_eq_true rfl, Nat.le_of_ble_eq_true rfl⟩ (fun _u H locs hP hD hS hE => ?_)
    have hP : va_P g.1 vwCl (wMo g am (nI 1) (sa) (z)) H := hP
    have hD : va_D (va_A (wMo g am (th) (sa) (z)) s.heap.size) (wMo g am (nI 1) (sa) (z)) := hD
    exact q_wiret (()) hx hb hr hlocks hP hD hS dX4_alike_26 rfl
  · exact absurd c_1 hx_
set_option maxHeartbeats 4000000 in
set_option maxRecDepth 100000 in
theorem cn_X4_alike_2 {l : Launch} {g : gT} {sz : Nat} {am : Nat → Nat} {th : Int32} {sa : Nat → Int32} {z : sT} (hV : VS z) (hR : RS z sa) {a : Nat} {x u : Int32} (ha_ : a < sL z) (hx_ : ¬ inR x (sL z)) : WR (S := Unit) l yX4_alike wsX4_alike ({ frames := 2, cells := 0, slots := 0, locals := 43 } : Room) [.ref (am 0), .int (nI a), .int x, .int u] g (wMo g am (th) (sa) (z)) sz (fun _ : Unit => wMo g am (nI 1) (sa) (z)) (fun _ => some (.int (nI 0))) 0 0 := by
  refine WR.of (cc := cX4_alike) (maxL := 4) (ret := (some .int)) (by decide) rfl (Nat.le_of_ble_eq_true rfl) ?_
  intro p e s m below meth c hx hb hml hr hlocks hown hin0 hts hsz hE0 hP hD ls hl
  subst hsz
  have hown : s.vm.findClass RX4 = some m.cls := hown
  have hA : ∀ q, s.heap.size ≤ q → va_A (wMo g am (th) (sa) (z)) s.heap.size q := fun q h => Or.inr h
  have hE := hE0
  have hS : va_S (va_A (wMo g am (th) (sa) (z)) s.heap.size) s.heap s.heap [] := va_S.rf
  have hl : lv_has ls 4 [(0, .ref (am 0)), (1, .int (nI a)), (2, .int x), (3, .int u)] := hl
  have hL := hV.L
  have hn := hV.n
  refine lv_aload_n hx hb dX4_alike_0 rfl (lv_at hl 0 rfl) ?_
  refine lv_iconst (v := nI 0) hx hb dX4_alike_1 (by decide) ?_
  refine va_put (D := g.1) (ci := 5) (v := .int (nI 0)) (ty := .int) (C := RX4) (T := TX4) (N := 9) hx hb hts (q_sub wsX40 33 rfl) tyX4 tyX4_ok nmX4 hown hE.K hP hD hS 0 rfl rfl 0 (by decide) (hts _ (List.mem_of_getElem? (i := 1) rfl)) (fun _ h9 => h9) rfl (by decide +kernel) rfl rfl (Nat.le_of_ble_eq_true rfl) dX4_alike_2 (fun H locs hP hD hS => ?_)
  have hP : va_P g.1 vwCl (wMo g am (nI 0) (sa) (z)) H := hP
  have hD : va_D (va_A (wMo g am (th) (sa) (z)) s.heap.size) (wMo g am (nI 0) (sa) (z)) := hD
  have hE := hE0.kept hS.2.1
  refine lv_aload_n hx hb dX4_alike_5 rfl (lv_at hl 0 rfl) ?_
  refine lv_iload_n hx hb dX4_alike_6 rfl (lv_at hl 1 rfl) ?_
  refine q_roV (As := [.int (nI a)]) (rest := []) ⟨hx, hb, hml, hown, hts⟩ (c_X4_isCode hV hR (x := nI a)) (cwV 1 hts gX4_alike_X4_isCode rfl rfl rfl (by decide +kernel) ⟨Nat.le_of_ble_eq_true rfl, Nat.le_of_ble_eq_true rfl⟩) hE (fun q h => hA q (Nat.le_trans hS.1 h)) hP (va_recv hE.K hP (ci := 5) (q0 := 0) rfl rfl) rfl hl.1 rfl (Nat.le_of_ble_eq_true rfl) dX4_alike_7 ⟨Nat.le_of_ble_eq_true rfl, Nat.le_of_ble_eq_true rfl⟩ ?_
  refine q_ifb_eq (tgt := 21) hx hb dX4_alike_10 (by decide) (fun c_1 => ?_) (fun c_1 => ?_)
  · exact absurd (inR_nI ha_ (by omega)) c_1
  · refine lv_aload_n hx hb dX4_alike_13 rfl (lv_at hl 0 rfl) ?_
    refine lv_iload_n hx hb dX4_alike_14 rfl (lv_at hl 2 rfl) ?_
    refine q_roV (As := [.int x]) (rest := []) ⟨hx, hb, hml, hown, hts⟩ (c_X4_isCode hV hR (x := x)) (cwV 1 hts gX4_alike_X4_isCode rfl rfl rfl (by decide +kernel) ⟨Nat.le_of_ble_eq_true rfl, Nat.le_of_ble_eq_true rfl⟩) hE (fun q h => hA q (Nat.le_trans hS.1 h)) hP (va_recv hE.K hP (ci := 5) (q0 := 0) rfl rfl) rfl hl.1 rfl (Nat.le_of_ble_eq_true rfl) dX4_alike_15 ⟨Nat.le_of_ble_eq_true rfl, Nat.le_of_ble_eq_true rfl⟩ ?_
    refine q_ifb_ne (tgt := 27) hx hb dX4_alike_18 (by decide) (fun c_2 => ?_) (fun c_2 => ?_)
    · exact absurd c_2 (hx_)
    · refine lv_aload_n hx hb dX4_alike_21 rfl (lv_at hl 0 rfl) ?_
      refine lv_iconst (v := nI 1) hx hb dX4_alike_22 (by decide) ?_
      refine q_wrV (wr := []) (As := [.int (nI 1)]) (rest := []) ⟨hx, hb, hml, hown, hts⟩ (c_X4_no (th := nI 0) (x := nI 1) hV hR) (cwV 1 hts gX4_alike_X4_no rfl rfl rfl (by decide +kernel) ⟨Nat.le_of_ble_eq_true rfl, Nat.le_of_ble_eq_true rfl⟩) hE hP hD hS hA (va_recv hE.K hP (ci := 5) (q0 := 0) rfl rfl) rfl hl.1 rfl (Nat.le_of_ble_eq_true rfl) dX4_alike_23 ⟨Nat.le_of_ble_eq_true rfl, Nat.le_of_ble_eq_true rfl⟩ (fun _u H locs hP hD hS hE => ?_)
      have hP : va_P g.1 vwCl (wMo g am (nI 1) (sa) (z)) H := hP
      have hD : va_D (va_A (wMo g am (th) (sa) (z)) s.heap.size) (wMo g am (nI 1) (sa) (z)) := hD
      exact q_wiret (()) hx hb hr hlocks hP hD hS dX4_alike_26 rfl
set_option maxHeartbeats 4000000 in
set_option maxRecDepth 100000 in
theorem cn_X4_alike_3 {l : Launch} {g : gT} {sz : Nat} {am : Nat → Nat} {th : Int32} {sa : Nat → Int32} {z : sT} (hV : VS z) (hR : RS z sa) {a b : Nat} {x : Int32} (ha_ : a < sL z) (hb_ : b < sL z) (hx_ : ¬ inR x (sL z)) : WR (S := Unit) l yX4_alike wsX4_alike ({ frames := 2, cells := 0, slots := 0, locals := 43 } : Room) [.ref (am 0), .int (nI a), .int (nI b), .int x] g (wMo g am (th) (sa) (z)) sz (fun _ : Unit => wMo g am (nI 2) (sa) (z)) (fun _ => some (.int (nI 0))) 0 0 := by
  refine WR.of (cc := cX4_alike) (maxL := 4) (ret := (some .int)) (by decide) rfl (Nat.le_of_ble_eq_true rfl) ?_
  intro p e s m below meth c hx hb hml hr hlocks hown hin0 hts hsz hE0 hP hD ls hl
  subst hsz
  have hown : s.vm.findClass RX4 = some m.cls := hown
  have hA : ∀ q, s.heap.size ≤ q → va_A (wMo g am (th) (sa) (z)) s.heap.size q := fun q h => Or.inr h
  have hE := hE0
  have hS : va_S (va_A (wMo g am (th) (sa) (z)) s.heap.size) s.heap s.heap [] := va_S.rf
  have hl : lv_has ls 4 [(0, .ref (am 0)), (1, .int (nI a)), (2, .int (nI b)), (3, .int x)] := hl
  have hL := hV.L
  have hn := hV.n
  refine lv_aload_n hx hb dX4_alike_0 rfl (lv_at hl 0 rfl) ?_
  refine lv_iconst (v := nI 0) hx hb dX4_alike_1 (by decide) ?_
  refine va_put (D := g.1) (ci := 5) (v := .int (nI 0)) (ty := .int) (C := RX4) (T := TX4) (N := 9) hx hb hts (q_sub wsX40 33 rfl) tyX4 tyX4_ok nmX4 hown hE.K hP hD hS 0 rfl rfl 0 (by decide) (hts _ (List.mem_of_getElem? (i := 1) rfl)) (fun _ h9 => h9) rfl (by decide +kernel) rfl rfl (Nat.le_of_ble_eq_true rfl) dX4_alike_2 (fun H locs hP hD hS => ?_)
  have hP : va_P g.1 vwCl (wMo g am (nI 0) (sa) (z)) H := hP
  have hD : va_D (va_A (wMo g am (th) (sa) (z)) s.heap.size) (wMo g am (nI 0) (sa) (z)) := hD
  have hE := hE0.kept hS.2.1
  refine lv_aload_n hx hb dX4_alike_5 rfl (lv_at hl 0 rfl) ?_
  refine lv_iload_n hx hb dX4_alike_6 rfl (lv_at hl 1 rfl) ?_
  refine q_roV (As := [.int (nI a)]) (rest := []) ⟨hx, hb, hml, hown, hts⟩ (c_X4_isCode hV hR (x := nI a)) (cwV 1 hts gX4_alike_X4_isCode rfl rfl rfl (by decide +kernel) ⟨Nat.le_of_ble_eq_true rfl, Nat.le_of_ble_eq_true rfl⟩) hE (fun q h => hA q (Nat.le_trans hS.1 h)) hP (va_recv hE.K hP (ci := 5) (q0 := 0) rfl rfl) rfl hl.1 rfl (Nat.le_of_ble_eq_true rfl) dX4_alike_7 ⟨Nat.le_of_ble_eq_true rfl, Nat.le_of_ble_eq_true rfl⟩ ?_
  refine q_ifb_eq (tgt := 21) hx hb dX4_alike_10 (by decide) (fun c_1 => ?_) (fun c_1 => ?_)
  · exact absurd (inR_nI ha_ (by omega)) c_1
  · refine lv_aload_n hx hb dX4_alike_13 rfl (lv_at hl 0 rfl) ?_
    refine lv_iload_n hx hb dX4_alike_14 rfl (lv_at hl 2 rfl) ?_
    refine q_roV (As := [.int (nI b)]) (rest := []) ⟨hx, hb, hml, hown, hts⟩ (c_X4_isCode hV hR (x := nI b)) (cwV 1 hts gX4_alike_X4_isCode rfl rfl rfl (by decide +kernel) ⟨Nat.le_of_ble_eq_true rfl, Nat.le_of_ble_eq_true rfl⟩) hE (fun q h => hA q (Nat.le_trans hS.1 h)) hP (va_recv hE.K hP (ci := 5) (q0 := 0) rfl rfl) rfl hl.1 rfl (Nat.le_of_ble_eq_true rfl) dX4_alike_15 ⟨Nat.le_of_ble_eq_true rfl, Nat.le_of_ble_eq_true rfl⟩ ?_
    refine q_ifb_ne (tgt := 27) hx hb dX4_alike_18 (by decide) (fun c_2 => ?_) (fun c_2 => ?_)
    · refine lv_aload_n hx hb dX4_alike_27 rfl (lv_at hl 0 rfl) ?_
      refine lv_iload_n hx hb dX4_alike_28 rfl (lv_at hl 3 rfl) ?_
      refine q_roV (As := [.int x]) (rest := []) ⟨hx, hb, hml, hown, hts⟩ (c_X4_isCode hV hR (x := x)) (cwV 1 hts gX4_alike_X4_isCode rfl rfl rfl (by decide +kernel) ⟨Nat.le_of_ble_eq_true rfl, Nat.le_of_ble_eq_true rfl⟩) hE (fun q h => hA q (Nat.le_trans hS.1 h)) hP (va_recv hE.K hP (ci := 5) (q0 := 0) rfl rfl) rfl hl.1 rfl (Nat.le_of_ble_eq_true rfl) dX4_alike_29 ⟨Nat.le_of_ble_eq_true rfl, Nat.le_of_ble_eq_true rfl⟩ ?_
      refine q_ifb_eq (tgt := 45) hx hb dX4_alike_32 (by decide) (fun c_3 => ?_) (fun c_3 => ?_)
      · refine lv_aload_n hx hb dX4_alike_45 rfl (lv_at hl 0 rfl) ?_
        refine lv_iconst (v := nI 2) hx hb dX4_alike_46 (by decide) ?_
        refine q_wrV (wr := []) (As := [.int (nI 2)]) (rest := []) ⟨hx, hb, hml, hown, hts⟩ (c_X4_no (th := nI 0) (x := nI 2) hV hR) (cwV 1 hts gX4_alike_X4_no rfl rfl rfl (by decide +kernel) ⟨Nat.le_of_ble_eq_true rfl, Nat.le_of_ble_eq_true rfl⟩) hE hP hD hS hA (va_recv hE.K hP (ci := 5) (q0 := 0) rfl rfl) rfl hl.1 rfl (Nat.le_of_ble_eq_true rfl) dX4_alike_47 ⟨Nat.le_of_ble_eq_true rfl, Nat.le_of_ble_eq_true rfl⟩ (fun _u H locs hP hD hS hE => ?_)
        have hP : va_P g.1 vwCl (wMo g am (nI 2) (sa) (z)) H := hP
        have hD : va_D (va_A (wMo g am (th) (sa) (z)) s.heap.size) (wMo g am (nI 2) (sa) (z)) := hD
        exact q_wiret (()) hx hb hr hlocks hP hD hS dX4_alike_50 rfl
      · exact absurd c_3 (hx_)
    · exact absurd (inR_nI hb_ (by omega)) c_2
theorem shB_le (L a b : Nat) : ∀ n, shB L a b n ≤ n
  | 0 => Nat.le_refl 0
  | n + 1 => by
    have := shB_le L a b n
    rw [shB]; split <;> omega
set_option maxHeartbeats 4000000 in
set_option maxRecDepth 100000 in
theorem c_X4_shift {l : Launch} {g : gT} {sz : Nat} {am : Nat → Nat} {th : Int32} {sa : Nat → Int32} {z : sT} (hV : VS z) (hR : RS z sa) {a b : Nat} (ha_ : a < sL z) (hb_ : b < sL z) : WR (S := Unit) l yX4_shift wsX4_shift ({ frames := 3, cells := 0, slots := 0, locals := 66 } : Room) [.ref (am 0), .int (nI a), .int (nI b)] g (wMo g am (th) (sa) (z)) sz (fun _ : Unit => wMo g am (nI 0) (sa) (z)) (fun _ => some (.int (nI (shB (sL z) a b (sL z - 1))))) 0 0 := by
  refine WR.of (cc := cX4_shift) (maxL := 5) (ret := (some .int)) (by decide) rfl (Nat.le_of_ble_eq_true rfl) ?_
  intro p e s m below meth c hx hb hml hr hlocks hown hin0 hts hsz hE0 hP hD ls hl
  subst hsz
  have hown : s.vm.findClass RX4 = some m.cls := hown
  have hA : ∀ q, s.heap.size ≤ q → va_A (wMo g am (th) (sa) (z)) s.heap.size q := fun q h => Or.inr h
  have hE := hE0
  have hS : va_S (va_A (wMo g am (th) (sa) (z)) s.heap.size) s.heap s.heap [] := va_S.rf
  have hl : lv_has ls 5 [(0, .ref (am 0)), (1, .int (nI a)), (2, .int (nI b))] := hl
  have hL := hV.L
  have hn := hV.n
  refine lv_aload_n hx hb dX4_shift_0 rfl (lv_at hl 0 rfl) ?_
  refine lv_iconst (v := nI 0) hx hb dX4_shift_1 (by decide) ?_
  refine va_put (D := g.1) (ci := 5) (v := .int (nI 0)) (ty := .int) (C := RX4) (T := TX4) (N := 9) hx hb hts (q_sub wsX40 33 rfl) tyX4 tyX4_ok nmX4 hown hE.K hP hD hS 0 rfl rfl 0 (by decide) (hts _ (List.mem_of_getElem? (i := 1) rfl)) (fun _ h9 => h9) rfl (by decide +kernel) rfl rfl (Nat.le_of_ble_eq_true rfl) dX4_shift_2 (fun H locs hP hD hS => ?_)
  have hP : va_P g.1 vwCl (wMo g am (nI 0) (sa) (z)) H := hP
  have hD : va_D (va_A (wMo g am (th) (sa) (z)) s.heap.size) (wMo g am (nI 0) (sa) (z)) := hD
  have hE := hE0.kept hS.2.1
  refine lv_aload_n hx hb dX4_shift_5 rfl (lv_at hl 0 rfl) ?_
  refine lv_iload_n hx hb dX4_shift_6 rfl (lv_at hl 1 rfl) ?_
  refine q_roV (As := [.int (nI a)]) (rest := []) ⟨hx, hb, hml, hown, hts⟩ (c_X4_isCode hV hR (x := nI a)) (cwV 1 hts gX4_shift_X4_isCode rfl rfl rfl (by decide +kernel) ⟨Nat.le_of_ble_eq_true rfl, Nat.le_of_ble_eq_true rfl⟩) hE (fun q h => hA q (Nat.le_trans hS.1 h)) hP (va_recv hE.K hP (ci := 5) (q0 := 0) rfl rfl) rfl hl.1 rfl (Nat.le_of_ble_eq_true rfl) dX4_shift_7 ⟨Nat.le_of_ble_eq_true rfl, Nat.le_of_ble_eq_true rfl⟩ ?_
  refine q_ifb_eq (tgt := 21) hx hb dX4_shift_10 (by decide) (fun c_1 => ?_) (fun c_1 => ?_)
  · exact absurd (inR_nI ha_ (by omega)) c_1
  · refine lv_aload_n hx hb dX4_shift_13 rfl (lv_at hl 0 rfl) ?_
    refine lv_iload_n hx hb dX4_shift_14 rfl (lv_at hl 2 rfl) ?_
    refine q_roV (As := [.int (nI b)]) (rest := []) ⟨hx, hb, hml, hown, hts⟩ (c_X4_isCode hV hR (x := nI b)) (cwV 1 hts gX4_shift_X4_isCode rfl rfl rfl (by decide +kernel) ⟨Nat.le_of_ble_eq_true rfl, Nat.le_of_ble_eq_true rfl⟩) hE (fun q h => hA q (Nat.le_trans hS.1 h)) hP (va_recv hE.K hP (ci := 5) (q0 := 0) rfl rfl) rfl hl.1 rfl (Nat.le_of_ble_eq_true rfl) dX4_shift_15 ⟨Nat.le_of_ble_eq_true rfl, Nat.le_of_ble_eq_true rfl⟩ ?_
    refine q_ifb_ne (tgt := 27) hx hb dX4_shift_18 (by decide) (fun c_2 => ?_) (fun c_2 => ?_)
    · refine lv_iconst (v := nI 0) hx hb dX4_shift_27 (by decide) ?_
      refine lv_istore_n (lv' := [(3, .int (nI 0)), (0, .ref (am 0)), (1, .int (nI a)), (2, .int (nI b))]) hx hb dX4_shift_28 rfl hl (by decide) rfl (fun ls hl => ?_)
      refine lv_iconst (v := nI 1) hx hb dX4_shift_29 (by decide) ?_
      refine lv_istore (lv' := [(4, .int (nI 1)), (3, .int (nI 0)), (0, .ref (am 0)), (1, .int (nI a)), (2, .int (nI b))]) hx hb dX4_shift_30 hl (by decide) rfl (fun ls hl => ?_)
      have lp_32 : ∀ (n_ i : Nat) , i ≤ sL z - 1 → sL z - 1 + 1 ≤ i + n_ → ∀ (H : Heap) (locs : List Loc), va_P g.1 vwCl (wMo g am (nI 0) (sa) (z)) H → va_D (va_A (wMo g am (th) (sa) (z)) s.heap.size) (wMo g am (nI 0) (sa) (z)) → va_S (va_A (wMo g am (th) (sa) (z)) s.heap.size) s.heap H locs → Ev g (va_A (wMo g am (th) (sa) (z)) s.heap.size) s H → ∀ (ls : Array Slot), lv_has ls 5 [(4, .int (nI (i + 1))), (3, .int (nI (shB (sL z) a b i))), (0, .ref (am 0)), (1, .int (nI a)), (2, .int (nI b))] → W p l e ({ frames := 3, cells := 0, slots := 0, locals := 66 } : Room) s m ([.ref (am 0), .int (nI a), .int (nI b)] : List Value).toArray below meth c H locs 0 0 (MQ below (q_Qw (fun _ : Unit => wMo g am (nI 0) (sa) (z)) (fun _ => some (.int (nI (shB (sL z) a b (sL z - 1))))) g (wMo g am (th) (sa) (z)) s.heap.size) ([.ref (am 0), .int (nI a), .int (nI b)] : List Value).toArray s 0 0 (va_A (wMo g am (th) (sa) (z)) s.heap.size)) (F0 m 32 ls []) := by
        intro n_
        induction n_ with
        | zero => intro i  hi_ hn_; exact absurd hn_ (by omega)
        | succ n_ ih_32 =>
          intro i  hi_i hn_i  H locs hP hD hS hE ls hl
          have hs9_ := shB_le (sL z) a b i
          refine lv_iload hx hb dX4_shift_32 (lv_at hl 0 rfl) ?_
          refine lv_aload_n hx hb dX4_shift_34 rfl (lv_at hl 2 rfl) ?_
          refine va_get (v := .int (nI (sL z))) (C := RX4) (T := TX4) (N := 9) hx hb hts (q_sub wsX40 33 rfl) hown hE.K hP 0 rfl rfl 1 (by decide) (hts _ (List.mem_of_getElem? (i := 2) rfl)) (fun _ h9 => h9) rfl dX4_shift_35 ?_
          refine q_icmp_ge (tgt := 68) hx hb (by omega) (by omega) dX4_shift_38 (by decide) (fun c_3 => ?_) (fun c_3 => ?_)
          · refine lv_iload_n hx hb dX4_shift_68 rfl (lv_at hl 1 rfl) ?_
            exact q_wiret () hx hb hr hlocks hP hD hS dX4_shift_69 (by rw [show i = sL z - 1 by omega])
          · refine lv_aload_n hx hb dX4_shift_41 rfl (lv_at hl 2 rfl) ?_
            refine lv_iload_n hx hb dX4_shift_42 rfl (lv_at hl 3 rfl) ?_
            refine lv_iload_n hx hb dX4_shift_43 rfl (lv_at hl 4 rfl) ?_
            refine lv_iload hx hb dX4_shift_44 (lv_at hl 0 rfl) ?_
            refine q_roV (As := [.int (nI a), .int (nI b), .int (nI (i + 1))]) (rest := []) ⟨hx, hb, hml, hown, hts⟩ (c_X4_likeness hV hR (a := a) (b := b) (s_ := i + 1) (by omega) (by omega) (by omega)) (cwV 3 hts gX4_shift_X4_likeness rfl rfl rfl (by decide +kernel) ⟨Nat.le_of_ble_eq_true rfl, Nat.le_of_ble_eq_true rfl⟩) hE (fun q h => hA q (Nat.le_trans hS.1 h)) hP (va_recv hE.K hP (ci := 5) (q0 := 0) rfl rfl) rfl hl.1 rfl (Nat.le_of_ble_eq_true rfl) dX4_shift_46 ⟨Nat.le_of_ble_eq_true rfl, Nat.le_of_ble_eq_true rfl⟩ ?_
            refine lv_aload_n hx hb dX4_shift_49 rfl (lv_at hl 2 rfl) ?_
            refine lv_iload_n hx hb dX4_shift_50 rfl (lv_at hl 3 rfl) ?_
            refine lv_iload_n hx hb dX4_shift_51 rfl (lv_at hl 4 rfl) ?_
            refine lv_iload_n hx hb dX4_shift_52 rfl (lv_at hl 1 rfl) ?_
            refine q_roV (As := [.int (nI a), .int (nI b), .int (nI (shB (sL z) a b i))]) (rest := [.int (likF (sL z) a b (i + 1))]) ⟨hx, hb, hml, hown, hts⟩ (c_X4_likeness hV hR (a := a) (b := b) (s_ := shB (sL z) a b i) (by omega) (by omega) (by omega)) (cwV 3 hts gX4_shift_X4_likeness rfl rfl rfl (by decide +kernel) ⟨Nat.le_of_ble_eq_true rfl, Nat.le_of_ble_eq_true rfl⟩) hE (fun q h => hA q (Nat.le_trans hS.1 h)) hP (va_recv hE.K hP (ci := 5) (q0 := 0) rfl rfl) rfl hl.1 rfl (Nat.le_of_ble_eq_true rfl) dX4_shift_53 ⟨Nat.le_of_ble_eq_true rfl, Nat.le_of_ble_eq_true rfl⟩ ?_
            refine lv_icmp_le (tgt := 62) hx hb dX4_shift_56 (by decide) (fun c_4 => ?_) (fun c_4 => ?_)
            · have e9 : shB (sL z) a b (i + 1) = shB (sL z) a b i := shB_f (Int32.not_lt.mpr c_4)
              refine lv_iinc (v := nI (i + 1 + 1)) (lv' := [(4, .int (nI (i + 1 + 1))), (3, .int (nI (shB (sL z) a b i))), (0, .ref (am 0)), (1, .int (nI a)), (2, .int (nI b))]) hx hb dX4_shift_62 hl (k := 0) rfl (nI_1 _) (by decide) rfl (fun ls hl => ?_)
              refine lv_goto (tgt := 32) hx hb dX4_shift_65 (by decide) ?_
              exact ih_32 (i + 1)  (by omega) (by omega)  _ _ hP hD hS hE _ (by rw [e9]; exact lv_sub hl [0, 1, 2, 3, 4] rfl)
            · have e9 : shB (sL z) a b (i + 1) = i + 1 := shB_t (Int32.not_le.mp c_4)
              refine lv_iload hx hb dX4_shift_59 (lv_at hl 0 rfl) ?_
              refine lv_istore_n (lv' := [(3, .int (nI (i + 1))), (4, .int (nI (i + 1))), (0, .ref (am 0)), (1, .int (nI a)), (2, .int (nI b))]) hx hb dX4_shift_61 rfl hl (by decide) rfl (fun ls hl => ?_)
              refine lv_iinc (v := nI (i + 1 + 1)) (lv' := [(4, .int (nI (i + 1 + 1))), (3, .int (nI (i + 1))), (0, .ref (am 0)), (1, .int (nI a)), (2, .int (nI b))]) hx hb dX4_shift_62 hl (k := 1) rfl (nI_1 _) (by decide) rfl (fun ls hl => ?_)
              refine lv_goto (tgt := 32) hx hb dX4_shift_65 (by decide) ?_
              exact ih_32 (i + 1)  (by omega) (by omega)  _ _ hP hD hS hE _ (by rw [e9]; exact lv_sub hl [0, 1, 2, 3, 4] rfl)
      have hP : va_P g.1 vwCl (wMo g am (nI 0) (sa) (z)) H := hP
      have hD : va_D (va_A (wMo g am (th) (sa) (z)) s.heap.size) (wMo g am (nI 0) (sa) (z)) := hD
      exact lp_32 (sL z - 1 + 1) 0  (Nat.zero_le _) (by omega)  _ _ hP hD hS hE _ (lv_sub hl [0, 1, 2, 3, 4] rfl)
    · exact absurd (inR_nI hb_ (by omega)) c_2
set_option maxHeartbeats 4000000 in
set_option maxRecDepth 100000 in
theorem cn_X4_shift_1 {l : Launch} {g : gT} {sz : Nat} {am : Nat → Nat} {th : Int32} {sa : Nat → Int32} {z : sT} (hV : VS z) (hR : RS z sa) {x y : Int32} (hx_ : ¬ inR x (sL z)) : WR (S := Unit) l yX4_shift wsX4_shift ({ frames := 2, cells := 0, slots := 0, locals := 43 } : Room) [.ref (am 0), .int x, .int y] g (wMo g am (th) (sa) (z)) sz (fun _ : Unit => wMo g am (nI 1) (sa) (z)) (fun _ => some (.int (nI 0))) 0 0 := by
  refine WR.of (cc := cX4_shift) (maxL := 5) (ret := (some .int)) (by decide) rfl (Nat.le_of_ble_eq_true rfl) ?_
  intro p e s m below meth c hx hb hml hr hlocks hown hin0 hts hsz hE0 hP hD ls hl
  subst hsz
  have hown : s.vm.findClass RX4 = some m.cls := hown
  have hA : ∀ q, s.heap.size ≤ q → va_A (wMo g am (th) (sa) (z)) s.heap.size q := fun q h => Or.inr h
  have hE := hE0
  have hS : va_S (va_A (wMo g am (th) (sa) (z)) s.heap.size) s.heap s.heap [] := va_S.rf
  have hl : lv_has ls 5 [(0, .ref (am 0)), (1, .int x), (2, .int y)] := hl
  have hL := hV.L
  have hn := hV.n
  refine lv_aload_n hx hb dX4_shift_0 rfl (lv_at hl 0 rfl) ?_
  refine lv_iconst (v := nI 0) hx hb dX4_shift_1 (by decide) ?_
  refine va_put (D := g.1) (ci := 5) (v := .int (nI 0)) (ty := .int) (C := RX4) (T := TX4) (N := 9) hx hb hts (q_sub wsX40 33 rfl) tyX4 tyX4_ok nmX4 hown hE.K hP hD hS 0 rfl rfl 0 (by decide) (hts _ (List.mem_of_getElem? (i := 1) rfl)) (fun _ h9 => h9) rfl (by decide +kernel) rfl rfl (Nat.le_of_ble_eq_true rfl) dX4_shift_2 (fun H locs hP hD hS => ?_)
  have hP : va_P g.1 vwCl (wMo g am (nI 0) (sa) (z)) H := hP
  have hD : va_D (va_A (wMo g am (th) (sa) (z)) s.heap.size) (wMo g am (nI 0) (sa) (z)) := hD
  have hE := hE0.kept hS.2.1
  refine lv_aload_n hx hb dX4_shift_5 rfl (lv_at hl 0 rfl) ?_
  refine lv_iload_n hx hb dX4_shift_6 rfl (lv_at hl 1 rfl) ?_
  refine q_roV (As := [.int x]) (rest := []) ⟨hx, hb, hml, hown, hts⟩ (c_X4_isCode hV hR (x := x)) (cwV 1 hts gX4_shift_X4_isCode rfl rfl rfl (by decide +kernel) ⟨Nat.le_of_ble_eq_true rfl, Nat.le_of_ble_eq_true rfl⟩) hE (fun q h => hA q (Nat.le_trans hS.1 h)) hP (va_recv hE.K hP (ci := 5) (q0 := 0) rfl rfl) rfl hl.1 rfl (Nat.le_of_ble_eq_true rfl) dX4_shift_7 ⟨Nat.le_of_ble_eq_true rfl, Nat.le_of_ble_eq_true rfl⟩ ?_
  refine q_ifb_eq (tgt := 21) hx hb dX4_shift_10 (by decide) (fun c_1 => ?_) (fun c_1 => ?_)
  · refine lv_aload_n hx hb dX4_shift_21 rfl (lv_at hl 0 rfl) ?_
    refine lv_iconst (v := nI 1) hx hb dX4_shift_22 (by decide) ?_
    refine q_wrV (wr := []) (As := [.int (nI 1)]) (rest := []) ⟨hx, hb, hml, hown, hts⟩ (c_X4_no (th := nI 0) (x := nI 1) hV hR) (cwV 1 hts gX4_shift_X4_no rfl rfl rfl (by decide +kernel) ⟨Nat.le_of_ble_eq_true rfl, Nat.le_of_ble_eq_true rfl⟩) hE hP hD hS hA (va_recv hE.K hP (ci := 5) (q0 := 0) rfl rfl) rfl hl.1 rfl (Nat.le_of_ble_eq_true rfl) dX4_shift_23 ⟨Nat.le_of_ble_eq_true rfl, Nat.le_of_ble_eq_true rfl⟩ (fun _u H locs hP hD hS hE => ?_)
    have hP : va_P g.1 vwCl (wMo g am (nI 1) (sa) (z)) H := hP
    have hD : va_D (va_A (wMo g am (th) (sa) (z)) s.heap.size) (wMo g am (nI 1) (sa) (z)) := hD
    exact q_wiret (()) hx hb hr hlocks hP hD hS dX4_shift_26 rfl
  · exact absurd c_1 hx_
set_option maxHeartbeats 4000000 in
set_option maxRecDepth 100000 in
theorem cn_X4_shift_2 {l : Launch} {g : gT} {sz : Nat} {am : Nat → Nat} {th : Int32} {sa : Nat → Int32} {z : sT} (hV : VS z) (hR : RS z sa) {a : Nat} {x : Int32} (ha_ : a < sL z) (hx_ : ¬ inR x (sL z)) : WR (S := Unit) l yX4_shift wsX4_shift ({ frames := 2, cells := 0, slots := 0, locals := 43 } : Room) [.ref (am 0), .int (nI a), .int x] g (wMo g am (th) (sa) (z)) sz (fun _ : Unit => wMo g am (nI 1) (sa) (z)) (fun _ => some (.int (nI 0))) 0 0 := by
  refine WR.of (cc := cX4_shift) (maxL := 5) (ret := (some .int)) (by decide) rfl (Nat.le_of_ble_eq_true rfl) ?_
  intro p e s m below meth c hx hb hml hr hlocks hown hin0 hts hsz hE0 hP hD ls hl
  subst hsz
  have hown : s.vm.findClass RX4 = some m.cls := hown
  have hA : ∀ q, s.heap.size ≤ q → va_A (wMo g am (th) (sa) (z)) s.heap.size q := fun q h => Or.inr h
  have hE := hE0
  have hS : va_S (va_A (wMo g am (th) (sa) (z)) s.heap.size) s.heap s.heap [] := va_S.rf
  have hl : lv_has ls 5 [(0, .ref (am 0)), (1, .int (nI a)), (2, .int x)] := hl
  have hL := hV.L
  have hn := hV.n
  refine lv_aload_n hx hb dX4_shift_0 rfl (lv_at hl 0 rfl) ?_
  refine lv_iconst (v := nI 0) hx hb dX4_shift_1 (by decide) ?_
  refine va_put (D := g.1) (ci := 5) (v := .int (nI 0)) (ty := .int) (C := RX4) (T := TX4) (N := 9) hx hb hts (q_sub wsX40 33 rfl) tyX4 tyX4_ok nmX4 hown hE.K hP hD hS 0 rfl rfl 0 (by decide) (hts _ (List.mem_of_getElem? (i := 1) rfl)) (fun _ h9 => h9) rfl (by decide +kernel) rfl rfl (Nat.le_of_ble_eq_true rfl) dX4_shift_2 (fun H locs hP hD hS => ?_)
  have hP : va_P g.1 vwCl (wMo g am (nI 0) (sa) (z)) H := hP
  have hD : va_D (va_A (wMo g am (th) (sa) (z)) s.heap.size) (wMo g am (nI 0) (sa) (z)) := hD
  have hE := hE0.kept hS.2.1
  refine lv_aload_n hx hb dX4_shift_5 rfl (lv_at hl 0 rfl) ?_
  refine lv_iload_n hx hb dX4_shift_6 rfl (lv_at hl 1 rfl) ?_
  refine q_roV (As := [.int (nI a)]) (rest := []) ⟨hx, hb, hml, hown, hts⟩ (c_X4_isCode hV hR (x := nI a)) (cwV 1 hts gX4_shift_X4_isCode rfl rfl rfl (by decide +kernel) ⟨Nat.le_of_ble_eq_true rfl, Nat.le_of_ble_eq_true rfl⟩) hE (fun q h => hA q (Nat.le_trans hS.1 h)) hP (va_recv hE.K hP (ci := 5) (q0 := 0) rfl rfl) rfl hl.1 rfl (Nat.le_of_ble_eq_true rfl) dX4_shift_7 ⟨Nat.le_of_ble_eq_true rfl, Nat.le_of_ble_eq_true rfl⟩ ?_
  refine q_ifb_eq (tgt := 21) hx hb dX4_shift_10 (by decide) (fun c_1 => ?_) (fun c_1 => ?_)
  · exact absurd (inR_nI ha_ (by omega)) c_1
  · refine lv_aload_n hx hb dX4_shift_13 rfl (lv_at hl 0 rfl) ?_
    refine lv_iload_n hx hb dX4_shift_14 rfl (lv_at hl 2 rfl) ?_
    refine q_roV (As := [.int x]) (rest := []) ⟨hx, hb, hml, hown, hts⟩ (c_X4_isCode hV hR (x := x)) (cwV 1 hts gX4_shift_X4_isCode rfl rfl rfl (by decide +kernel) ⟨Nat.le_of_ble_eq_true rfl, Nat.le_of_ble_eq_true rfl⟩) hE (fun q h => hA q (Nat.le_trans hS.1 h)) hP (va_recv hE.K hP (ci := 5) (q0 := 0) rfl rfl) rfl hl.1 rfl (Nat.le_of_ble_eq_true rfl) dX4_shift_15 ⟨Nat.le_of_ble_eq_true rfl, Nat.le_of_ble_eq_true rfl⟩ ?_
    refine q_ifb_ne (tgt := 27) hx hb dX4_shift_18 (by decide) (fun c_2 => ?_) (fun c_2 => ?_)
    · exact absurd c_2 (hx_)
    · refine lv_aload_n hx hb dX4_shift_21 rfl (lv_at hl 0 rfl) ?_
      refine lv_iconst (v := nI 1) hx hb dX4_shift_22 (by decide) ?_
      refine q_wrV (wr := []) (As := [.int (nI 1)]) (rest := []) ⟨hx, hb, hml, hown, hts⟩ (c_X4_no (th := nI 0) (x := nI 1) hV hR) (cwV 1 hts gX4_shift_X4_no rfl rfl rfl (by decide +kernel) ⟨Nat.le_of_ble_eq_true rfl, Nat.le_of_ble_eq_true rfl⟩) hE hP hD hS hA (va_recv hE.K hP (ci := 5) (q0 := 0) rfl rfl) rfl hl.1 rfl (Nat.le_of_ble_eq_true rfl) dX4_shift_23 ⟨Nat.le_of_ble_eq_true rfl, Nat.le_of_ble_eq_true rfl⟩ (fun _u H locs hP hD hS hE => ?_)
      have hP : va_P g.1 vwCl (wMo g am (nI 1) (sa) (z)) H := hP
      have hD : va_D (va_A (wMo g am (th) (sa) (z)) s.heap.size) (wMo g am (nI 1) (sa) (z)) := hD
      exact q_wiret (()) hx hb hr hlocks hP hD hS dX4_shift_26 rfl
set_option maxHeartbeats 4000000 in
set_option maxRecDepth 100000 in
theorem c_X4_advise {l : Launch} {g : gT} {sz : Nat} {am : Nat → Nat} {th : Int32} {sa : Nat → Int32} {z : sT} (hV : VS z) (hR : RS z sa) {b : Nat} (hb_ : b < sL z) : WR (S := Unit) l yX4_advise wsX4_advise ({ frames := 4, cells := 0, slots := 0, locals := 90 } : Room) [.ref (am 0), .int (nI b)] g (wMo g am (th) (sa) (z)) sz (fun _ : Unit => wMo g am (nI 0) (sa) (z)) (fun _ => some (.int ((advS z b (sL z)).1))) 0 0 := by
  refine WR.of (cc := cX4_advise) (maxL := 6) (ret := (some .int)) (by decide) rfl (Nat.le_of_ble_eq_true rfl) ?_
  intro p e s m below meth c hx hb hml hr hlocks hown hin0 hts hsz hE0 hP hD ls hl
  subst hsz
  have hown : s.vm.findClass RX4 = some m.cls := hown
  have hA : ∀ q, s.heap.size ≤ q → va_A (wMo g am (th) (sa) (z)) s.heap.size q := fun q h => Or.inr h
  have hE := hE0
  have hS : va_S (va_A (wMo g am (th) (sa) (z)) s.heap.size) s.heap s.heap [] := va_S.rf
  have hl : lv_has ls 6 [(0, .ref (am 0)), (1, .int (nI b))] := hl
  have hL := hV.L
  have hn := hV.n
  refine lv_aload_n hx hb dX4_advise_0 rfl (lv_at hl 0 rfl) ?_
  refine lv_iconst (v := nI 0) hx hb dX4_advise_1 (by decide) ?_
  refine va_put (D := g.1) (ci := 5) (v := .int (nI 0)) (ty := .int) (C := RX4) (T := TX4) (N := 9) hx hb hts (q_sub wsX40 45 rfl) tyX4 tyX4_ok nmX4 hown hE.K hP hD hS 0 rfl rfl 0 (by decide) (hts _ (List.mem_of_getElem? (i := 1) rfl)) (fun _ h9 => h9) rfl (by decide +kernel) rfl rfl (Nat.le_of_ble_eq_true rfl) dX4_advise_2 (fun H locs hP hD hS => ?_)
  have hP : va_P g.1 vwCl (wMo g am (nI 0) (sa) (z)) H := hP
  have hD : va_D (va_A (wMo g am (th) (sa) (z)) s.heap.size) (wMo g am (nI 0) (sa) (z)) := hD
  have hE := hE0.kept hS.2.1
  refine lv_aload_n hx hb dX4_advise_5 rfl (lv_at hl 0 rfl) ?_
  refine lv_iload_n hx hb dX4_advise_6 rfl (lv_at hl 1 rfl) ?_
  refine q_roV (As := [.int (nI b)]) (rest := []) ⟨hx, hb, hml, hown, hts⟩ (c_X4_isCode hV hR (x := nI b)) (cwV 1 hts gX4_advise_X4_isCode rfl rfl rfl (by decide +kernel) ⟨Nat.le_of_ble_eq_true rfl, Nat.le_of_ble_eq_true rfl⟩) hE (fun q h => hA q (Nat.le_trans hS.1 h)) hP (va_recv hE.K hP (ci := 5) (q0 := 0) rfl rfl) rfl hl.1 rfl (Nat.le_of_ble_eq_true rfl) dX4_advise_7 ⟨Nat.le_of_ble_eq_true rfl, Nat.le_of_ble_eq_true rfl⟩ ?_
  refine q_ifb_ne (tgt := 19) hx hb dX4_advise_10 (by decide) (fun c_1 => ?_) (fun c_1 => ?_)
  · refine lv_iconst (v := (-1 : Int32)) hx hb dX4_advise_19 (by decide) ?_
    refine lv_istore_n (lv' := [(2, .int (-1 : Int32)), (0, .ref (am 0)), (1, .int (nI b))]) hx hb dX4_advise_20 rfl hl (by decide) rfl (fun ls hl => ?_)
    refine lv_iconst (v := nI 0) hx hb dX4_advise_21 (by decide) ?_
    refine lv_istore_n (lv' := [(3, .int (nI 0)), (2, .int (-1 : Int32)), (0, .ref (am 0)), (1, .int (nI b))]) hx hb dX4_advise_22 rfl hl (by decide) rfl (fun ls hl => ?_)
    refine lv_iconst (v := nI 0) hx hb dX4_advise_23 (by decide) ?_
    refine lv_istore (lv' := [(4, .int (nI 0)), (3, .int (nI 0)), (2, .int (-1 : Int32)), (0, .ref (am 0)), (1, .int (nI b))]) hx hb dX4_advise_24 hl (by decide) rfl (fun ls hl => ?_)
    have lp_26 : ∀ (n_ i : Nat) , i ≤ sL z → sL z + 1 ≤ i + n_ → ∀ (H : Heap) (locs : List Loc), va_P g.1 vwCl (wMo g am (nI 0) (sa) (z)) H → va_D (va_A (wMo g am (th) (sa) (z)) s.heap.size) (wMo g am (nI 0) (sa) (z)) → va_S (va_A (wMo g am (th) (sa) (z)) s.heap.size) s.heap H locs → Ev g (va_A (wMo g am (th) (sa) (z)) s.heap.size) s H → ∀ (ls : Array Slot), lv_has ls 6 [(4, .int (nI i)), (3, .int ((advS z b i).2)), (2, .int ((advS z b i).1)), (0, .ref (am 0)), (1, .int (nI b))] → W p l e ({ frames := 4, cells := 0, slots := 0, locals := 90 } : Room) s m ([.ref (am 0), .int (nI b)] : List Value).toArray below meth c H locs 0 0 (MQ below (q_Qw (fun _ : Unit => wMo g am (nI 0) (sa) (z)) (fun _ => some (.int ((advS z b (sL z)).1))) g (wMo g am (th) (sa) (z)) s.heap.size) ([.ref (am 0), .int (nI b)] : List Value).toArray s 0 0 (va_A (wMo g am (th) (sa) (z)) s.heap.size)) (F0 m 26 ls []) := by
      intro n_
      induction n_ with
      | zero => intro i  hi_ hn_; exact absurd hn_ (by omega)
      | succ n_ ih_26 =>
        intro i  hi_i hn_i  H locs hP hD hS hE ls hl
        refine lv_iload hx hb dX4_advise_26 (lv_at hl 0 rfl) ?_
        refine lv_aload_n hx hb dX4_advise_28 rfl (lv_at hl 3 rfl) ?_
        refine va_get (v := .int (nI (sL z))) (C := RX4) (T := TX4) (N := 9) hx hb hts (q_sub wsX40 45 rfl) hown hE.K hP 0 rfl rfl 1 (by decide) (hts _ (List.mem_of_getElem? (i := 2) rfl)) (fun _ h9 => h9) rfl dX4_advise_29 ?_
        refine q_icmp_ge (tgt := 82) hx hb (by omega) (by omega) dX4_advise_32 (by decide) (fun c_2 => ?_) (fun c_2 => ?_)
        · refine lv_iload_n hx hb dX4_advise_82 rfl (lv_at hl 2 rfl) ?_
          exact q_wiret () hx hb hr hlocks hP hD hS dX4_advise_83 (by rw [show i = sL z by omega])
        · refine lv_aload_n hx hb dX4_advise_35 rfl (lv_at hl 3 rfl) ?_
          refine lv_iload hx hb dX4_advise_36 (lv_at hl 0 rfl) ?_
          refine q_roV (As := [.int (nI i)]) (rest := []) ⟨hx, hb, hml, hown, hts⟩ (c_X4_isTaken hV hR (a := i) (by omega)) (cwV 1 hts gX4_advise_X4_isTaken rfl rfl rfl (by decide +kernel) ⟨Nat.le_of_ble_eq_true rfl, Nat.le_of_ble_eq_true rfl⟩) hE (fun q h => hA q (Nat.le_trans hS.1 h)) hP (va_recv hE.K hP (ci := 5) (q0 := 0) rfl rfl) rfl hl.1 rfl (Nat.le_of_ble_eq_true rfl) dX4_advise_38 ⟨Nat.le_of_ble_eq_true rfl, Nat.le_of_ble_eq_true rfl⟩ ?_
          refine q_ifb_eq (tgt := 47) hx hb dX4_advise_41 (by decide) (fun c_k => ?_) (fun c_k => ?_)
          · refine lv_aload_n hx hb dX4_advise_47 rfl (lv_at hl 3 rfl) ?_
            refine lv_iload hx hb dX4_advise_48 (lv_at hl 0 rfl) ?_
            refine lv_iload_n hx hb dX4_advise_50 rfl (lv_at hl 4 rfl) ?_
            refine q_roV (As := [.int (nI i), .int (nI b)]) (rest := []) ⟨hx, hb, hml, hown, hts⟩ (c_X4_disturbed hV hR (a := i) (b := b) (by omega) hb_) (cwV 2 hts gX4_advise_X4_disturbed rfl rfl rfl (by decide +kernel) ⟨Nat.le_of_ble_eq_true rfl, Nat.le_of_ble_eq_true rfl⟩) hE (fun q h => hA q (Nat.le_trans hS.1 h)) hP (va_recv hE.K hP (ci := 5) (q0 := 0) rfl rfl) rfl hl.1 rfl (Nat.le_of_ble_eq_true rfl) dX4_advise_51 ⟨Nat.le_of_ble_eq_true rfl, Nat.le_of_ble_eq_true rfl⟩ ?_
            refine lv_istore (lv' := [(5, .int (disF z i b)), (4, .int (nI i)), (3, .int ((advS z b i).2)), (2, .int ((advS z b i).1)), (0, .ref (am 0)), (1, .int (nI b))]) hx hb dX4_advise_54 hl (by decide) rfl (fun ls hl => ?_)
            refine lv_iload_n hx hb dX4_advise_56 rfl (lv_at hl 3 rfl) ?_
            refine lv_iconst (v := (-1 : Int32)) hx hb dX4_advise_57 (by decide) ?_
            refine lv_icmp_eq (tgt := 70) hx hb dX4_advise_58 (by decide) (fun c_m => ?_) (fun c_m => ?_)
            · have e9 : advS z b (i + 1) = (nI i, disF z i b) := advS_t c_k (Or.inl ((advS_m1 hL.2 (by omega)).mp c_m))
              refine lv_iload hx hb dX4_advise_70 (lv_at hl 1 rfl) ?_
              refine lv_istore_n (lv' := [(2, .int (nI i)), (5, .int (disF z i b)), (4, .int (nI i)), (3, .int ((advS z b i).2)), (0, .ref (am 0)), (1, .int (nI b))]) hx hb dX4_advise_72 rfl hl (by decide) rfl (fun ls hl => ?_)
              refine lv_iload hx hb dX4_advise_73 (lv_at hl 1 rfl) ?_
              refine lv_istore_n (lv' := [(3, .int (disF z i b)), (2, .int (nI i)), (5, .int (disF z i b)), (4, .int (nI i)), (0, .ref (am 0)), (1, .int (nI b))]) hx hb dX4_advise_75 rfl hl (by decide) rfl (fun ls hl => ?_)
              refine lv_iinc (v := nI (i + 1)) (lv' := [(4, .int (nI (i + 1))), (3, .int (disF z i b)), (2, .int (nI i)), (5, .int (disF z i b)), (0, .ref (am 0)), (1, .int (nI b))]) hx hb dX4_advise_76 hl (k := 3) rfl (nI_1 _) (by decide) rfl (fun ls hl => ?_)
              refine lv_goto (tgt := 26) hx hb dX4_advise_79 (by decide) ?_
              exact ih_26 (i + 1)  (by omega) (by omega)  _ _ hP hD hS hE _ (by rw [e9]; exact lv_sub hl [0, 1, 2, 4, 5] rfl)
            · refine lv_iload hx hb dX4_advise_61 (lv_at hl 0 rfl) ?_
              refine lv_iload_n hx hb dX4_advise_63 rfl (lv_at hl 2 rfl) ?_
              refine lv_icmp_lt (tgt := 70) hx hb dX4_advise_64 (by decide) (fun c_n => ?_) (fun c_n => ?_)
              · have e9 : advS z b (i + 1) = (nI i, disF z i b) := advS_t c_k (Or.inr c_n)
                refine lv_iload hx hb dX4_advise_70 (lv_at hl 1 rfl) ?_
                refine lv_istore_n (lv' := [(2, .int (nI i)), (5, .int (disF z i b)), (4, .int (nI i)), (3, .int ((advS z b i).2)), (0, .ref (am 0)), (1, .int (nI b))]) hx hb dX4_advise_72 rfl hl (by decide) rfl (fun ls hl => ?_)
                refine lv_iload hx hb dX4_advise_73 (lv_at hl 1 rfl) ?_
                refine lv_istore_n (lv' := [(3, .int (disF z i b)), (2, .int (nI i)), (5, .int (disF z i b)), (4, .int (nI i)), (0, .ref (am 0)), (1, .int (nI b))]) hx hb dX4_advise_75 rfl hl (by decide) rfl (fun ls hl => ?_)
                refine lv_iinc (v := nI (i + 1)) (lv' := [(4, .int (nI (i + 1))), (3, .int (disF z i b)), (2, .int (nI i)), (5, .int (disF z i b)), (0, .ref (am 0)), (1, .int (nI b))]) hx hb dX4_advise_76 hl (k := 3) rfl (nI_1 _) (by decide) rfl (fun ls hl => ?_)
                refine lv_goto (tgt := 26) hx hb dX4_advise_79 (by decide) ?_
                exact ih_26 (i + 1)  (by omega) (by omega)  _ _ hP hD hS hE _ (by rw [e9]; exact lv_sub hl [0, 1, 2, 4, 5] rfl)
              · have e9 : advS z b (i + 1) = advS z b i := advS_f c_k (mt (advS_m1 hL.2 (by omega)).mpr c_m) c_n
                refine lv_goto (tgt := 76) hx hb dX4_advise_67 (by decide) ?_
                refine lv_iinc (v := nI (i + 1)) (lv' := [(4, .int (nI (i + 1))), (5, .int (disF z i b)), (3, .int ((advS z b i).2)), (2, .int ((advS z b i).1)), (0, .ref (am 0)), (1, .int (nI b))]) hx hb dX4_advise_76 hl (k := 1) rfl (nI_1 _) (by decide) rfl (fun ls hl => ?_)
                refine lv_goto (tgt := 26) hx hb dX4_advise_79 (by decide) ?_
                exact ih_26 (i + 1)  (by omega) (by omega)  _ _ hP hD hS hE _ (by rw [e9]; exact lv_sub hl [0, 2, 3, 4, 5] rfl)
          · have e9 : advS z b (i + 1) = advS z b i := advS_k c_k
            refine lv_goto (tgt := 76) hx hb dX4_advise_44 (by decide) ?_
            refine lv_iinc (v := nI (i + 1)) (lv' := [(4, .int (nI (i + 1))), (3, .int ((advS z b i).2)), (2, .int ((advS z b i).1)), (0, .ref (am 0)), (1, .int (nI b))]) hx hb dX4_advise_76 hl (k := 0) rfl (nI_1 _) (by decide) rfl (fun ls hl => ?_)
            refine lv_goto (tgt := 26) hx hb dX4_advise_79 (by decide) ?_
            exact ih_26 (i + 1)  (by omega) (by omega)  _ _ hP hD hS hE _ (by rw [e9]; exact lv_sub hl [0, 1, 2, 3, 4] rfl)
    have hP : va_P g.1 vwCl (wMo g am (nI 0) (sa) (z)) H := hP
    have hD : va_D (va_A (wMo g am (th) (sa) (z)) s.heap.size) (wMo g am (nI 0) (sa) (z)) := hD
    exact lp_26 (sL z + 1) 0  (Nat.zero_le _) (by omega)  _ _ hP hD hS hE _ (lv_sub hl [0, 1, 2, 3, 4] rfl)
  · exact absurd (inR_nI hb_ (by omega)) c_1
set_option maxHeartbeats 4000000 in
set_option maxRecDepth 100000 in
theorem cn_X4_advise_1 {l : Launch} {g : gT} {sz : Nat} {am : Nat → Nat} {th : Int32} {sa : Nat → Int32} {z : sT} (hV : VS z) (hR : RS z sa) {x : Int32} (hx_ : ¬ inR x (sL z)) : WR (S := Unit) l yX4_advise wsX4_advise ({ frames := 2, cells := 0, slots := 0, locals := 43 } : Room) [.ref (am 0), .int x] g (wMo g am (th) (sa) (z)) sz (fun _ : Unit => wMo g am (nI 1) (sa) (z)) (fun _ => some (.int (nI 0))) 0 0 := by
  refine WR.of (cc := cX4_advise) (maxL := 6) (ret := (some .int)) (by decide) rfl (Nat.le_of_ble_eq_true rfl) ?_
  intro p e s m below meth c hx hb hml hr hlocks hown hin0 hts hsz hE0 hP hD ls hl
  subst hsz
  have hown : s.vm.findClass RX4 = some m.cls := hown
  have hA : ∀ q, s.heap.size ≤ q → va_A (wMo g am (th) (sa) (z)) s.heap.size q := fun q h => Or.inr h
  have hE := hE0
  have hS : va_S (va_A (wMo g am (th) (sa) (z)) s.heap.size) s.heap s.heap [] := va_S.rf
  have hl : lv_has ls 6 [(0, .ref (am 0)), (1, .int x)] := hl
  have hL := hV.L
  have hn := hV.n
  refine lv_aload_n hx hb dX4_advise_0 rfl (lv_at hl 0 rfl) ?_
  refine lv_iconst (v := nI 0) hx hb dX4_advise_1 (by decide) ?_
  refine va_put (D := g.1) (ci := 5) (v := .int (nI 0)) (ty := .int) (C := RX4) (T := TX4) (N := 9) hx hb hts (q_sub wsX40 45 rfl) tyX4 tyX4_ok nmX4 hown hE.K hP hD hS 0 rfl rfl 0 (by decide) (hts _ (List.mem_of_getElem? (i := 1) rfl)) (fun _ h9 => h9) rfl (by decide +kernel) rfl rfl (Nat.le_of_ble_eq_true rfl) dX4_advise_2 (fun H locs hP hD hS => ?_)
  have hP : va_P g.1 vwCl (wMo g am (nI 0) (sa) (z)) H := hP
  have hD : va_D (va_A (wMo g am (th) (sa) (z)) s.heap.size) (wMo g am (nI 0) (sa) (z)) := hD
  have hE := hE0.kept hS.2.1
  refine lv_aload_n hx hb dX4_advise_5 rfl (lv_at hl 0 rfl) ?_
  refine lv_iload_n hx hb dX4_advise_6 rfl (lv_at hl 1 rfl) ?_
  refine q_roV (As := [.int x]) (rest := []) ⟨hx, hb, hml, hown, hts⟩ (c_X4_isCode hV hR (x := x)) (cwV 1 hts gX4_advise_X4_isCode rfl rfl rfl (by decide +kernel) ⟨Nat.le_of_ble_eq_true rfl, Nat.le_of_ble_eq_true rfl⟩) hE (fun q h => hA q (Nat.le_trans hS.1 h)) hP (va_recv hE.K hP (ci := 5) (q0 := 0) rfl rfl) rfl hl.1 rfl (Nat.le_of_ble_eq_true rfl) dX4_advise_7 ⟨Nat.le_of_ble_eq_true rfl, Nat.le_of_ble_eq_true rfl⟩ ?_
  refine q_ifb_ne (tgt := 19) hx hb dX4_advise_10 (by decide) (fun c_1 => ?_) (fun c_1 => ?_)
  · exact absurd c_1 (hx_)
  · refine lv_aload_n hx hb dX4_advise_13 rfl (lv_at hl 0 rfl) ?_
    refine lv_iconst (v := nI 1) hx hb dX4_advise_14 (by decide) ?_
    refine q_wrV (wr := []) (As := [.int (nI 1)]) (rest := []) ⟨hx, hb, hml, hown, hts⟩ (c_X4_no (th := nI 0) (x := nI 1) hV hR) (cwV 1 hts gX4_advise_X4_no rfl rfl rfl (by decide +kernel) ⟨Nat.le_of_ble_eq_true rfl, Nat.le_of_ble_eq_true rfl⟩) hE hP hD hS hA (va_recv hE.K hP (ci := 5) (q0 := 0) rfl rfl) rfl hl.1 rfl (Nat.le_of_ble_eq_true rfl) dX4_advise_15 ⟨Nat.le_of_ble_eq_true rfl, Nat.le_of_ble_eq_true rfl⟩ (fun _u H locs hP hD hS hE => ?_)
    have hP : va_P g.1 vwCl (wMo g am (nI 1) (sa) (z)) H := hP
    have hD : va_D (va_A (wMo g am (th) (sa) (z)) s.heap.size) (wMo g am (nI 1) (sa) (z)) := hD
    exact q_wiret (()) hx hb hr hlocks hP hD hS dX4_advise_18 rfl
set_option maxHeartbeats 4000000 in
set_option maxRecDepth 100000 in
theorem c_X4_wrongWith {l : Launch} {g : gT} {sz : Nat} {am : Nat → Nat} {th : Int32} {sa : Nat → Int32} {z : sT} (hV : VS z) (hR : RS z sa) {k s_ : Nat} (hk_ : k < sn z) (h1_ : 1 ≤ s_) (h9_ : s_ ≤ 9) : WR (S := Unit) l yX4_wrongWith wsX4_wrongWith ({ frames := 9, cells := 0, slots := 0, locals := 200 } : Room) [.ref (am 0), .int (nI k), .int (nI s_)] g (wMo g am (th) (sa) (z)) sz (fun _ : Unit => wMo g am (th) (sa) (z)) (fun _ => some (.int (nI (wwM z k s_)))) 0 0 := by
  refine WR.of (cc := cX4_wrongWith) (maxL := 5) (ret := (some .int)) (by decide) rfl (Nat.le_of_ble_eq_true rfl) ?_
  intro p e s m below meth c hx hb hml hr hlocks hown hin0 hts hsz hE0 hP hD ls hl
  subst hsz
  have hown : s.vm.findClass RX4 = some m.cls := hown
  have hA : ∀ q, s.heap.size ≤ q → va_A (wMo g am (th) (sa) (z)) s.heap.size q := fun q h => Or.inr h
  have hE := hE0
  have hS : va_S (va_A (wMo g am (th) (sa) (z)) s.heap.size) s.heap s.heap [] := va_S.rf
  have hl : lv_has ls 5 [(0, .ref (am 0)), (1, .int (nI k)), (2, .int (nI s_))] := hl
  have hL := hV.L
  have hn := hV.n
  have hb9 := hV.h hk_
  refine lv_aload_n hx hb dX4_wrongWith_0 rfl (lv_at hl 0 rfl) ?_
  refine va_get (v := .ref (am 2)) (C := RX4) (T := TX4) (N := 9) hx hb hts (q_sub wsX40 55 rfl) hown hE.K hP 0 rfl rfl 4 (by decide) (hts _ (List.mem_of_getElem? (i := 1) rfl)) (fun _ h9 => h9) rfl dX4_wrongWith_1 ?_
  refine lv_iload_n hx hb dX4_wrongWith_4 rfl (lv_at hl 1 rfl) ?_
  refine q_iald (v := nI (ssr z k)) hx hb hE (hP 2 _ rfl) (by omega) (by omega) dX4_wrongWith_5 rfl ?_
  refine lv_istore_n (lv' := [(3, .int (nI (ssr z k))), (0, .ref (am 0)), (1, .int (nI k)), (2, .int (nI s_))]) hx hb dX4_wrongWith_6 rfl hl (by decide) rfl (fun ls hl => ?_)
  refine lv_aload_n hx hb dX4_wrongWith_7 rfl (lv_at hl 1 rfl) ?_
  refine va_get (v := .ref (am 2)) (C := RX4) (T := TX4) (N := 9) hx hb hts (q_sub wsX40 55 rfl) hown hE.K hP 0 rfl rfl 4 (by decide) (hts _ (List.mem_of_getElem? (i := 1) rfl)) (fun _ h9 => h9) rfl dX4_wrongWith_8 ?_
  refine lv_iload_n hx hb dX4_wrongWith_11 rfl (lv_at hl 2 rfl) ?_
  refine lv_iload_n hx hb dX4_wrongWith_12 rfl (lv_at hl 3 rfl) ?_
  refine q_iast hx hb hE hP hD hS (q0 := 2) rfl (by omega) (by omega) dX4_wrongWith_13 (fun H locs hP hD hS => ?_)
  have hP : va_P g.1 vwCl (wMo g am (th) (sa) (zsr z k s_)) H := q_eqP wMo_2 hP
  have hD : va_D (va_A (wMo g am (th) (sa) (z)) s.heap.size) (wMo g am (th) (sa) (zsr z k s_)) := q_eqD wMo_2 hD
  have hE := hE0.kept hS.2.1
  refine lv_aload_n hx hb dX4_wrongWith_14 rfl (lv_at hl 1 rfl) ?_
  refine q_roV (As := []) (rest := []) ⟨hx, hb, hml, hown, hts⟩ (c_X4_allWrong (z := zsr z k s_) (hV.sr h1_ h9_) hR) (cwV 0 hts gX4_wrongWith_X4_allWrong rfl rfl rfl (by decide +kernel) ⟨Nat.le_of_ble_eq_true rfl, Nat.le_of_ble_eq_true rfl⟩) hE (fun q h => hA q (Nat.le_trans hS.1 h)) hP (va_recv hE.K hP (ci := 5) (q0 := 0) rfl rfl) rfl hl.1 rfl (Nat.le_of_ble_eq_true rfl) dX4_wrongWith_15 ⟨Nat.le_of_ble_eq_true rfl, Nat.le_of_ble_eq_true rfl⟩ ?_
  refine lv_istore (lv' := [(4, .int (nI (wwM z k s_))), (3, .int (nI (ssr z k))), (0, .ref (am 0)), (1, .int (nI k)), (2, .int (nI s_))]) hx hb dX4_wrongWith_18 hl (by decide) rfl (fun ls hl => ?_)
  refine lv_aload_n hx hb dX4_wrongWith_20 rfl (lv_at hl 2 rfl) ?_
  refine va_get (v := .ref (am 2)) (C := RX4) (T := TX4) (N := 9) hx hb hts (q_sub wsX40 55 rfl) hown hE.K hP 0 rfl rfl 4 (by decide) (hts _ (List.mem_of_getElem? (i := 1) rfl)) (fun _ h9 => h9) rfl dX4_wrongWith_21 ?_
  refine lv_iload_n hx hb dX4_wrongWith_24 rfl (lv_at hl 3 rfl) ?_
  refine lv_iload_n hx hb dX4_wrongWith_25 rfl (lv_at hl 1 rfl) ?_
  refine q_iast hx hb hE hP hD hS (q0 := 2) rfl (by omega) (by omega) dX4_wrongWith_26 (fun H locs hP hD hS => ?_)
  have hP : va_P g.1 vwCl (wMo g am (th) (sa) (z)) H := q_eqP (wMo_2.trans wMo_sr) hP
  have hD : va_D (va_A (wMo g am (th) (sa) (z)) s.heap.size) (wMo g am (th) (sa) (z)) := q_eqD (wMo_2.trans wMo_sr) hD
  have hE := hE0.kept hS.2.1
  refine lv_iload hx hb dX4_wrongWith_27 (lv_at hl 0 rfl) ?_
  exact q_wiret (()) hx hb hr hlocks hP hD hS dX4_wrongWith_29 rfl
set_option maxHeartbeats 4000000 in
set_option maxRecDepth 100000 in
theorem c_X4_would {l : Launch} {g : gT} {sz : Nat} {am : Nat → Nat} {th : Int32} {sa : Nat → Int32} {z : sT} (hV : VS z) (hR : RS z sa) {k s_ : Nat} (hk_ : k < sn z) (h1_ : 1 ≤ s_) (h9_ : s_ ≤ 9) : WR (S := Unit) l yX4_would wsX4_would ({ frames := 10, cells := 0, slots := 0, locals := 224 } : Room) [.ref (am 0), .int (nI k), .int (nI s_)] g (wMo g am (th) (sa) (z)) sz (fun _ : Unit => wMo g am (nI 0) (sa) (z)) (fun _ => some (.int (nI (wwM z k s_)))) 0 0 := by
  refine WR.of (cc := cX4_would) (maxL := 3) (ret := (some .int)) (by decide) rfl (Nat.le_of_ble_eq_true rfl) ?_
  intro p e s m below meth c hx hb hml hr hlocks hown hin0 hts hsz hE0 hP hD ls hl
  subst hsz
  have hown : s.vm.findClass RX4 = some m.cls := hown
  have hA : ∀ q, s.heap.size ≤ q → va_A (wMo g am (th) (sa) (z)) s.heap.size q := fun q h => Or.inr h
  have hE := hE0
  have hS : va_S (va_A (wMo g am (th) (sa) (z)) s.heap.size) s.heap s.heap [] := va_S.rf
  have hl : lv_has ls 3 [(0, .ref (am 0)), (1, .int (nI k)), (2, .int (nI s_))] := hl
  have hL := hV.L
  have hn := hV.n
  refine lv_aload_n hx hb dX4_would_0 rfl (lv_at hl 0 rfl) ?_
  refine lv_iconst (v := nI 0) hx hb dX4_would_1 (by decide) ?_
  refine va_put (D := g.1) (ci := 5) (v := .int (nI 0)) (ty := .int) (C := RX4) (T := TX4) (N := 9) hx hb hts (q_sub wsX40 74 rfl) tyX4 tyX4_ok nmX4 hown hE.K hP hD hS 0 rfl rfl 0 (by decide) (hts _ (List.mem_of_getElem? (i := 1) rfl)) (fun _ h9 => h9) rfl (by decide +kernel) rfl rfl (Nat.le_of_ble_eq_true rfl) dX4_would_2 (fun H locs hP hD hS => ?_)
  have hP : va_P g.1 vwCl (wMo g am (nI 0) (sa) (z)) H := hP
  have hD : va_D (va_A (wMo g am (th) (sa) (z)) s.heap.size) (wMo g am (nI 0) (sa) (z)) := hD
  have hE := hE0.kept hS.2.1
  refine lv_aload_n hx hb dX4_would_5 rfl (lv_at hl 0 rfl) ?_
  refine lv_iload_n hx hb dX4_would_6 rfl (lv_at hl 1 rfl) ?_
  refine q_roV (As := [.int (nI k)]) (rest := []) ⟨hx, hb, hml, hown, hts⟩ (c_X4_isHill hV hR (x := nI k)) (cwV 1 hts gX4_would_X4_isHill rfl rfl rfl (by decide +kernel) ⟨Nat.le_of_ble_eq_true rfl, Nat.le_of_ble_eq_true rfl⟩) hE (fun q h => hA q (Nat.le_trans hS.1 h)) hP (va_recv hE.K hP (ci := 5) (q0 := 0) rfl rfl) rfl hl.1 rfl (Nat.le_of_ble_eq_true rfl) dX4_would_7 ⟨Nat.le_of_ble_eq_true rfl, Nat.le_of_ble_eq_true rfl⟩ ?_
  refine q_ifb_ne (tgt := 19) hx hb dX4_would_10 (by decide) (fun c_1 => ?_) (fun c_1 => ?_)
  · refine lv_iload_n hx hb dX4_would_19 rfl (lv_at hl 2 rfl) ?_
    refine q_roS (As := [.int (nI s_)]) (rest := []) ⟨hx, hb, hml, hown, hts⟩ (c_X4_isStrength (x := nI s_)) (va_cwS 1 hts gX4_would_X4_isStrength rfl rfl rfl (by decide +kernel) ⟨Nat.le_of_ble_eq_true rfl, Nat.le_of_ble_eq_true rfl⟩) hE (fun q h => hA q (Nat.le_trans hS.1 h)) trivial rfl hl.1 rfl (Nat.le_of_ble_eq_true rfl) dX4_would_20 ⟨Nat.le_of_ble_eq_true rfl, Nat.le_of_ble_eq_true rfl⟩ ?_
    refine q_ifb_eq (tgt := 35) hx hb dX4_would_23 (by decide) (fun c_2 => ?_) (fun c_2 => ?_)
    · exact absurd (inB_nI (by omega) (by omega) (by omega)) c_2
    · refine lv_aload_n hx hb dX4_would_26 rfl (lv_at hl 0 rfl) ?_
      refine lv_iload_n hx hb dX4_would_27 rfl (lv_at hl 1 rfl) ?_
      refine lv_iload_n hx hb dX4_would_28 rfl (lv_at hl 2 rfl) ?_
      refine q_wrV (wr := []) (As := [.int (nI k), .int (nI s_)]) (rest := []) ⟨hx, hb, hml, hown, hts⟩ (c_X4_wrongWith (th := nI 0) (s_ := s_) hV hR hk_ h1_ h9_) (cwV 2 hts gX4_would_X4_wrongWith rfl rfl rfl (by decide +kernel) ⟨Nat.le_of_ble_eq_true rfl, Nat.le_of_ble_eq_true rfl⟩) hE hP hD hS hA (va_recv hE.K hP (ci := 5) (q0 := 0) rfl rfl) rfl hl.1 rfl (Nat.le_of_ble_eq_true rfl) dX4_would_29 ⟨Nat.le_of_ble_eq_true rfl, Nat.le_of_ble_eq_true rfl⟩ (fun _u H locs hP hD hS hE => ?_)
      have hP : va_P g.1 vwCl (wMo g am (nI 0) (sa) (z)) H := hP
      have hD : va_D (va_A (wMo g am (th) (sa) (z)) s.heap.size) (wMo g am (nI 0) (sa) (z)) := hD
      refine lv_goto (tgt := 40) hx hb dX4_would_32 (by decide) ?_
      exact q_wiret (()) hx hb hr hlocks hP hD hS dX4_would_40 rfl
  · exact absurd (inR_nI hk_ (by omega)) c_1
set_option maxHeartbeats 4000000 in
set_option maxRecDepth 100000 in
theorem cn_X4_would_1 {l : Launch} {g : gT} {sz : Nat} {am : Nat → Nat} {th : Int32} {sa : Nat → Int32} {z : sT} (hV : VS z) (hR : RS z sa) {x y : Int32} (hx_ : ¬ inR x (sn z)) : WR (S := Unit) l yX4_would wsX4_would ({ frames := 2, cells := 0, slots := 0, locals := 43 } : Room) [.ref (am 0), .int x, .int y] g (wMo g am (th) (sa) (z)) sz (fun _ : Unit => wMo g am (nI 1) (sa) (z)) (fun _ => some (.int (nI 0))) 0 0 := by
  refine WR.of (cc := cX4_would) (maxL := 3) (ret := (some .int)) (by decide) rfl (Nat.le_of_ble_eq_true rfl) ?_
  intro p e s m below meth c hx hb hml hr hlocks hown hin0 hts hsz hE0 hP hD ls hl
  subst hsz
  have hown : s.vm.findClass RX4 = some m.cls := hown
  have hA : ∀ q, s.heap.size ≤ q → va_A (wMo g am (th) (sa) (z)) s.heap.size q := fun q h => Or.inr h
  have hE := hE0
  have hS : va_S (va_A (wMo g am (th) (sa) (z)) s.heap.size) s.heap s.heap [] := va_S.rf
  have hl : lv_has ls 3 [(0, .ref (am 0)), (1, .int x), (2, .int y)] := hl
  have hL := hV.L
  have hn := hV.n
  refine lv_aload_n hx hb dX4_would_0 rfl (lv_at hl 0 rfl) ?_
  refine lv_iconst (v := nI 0) hx hb dX4_would_1 (by decide) ?_
  refine va_put (D := g.1) (ci := 5) (v := .int (nI 0)) (ty := .int) (C := RX4) (T := TX4) (N := 9) hx hb hts (q_sub wsX40 74 rfl) tyX4 tyX4_ok nmX4 hown hE.K hP hD hS 0 rfl rfl 0 (by decide) (hts _ (List.mem_of_getElem? (i := 1) rfl)) (fun _ h9 => h9) rfl (by decide +kernel) rfl rfl (Nat.le_of_ble_eq_true rfl) dX4_would_2 (fun H locs hP hD hS => ?_)
  have hP : va_P g.1 vwCl (wMo g am (nI 0) (sa) (z)) H := hP
  have hD : va_D (va_A (wMo g am (th) (sa) (z)) s.heap.size) (wMo g am (nI 0) (sa) (z)) := hD
  have hE := hE0.kept hS.2.1
  refine lv_aload_n hx hb dX4_would_5 rfl (lv_at hl 0 rfl) ?_
  refine lv_iload_n hx hb dX4_would_6 rfl (lv_at hl 1 rfl) ?_
  refine q_roV (As := [.int x]) (rest := []) ⟨hx, hb, hml, hown, hts⟩ (c_X4_isHill hV hR (x := x)) (cwV 1 hts gX4_would_X4_isHill rfl rfl rfl (by decide +kernel) ⟨Nat.le_of_ble_eq_true rfl, Nat.le_of_ble_eq_true rfl⟩) hE (fun q h => hA q (Nat.le_trans hS.1 h)) hP (va_recv hE.K hP (ci := 5) (q0 := 0) rfl rfl) rfl hl.1 rfl (Nat.le_of_ble_eq_true rfl) dX4_would_7 ⟨Nat.le_of_ble_eq_true rfl, Nat.le_of_ble_eq_true rfl⟩ ?_
  refine q_ifb_ne (tgt := 19) hx hb dX4_would_10 (by decide) (fun c_1 => ?_) (fun c_1 => ?_)
  · exact absurd c_1 (hx_)
  · refine lv_aload_n hx hb dX4_would_13 rfl (lv_at hl 0 rfl) ?_
    refine lv_iconst (v := nI 1) hx hb dX4_would_14 (by decide) ?_
    refine q_wrV (wr := []) (As := [.int (nI 1)]) (rest := []) ⟨hx, hb, hml, hown, hts⟩ (c_X4_no (th := nI 0) (x := nI 1) hV hR) (cwV 1 hts gX4_would_X4_no rfl rfl rfl (by decide +kernel) ⟨Nat.le_of_ble_eq_true rfl, Nat.le_of_ble_eq_true rfl⟩) hE hP hD hS hA (va_recv hE.K hP (ci := 5) (q0 := 0) rfl rfl) rfl hl.1 rfl (Nat.le_of_ble_eq_true rfl) dX4_would_15 ⟨Nat.le_of_ble_eq_true rfl, Nat.le_of_ble_eq_true rfl⟩ (fun _u H locs hP hD hS hE => ?_)
    have hP : va_P g.1 vwCl (wMo g am (nI 1) (sa) (z)) H := hP
    have hD : va_D (va_A (wMo g am (th) (sa) (z)) s.heap.size) (wMo g am (nI 1) (sa) (z)) := hD
    exact q_wiret (()) hx hb hr hlocks hP hD hS dX4_would_18 rfl
set_option maxHeartbeats 4000000 in
set_option maxRecDepth 100000 in
theorem cn_X4_would_2 {l : Launch} {g : gT} {sz : Nat} {am : Nat → Nat} {th : Int32} {sa : Nat → Int32} {z : sT} (hV : VS z) (hR : RS z sa) {k : Nat} {x : Int32} (hk_ : k < sn z) (hx_ : ¬ inB x 1 9) : WR (S := Unit) l yX4_would wsX4_would ({ frames := 2, cells := 0, slots := 0, locals := 43 } : Room) [.ref (am 0), .int (nI k), .int x] g (wMo g am (th) (sa) (z)) sz (fun _ : Unit => wMo g am (nI 2) (sa) (z)) (fun _ => some (.int (nI 0))) 0 0 := by
  refine WR.of (cc := cX4_would) (maxL := 3) (ret := (some .int)) (by decide) rfl (Nat.le_of_ble_eq_true rfl) ?_
  intro p e s m below meth c hx hb hml hr hlocks hown hin0 hts hsz hE0 hP hD ls hl
  subst hsz
  have hown : s.vm.findClass RX4 = some m.cls := hown
  have hA : ∀ q, s.heap.size ≤ q → va_A (wMo g am (th) (sa) (z)) s.heap.size q := fun q h => Or.inr h
  have hE := hE0
  have hS : va_S (va_A (wMo g am (th) (sa) (z)) s.heap.size) s.heap s.heap [] := va_S.rf
  have hl : lv_has ls 3 [(0, .ref (am 0)), (1, .int (nI k)), (2, .int x)] := hl
  have hL := hV.L
  have hn := hV.n
  refine lv_aload_n hx hb dX4_would_0 rfl (lv_at hl 0 rfl) ?_
  refine lv_iconst (v := nI 0) hx hb dX4_would_1 (by decide) ?_
  refine va_put (D := g.1) (ci := 5) (v := .int (nI 0)) (ty := .int) (C := RX4) (T := TX4) (N := 9) hx hb hts (q_sub wsX40 74 rfl) tyX4 tyX4_ok nmX4 hown hE.K hP hD hS 0 rfl rfl 0 (by decide) (hts _ (List.mem_of_getElem? (i := 1) rfl)) (fun _ h9 => h9) rfl (by decide +kernel) rfl rfl (Nat.le_of_ble_eq_true rfl) dX4_would_2 (fun H locs hP hD hS => ?_)
  have hP : va_P g.1 vwCl (wMo g am (nI 0) (sa) (z)) H := hP
  have hD : va_D (va_A (wMo g am (th) (sa) (z)) s.heap.size) (wMo g am (nI 0) (sa) (z)) := hD
  have hE := hE0.kept hS.2.1
  refine lv_aload_n hx hb dX4_would_5 rfl (lv_at hl 0 rfl) ?_
  refine lv_iload_n hx hb dX4_would_6 rfl (lv_at hl 1 rfl) ?_
  refine q_roV (As := [.int (nI k)]) (rest := []) ⟨hx, hb, hml, hown, hts⟩ (c_X4_isHill hV hR (x := nI k)) (cwV 1 hts gX4_would_X4_isHill rfl rfl rfl (by decide +kernel) ⟨Nat.le_of_ble_eq_true rfl, Nat.le_of_ble_eq_true rfl⟩) hE (fun q h => hA q (Nat.le_trans hS.1 h)) hP (va_recv hE.K hP (ci := 5) (q0 := 0) rfl rfl) rfl hl.1 rfl (Nat.le_of_ble_eq_true rfl) dX4_would_7 ⟨Nat.le_of_ble_eq_true rfl, Nat.le_of_ble_eq_true rfl⟩ ?_
  refine q_ifb_ne (tgt := 19) hx hb dX4_would_10 (by decide) (fun c_1 => ?_) (fun c_1 => ?_)
  · refine lv_iload_n hx hb dX4_would_19 rfl (lv_at hl 2 rfl) ?_
    refine q_roS (As := [.int x]) (rest := []) ⟨hx, hb, hml, hown, hts⟩ (c_X4_isStrength (x := x)) (va_cwS 1 hts gX4_would_X4_isStrength rfl rfl rfl (by decide +kernel) ⟨Nat.le_of_ble_eq_true rfl, Nat.le_of_ble_eq_true rfl⟩) hE (fun q h => hA q (Nat.le_trans hS.1 h)) trivial rfl hl.1 rfl (Nat.le_of_ble_eq_true rfl) dX4_would_20 ⟨Nat.le_of_ble_eq_true rfl, Nat.le_of_ble_eq_true rfl⟩ ?_
    refine q_ifb_eq (tgt := 35) hx hb dX4_would_23 (by decide) (fun c_2 => ?_) (fun c_2 => ?_)
    · refine lv_aload_n hx hb dX4_would_35 rfl (lv_at hl 0 rfl) ?_
      refine lv_iconst (v := nI 2) hx hb dX4_would_36 (by decide) ?_
      refine q_wrV (wr := []) (As := [.int (nI 2)]) (rest := []) ⟨hx, hb, hml, hown, hts⟩ (c_X4_no (th := nI 0) (x := nI 2) hV hR) (cwV 1 hts gX4_would_X4_no rfl rfl rfl (by decide +kernel) ⟨Nat.le_of_ble_eq_true rfl, Nat.le_of_ble_eq_true rfl⟩) hE hP hD hS hA (va_recv hE.K hP (ci := 5) (q0 := 0) rfl rfl) rfl hl.1 rfl (Nat.le_of_ble_eq_true rfl) dX4_would_37 ⟨Nat.le_of_ble_eq_true rfl, Nat.le_of_ble_eq_true rfl⟩ (fun _u H locs hP hD hS hE => ?_)
      have hP : va_P g.1 vwCl (wMo g am (nI 2) (sa) (z)) H := hP
      have hD : va_D (va_A (wMo g am (th) (sa) (z)) s.heap.size) (wMo g am (nI 2) (sa) (z)) := hD
      exact q_wiret (()) hx hb hr hlocks hP hD hS dX4_would_40 rfl
    · exact absurd c_2 (hx_)
  · exact absurd (inR_nI hk_ (by omega)) c_1
theorem tuS_in (f : Nat → Nat) : ∀ n, 1 ≤ tuS f n ∧ tuS f n ≤ n + 1
  | 0 => ⟨Nat.le_refl 1, Nat.le_refl 1⟩
  | n + 1 => by
    have := tuS_in f n
    rw [tuS]; split <;> omega
set_option maxHeartbeats 4000000 in
set_option maxRecDepth 100000 in
theorem c_X4_tune {l : Launch} {g : gT} {sz : Nat} {am : Nat → Nat} {th : Int32} {sa : Nat → Int32} {z : sT} (hV : VS z) (hR : RS z sa) {k : Nat} (hk_ : k < sn z) : WR (S := Unit) l yX4_tune wsX4_tune ({ frames := 10, cells := 0, slots := 0, locals := 224 } : Room) [.ref (am 0), .int (nI k)] g (wMo g am (th) (sa) (z)) sz (fun _ : Unit => wMo g am (nI 0) (sa) (z)) (fun _ => some (.int (nI (tuS (wwM z k) 8)))) 0 0 := by
  refine WR.of (cc := cX4_tune) (maxL := 6) (ret := (some .int)) (by decide) rfl (Nat.le_of_ble_eq_true rfl) ?_
  intro p e s m below meth c hx hb hml hr hlocks hown hin0 hts hsz hE0 hP hD ls hl
  subst hsz
  have hown : s.vm.findClass RX4 = some m.cls := hown
  have hA : ∀ q, s.heap.size ≤ q → va_A (wMo g am (th) (sa) (z)) s.heap.size q := fun q h => Or.inr h
  have hE := hE0
  have hS : va_S (va_A (wMo g am (th) (sa) (z)) s.heap.size) s.heap s.heap [] := va_S.rf
  have hl : lv_has ls 6 [(0, .ref (am 0)), (1, .int (nI k))] := hl
  have hL := hV.L
  have hn := hV.n
  refine lv_aload_n hx hb dX4_tune_0 rfl (lv_at hl 0 rfl) ?_
  refine lv_iconst (v := nI 0) hx hb dX4_tune_1 (by decide) ?_
  refine va_put (D := g.1) (ci := 5) (v := .int (nI 0)) (ty := .int) (C := RX4) (T := TX4) (N := 9) hx hb hts (q_sub wsX40 71 rfl) tyX4 tyX4_ok nmX4 hown hE.K hP hD hS 0 rfl rfl 0 (by decide) (hts _ (List.mem_of_getElem? (i := 1) rfl)) (fun _ h9 => h9) rfl (by decide +kernel) rfl rfl (Nat.le_of_ble_eq_true rfl) dX4_tune_2 (fun H locs hP hD hS => ?_)
  have hP : va_P g.1 vwCl (wMo g am (nI 0) (sa) (z)) H := hP
  have hD : va_D (va_A (wMo g am (th) (sa) (z)) s.heap.size) (wMo g am (nI 0) (sa) (z)) := hD
  have hE := hE0.kept hS.2.1
  refine lv_aload_n hx hb dX4_tune_5 rfl (lv_at hl 0 rfl) ?_
  refine lv_iload_n hx hb dX4_tune_6 rfl (lv_at hl 1 rfl) ?_
  refine q_roV (As := [.int (nI k)]) (rest := []) ⟨hx, hb, hml, hown, hts⟩ (c_X4_isHill hV hR (x := nI k)) (cwV 1 hts gX4_tune_X4_isHill rfl rfl rfl (by decide +kernel) ⟨Nat.le_of_ble_eq_true rfl, Nat.le_of_ble_eq_true rfl⟩) hE (fun q h => hA q (Nat.le_trans hS.1 h)) hP (va_recv hE.K hP (ci := 5) (q0 := 0) rfl rfl) rfl hl.1 rfl (Nat.le_of_ble_eq_true rfl) dX4_tune_7 ⟨Nat.le_of_ble_eq_true rfl, Nat.le_of_ble_eq_true rfl⟩ ?_
  refine q_ifb_ne (tgt := 19) hx hb dX4_tune_10 (by decide) (fun c_1 => ?_) (fun c_1 => ?_)
  · refine lv_iconst (v := nI 1) hx hb dX4_tune_19 (by decide) ?_
    refine lv_istore_n (lv' := [(2, .int (nI 1)), (0, .ref (am 0)), (1, .int (nI k))]) hx hb dX4_tune_20 rfl hl (by decide) rfl (fun ls hl => ?_)
    refine lv_aload_n hx hb dX4_tune_21 rfl (lv_at hl 1 rfl) ?_
    refine lv_iload_n hx hb dX4_tune_22 rfl (lv_at hl 2 rfl) ?_
    refine lv_iconst (v := nI 1) hx hb dX4_tune_23 (by decide) ?_
    refine q_wrV (wr := []) (As := [.int (nI k), .int (nI 1)]) (rest := []) ⟨hx, hb, hml, hown, hts⟩ (c_X4_wrongWith (th := nI 0) (s_ := 1) hV hR hk_ (by omega) (by omega)) (cwV 2 hts gX4_tune_X4_wrongWith rfl rfl rfl (by decide +kernel) ⟨Nat.le_of_ble_eq_true rfl, Nat.le_of_ble_eq_true rfl⟩) hE hP hD hS hA (va_recv hE.K hP (ci := 5) (q0 := 0) rfl rfl) rfl hl.1 rfl (Nat.le_of_ble_eq_true rfl) dX4_tune_24 ⟨Nat.le_of_ble_eq_true rfl, Nat.le_of_ble_eq_true rfl⟩ (fun _u H locs hP hD hS hE => ?_)
    have hP : va_P g.1 vwCl (wMo g am (nI 0) (sa) (z)) H := hP
    have hD : va_D (va_A (wMo g am (th) (sa) (z)) s.heap.size) (wMo g am (nI 0) (sa) (z)) := hD
    refine lv_istore_n (lv' := [(3, .int (nI (wwM z k 1))), (2, .int (nI 1)), (0, .ref (am 0)), (1, .int (nI k))]) hx hb dX4_tune_27 rfl hl (by decide) rfl (fun ls hl => ?_)
    refine lv_iconst (v := nI 2) hx hb dX4_tune_28 (by decide) ?_
    refine lv_istore (lv' := [(4, .int (nI 2)), (3, .int (nI (wwM z k 1))), (2, .int (nI 1)), (0, .ref (am 0)), (1, .int (nI k))]) hx hb dX4_tune_29 hl (by decide) rfl (fun ls hl => ?_)
    have lp_31 : ∀ (n_ i : Nat) , i ≤ 8 → 8 + 1 ≤ i + n_ → ∀ (H : Heap) (locs : List Loc), va_P g.1 vwCl (wMo g am (nI 0) (sa) (z)) H → va_D (va_A (wMo g am (th) (sa) (z)) s.heap.size) (wMo g am (nI 0) (sa) (z)) → va_S (va_A (wMo g am (th) (sa) (z)) s.heap.size) s.heap H locs → Ev g (va_A (wMo g am (th) (sa) (z)) s.heap.size) s H → ∀ (ls : Array Slot), lv_has ls 6 [(4, .int (nI (i + 2))), (3, .int (nI (wwM z k (tuS (wwM z k) i)))), (2, .int (nI (tuS (wwM z k) i))), (0, .ref (am 0)), (1, .int (nI k))] → W p l e ({ frames := 10, cells := 0, slots := 0, locals := 224 } : Room) s m ([.ref (am 0), .int (nI k)] : List Value).toArray below meth c H locs 0 0 (MQ below (q_Qw (fun _ : Unit => wMo g am (nI 0) (sa) (z)) (fun _ => some (.int (nI (tuS (wwM z k) 8)))) g (wMo g am (th) (sa) (z)) s.heap.size) ([.ref (am 0), .int (nI k)] : List Value).toArray s 0 0 (va_A (wMo g am (th) (sa) (z)) s.heap.size)) (F0 m 31 ls []) := by
      intro n_
      induction n_ with
      | zero => intro i  hi_ hn_; exact absurd hn_ (by omega)
      | succ n_ ih_31 =>
        intro i  hi_i hn_i  H locs hP hD hS hE ls hl
        have hb0_ := tuS_in (wwM z k) i
        have hb2_ : wwM z k (tuS (wwM z k) i) ≤ sn z * 12 := allW_le (hV.sr hb0_.1 (by omega)) (Nat.le_refl _)
        refine lv_iload hx hb dX4_tune_31 (lv_at hl 0 rfl) ?_
        refine lv_bipush (v := nI 9) hx hb dX4_tune_33 (by decide) ?_
        refine q_icmp_gt (tgt := 68) hx hb (by omega) (by omega) dX4_tune_35 (by decide) (fun c_2 => ?_) (fun c_2 => ?_)
        · obtain ei : i = 8 := by omega
          refine lv_iload_n hx hb dX4_tune_68 rfl (lv_at hl 2 rfl) ?_
          exact q_wiret () hx hb hr hlocks hP hD hS dX4_tune_69 (by rw [ei])
        · have hb1_ : wwM z k (i + 2) ≤ sn z * 12 := allW_le (hV.sr (by omega) (by omega)) (Nat.le_refl _)
          refine lv_aload_n hx hb dX4_tune_38 rfl (lv_at hl 3 rfl) ?_
          refine lv_iload_n hx hb dX4_tune_39 rfl (lv_at hl 4 rfl) ?_
          refine lv_iload hx hb dX4_tune_40 (lv_at hl 0 rfl) ?_
          refine q_wrV (wr := []) (As := [.int (nI k), .int (nI (i + 2))]) (rest := []) ⟨hx, hb, hml, hown, hts⟩ (c_X4_wrongWith (th := nI 0) (s_ := i + 2) hV hR hk_ (by omega) (by omega)) (cwV 2 hts gX4_tune_X4_wrongWith rfl rfl rfl (by decide +kernel) ⟨Nat.le_of_ble_eq_true rfl, Nat.le_of_ble_eq_true rfl⟩) hE hP hD hS hA (va_recv hE.K hP (ci := 5) (q0 := 0) rfl rfl) rfl hl.1 rfl (Nat.le_of_ble_eq_true rfl) dX4_tune_42 ⟨Nat.le_of_ble_eq_true rfl, Nat.le_of_ble_eq_true rfl⟩ (fun _u H locs hP hD hS hE => ?_)
          have hP : va_P g.1 vwCl (wMo g am (nI 0) (sa) (z)) H := hP
          have hD : va_D (va_A (wMo g am (th) (sa) (z)) s.heap.size) (wMo g am (nI 0) (sa) (z)) := hD
          refine lv_istore (lv' := [(5, .int (nI (wwM z k (i + 2)))), (4, .int (nI (i + 2))), (3, .int (nI (wwM z k (tuS (wwM z k) i)))), (2, .int (nI (tuS (wwM z k) i))), (0, .ref (am 0)), (1, .int (nI k))]) hx hb dX4_tune_45 hl (by decide) rfl (fun ls hl => ?_)
          refine lv_iload hx hb dX4_tune_47 (lv_at hl 0 rfl) ?_
          refine lv_iload_n hx hb dX4_tune_49 rfl (lv_at hl 2 rfl) ?_
          refine q_icmp_lt (tgt := 56) hx hb (by omega) (by omega) dX4_tune_50 (by decide) (fun c_3 => ?_) (fun c_3 => ?_)
          · have e9 : tuS (wwM z k) (i + 1) = i + 2 := tuS_t c_3
            refine lv_iload hx hb dX4_tune_56 (lv_at hl 1 rfl) ?_
            refine lv_istore_n (lv' := [(2, .int (nI (i + 2))), (5, .int (nI (wwM z k (i + 2)))), (4, .int (nI (i + 2))), (3, .int (nI (wwM z k (tuS (wwM z k) i)))), (0, .ref (am 0)), (1, .int (nI k))]) hx hb dX4_tune_58 rfl hl (by decide) rfl (fun ls hl => ?_)
            refine lv_iload hx hb dX4_tune_59 (lv_at hl 1 rfl) ?_
            refine lv_istore_n (lv' := [(3, .int (nI (wwM z k (i + 2)))), (2, .int (nI (i + 2))), (5, .int (nI (wwM z k (i + 2)))), (4, .int (nI (i + 2))), (0, .ref (am 0)), (1, .int (nI k))]) hx hb dX4_tune_61 rfl hl (by decide) rfl (fun ls hl => ?_)
            refine lv_iinc (v := nI (i + 2 + 1)) (lv' := [(4, .int (nI (i + 2 + 1))), (3, .int (nI (wwM z k (i + 2)))), (2, .int (nI (i + 2))), (5, .int (nI (wwM z k (i + 2)))), (0, .ref (am 0)), (1, .int (nI k))]) hx hb dX4_tune_62 hl (k := 3) rfl (nI_1 _) (by decide) rfl (fun ls hl => ?_)
            refine lv_goto (tgt := 31) hx hb dX4_tune_65 (by decide) ?_
            exact ih_31 (i + 1)  (by omega) (by omega)  _ _ hP hD hS hE _ (by rw [e9]; exact lv_sub hl [0, 1, 2, 4, 5] rfl)
          · have e9 : tuS (wwM z k) (i + 1) = tuS (wwM z k) i := tuS_f (by omega)
            refine lv_goto (tgt := 62) hx hb dX4_tune_53 (by decide) ?_
            refine lv_iinc (v := nI (i + 2 + 1)) (lv' := [(4, .int (nI (i + 2 + 1))), (5, .int (nI (wwM z k (i + 2)))), (3, .int (nI (wwM z k (tuS (wwM z k) i)))), (2, .int (nI (tuS (wwM z k) i))), (0, .ref (am 0)), (1, .int (nI k))]) hx hb dX4_tune_62 hl (k := 1) rfl (nI_1 _) (by decide) rfl (fun ls hl => ?_)
            refine lv_goto (tgt := 31) hx hb dX4_tune_65 (by decide) ?_
            exact ih_31 (i + 1)  (by omega) (by omega)  _ _ hP hD hS hE _ (by rw [e9]; exact lv_sub hl [0, 2, 3, 4, 5] rfl)
    have hP : va_P g.1 vwCl (wMo g am (nI 0) (sa) (z)) H := hP
    have hD : va_D (va_A (wMo g am (th) (sa) (z)) s.heap.size) (wMo g am (nI 0) (sa) (z)) := hD
    exact lp_31 (8 + 1) 0  (Nat.zero_le _) (by omega)  _ _ hP hD hS hE _ (lv_sub hl [0, 1, 2, 3, 4] rfl)
  · exact absurd (inR_nI hk_ (by omega)) c_1
set_option maxHeartbeats 4000000 in
set_option maxRecDepth 100000 in
theorem cn_X4_tune_1 {l : Launch} {g : gT} {sz : Nat} {am : Nat → Nat} {th : Int32} {sa : Nat → Int32} {z : sT} (hV : VS z) (hR : RS z sa) {x : Int32} (hx_ : ¬ inR x (sn z)) : WR (S := Unit) l yX4_tune wsX4_tune ({ frames := 2, cells := 0, slots := 0, locals := 43 } : Room) [.ref (am 0), .int x] g (wMo g am (th) (sa) (z)) sz (fun _ : Unit => wMo g am (nI 1) (sa) (z)) (fun _ => some (.int (nI 0))) 0 0 := by
  refine WR.of (cc := cX4_tune) (maxL := 6) (ret := (some .int)) (by decide) rfl (Nat.le_of_ble_eq_true rfl) ?_
  intro p e s m below meth c hx hb hml hr hlocks hown hin0 hts hsz hE0 hP hD ls hl
  subst hsz
  have hown : s.vm.findClass RX4 = some m.cls := hown
  have hA : ∀ q, s.heap.size ≤ q → va_A (wMo g am (th) (sa) (z)) s.heap.size q := fun q h => Or.inr h
  have hE := hE0
  have hS : va_S (va_A (wMo g am (th) (sa) (z)) s.heap.size) s.heap s.heap [] := va_S.rf
  have hl : lv_has ls 6 [(0, .ref (am 0)), (1, .int x)] := hl
  have hL := hV.L
  have hn := hV.n
  refine lv_aload_n hx hb dX4_tune_0 rfl (lv_at hl 0 rfl) ?_
  refine lv_iconst (v := nI 0) hx hb dX4_tune_1 (by decide) ?_
  refine va_put (D := g.1) (ci := 5) (v := .int (nI 0)) (ty := .int) (C := RX4) (T := TX4) (N := 9) hx hb hts (q_sub wsX40 71 rfl) tyX4 tyX4_ok nmX4 hown hE.K hP hD hS 0 rfl rfl 0 (by decide) (hts _ (List.mem_of_getElem? (i := 1) rfl)) (fun _ h9 => h9) rfl (by decide +kernel) rfl rfl (Nat.le_of_ble_eq_true rfl) dX4_tune_2 (fun H locs hP hD hS => ?_)
  have hP : va_P g.1 vwCl (wMo g am (nI 0) (sa) (z)) H := hP
  have hD : va_D (va_A (wMo g am (th) (sa) (z)) s.heap.size) (wMo g am (nI 0) (sa) (z)) := hD
  have hE := hE0.kept hS.2.1
  refine lv_aload_n hx hb dX4_tune_5 rfl (lv_at hl 0 rfl) ?_
  refine lv_iload_n hx hb dX4_tune_6 rfl (lv_at hl 1 rfl) ?_
  refine q_roV (As := [.int x]) (rest := []) ⟨hx, hb, hml, hown, hts⟩ (c_X4_isHill hV hR (x := x)) (cwV 1 hts gX4_tune_X4_isHill rfl rfl rfl (by decide +kernel) ⟨Nat.le_of_ble_eq_true rfl, Nat.le_of_ble_eq_true rfl⟩) hE (fun q h => hA q (Nat.le_trans hS.1 h)) hP (va_recv hE.K hP (ci := 5) (q0 := 0) rfl rfl) rfl hl.1 rfl (Nat.le_of_ble_eq_true rfl) dX4_tune_7 ⟨Nat.le_of_ble_eq_true rfl, Nat.le_of_ble_eq_true rfl⟩ ?_
  refine q_ifb_ne (tgt := 19) hx hb dX4_tune_10 (by decide) (fun c_1 => ?_) (fun c_1 => ?_)
  · exact absurd c_1 (hx_)
  · refine lv_aload_n hx hb dX4_tune_13 rfl (lv_at hl 0 rfl) ?_
    refine lv_iconst (v := nI 1) hx hb dX4_tune_14 (by decide) ?_
    refine q_wrV (wr := []) (As := [.int (nI 1)]) (rest := []) ⟨hx, hb, hml, hown, hts⟩ (c_X4_no (th := nI 0) (x := nI 1) hV hR) (cwV 1 hts gX4_tune_X4_no rfl rfl rfl (by decide +kernel) ⟨Nat.le_of_ble_eq_true rfl, Nat.le_of_ble_eq_true rfl⟩) hE hP hD hS hA (va_recv hE.K hP (ci := 5) (q0 := 0) rfl rfl) rfl hl.1 rfl (Nat.le_of_ble_eq_true rfl) dX4_tune_15 ⟨Nat.le_of_ble_eq_true rfl, Nat.le_of_ble_eq_true rfl⟩ (fun _u H locs hP hD hS hE => ?_)
    have hP : va_P g.1 vwCl (wMo g am (nI 1) (sa) (z)) H := hP
    have hD : va_D (va_A (wMo g am (th) (sa) (z)) s.heap.size) (wMo g am (nI 1) (sa) (z)) := hD
    exact q_wiret (()) hx hb hr hlocks hP hD hS dX4_tune_18 rfl
set_option maxHeartbeats 4000000 in
set_option maxRecDepth 100000 in
theorem c_X4_mean {l : Launch} {g : gT} {sz : Nat} {am : Nat → Nat} {th : Int32} {sa : Nat → Int32} {z : sT} (hV : VS z) (hR : RS z sa)  : WR (S := Unit) l yX4_mean wsX4_mean ({ frames := 4, cells := 0, slots := 0, locals := 87 } : Room) [.ref (am 0)] g (wMo g am (th) (sa) (z)) sz (fun _ : Unit => wMo g am (nI 0) (sa) (z)) (fun _ => some (.double (mnV z (kM z)))) 0 0 := by
  refine WR.of (cc := cX4_mean) (maxL := 4) (ret := (some .double)) (by decide) rfl (Nat.le_of_ble_eq_true rfl) ?_
  intro p e s m below meth c hx hb hml hr hlocks hown hin0 hts hsz hE0 hP hD ls hl
  subst hsz
  have hown : s.vm.findClass RX4 = some m.cls := hown
  have hA : ∀ q, s.heap.size ≤ q → va_A (wMo g am (th) (sa) (z)) s.heap.size q := fun q h => Or.inr h
  have hE := hE0
  have hS : va_S (va_A (wMo g am (th) (sa) (z)) s.heap.size) s.heap s.heap [] := va_S.rf
  have hl : lv_has ls 4 [(0, .ref (am 0))] := hl
  have hL := hV.L
  have hn := hV.n
  have hend := endA_le hV (Nat.le_refl (sn z))
  refine lv_aload_n hx hb dX4_mean_0 rfl (lv_at hl 0 rfl) ?_
  refine lv_iconst (v := nI 0) hx hb dX4_mean_1 (by decide) ?_
  refine va_put (D := g.1) (ci := 5) (v := .int (nI 0)) (ty := .int) (C := RX4) (T := TX4) (N := 9) hx hb hts (q_sub wsX40 45 rfl) tyX4 tyX4_ok nmX4 hown hE.K hP hD hS 0 rfl rfl 0 (by decide) (hts _ (List.mem_of_getElem? (i := 1) rfl)) (fun _ h9 => h9) rfl (by decide +kernel) rfl rfl (Nat.le_of_ble_eq_true rfl) dX4_mean_2 (fun H locs hP hD hS => ?_)
  have hP : va_P g.1 vwCl (wMo g am (nI 0) (sa) (z)) H := hP
  have hD : va_D (va_A (wMo g am (th) (sa) (z)) s.heap.size) (wMo g am (nI 0) (sa) (z)) := hD
  have hE := hE0.kept hS.2.1
  refine lv_aload_n hx hb dX4_mean_5 rfl (lv_at hl 0 rfl) ?_
  refine q_roV (As := []) (rest := []) ⟨hx, hb, hml, hown, hts⟩ (c_X4_end hV hR) (cwV 0 hts gX4_mean_X4_end rfl rfl rfl (by decide +kernel) ⟨Nat.le_of_ble_eq_true rfl, Nat.le_of_ble_eq_true rfl⟩) hE (fun q h => hA q (Nat.le_trans hS.1 h)) hP (va_recv hE.K hP (ci := 5) (q0 := 0) rfl rfl) rfl hl.1 rfl (Nat.le_of_ble_eq_true rfl) dX4_mean_6 ⟨Nat.le_of_ble_eq_true rfl, Nat.le_of_ble_eq_true rfl⟩ ?_
  refine lv_istore_n (lv' := [(1, .int (nI (endA z (sn z)))), (0, .ref (am 0))]) hx hb dX4_mean_9 rfl hl (by decide) rfl (fun ls hl => ?_)
  refine lv_iconst (v := nI 0) hx hb dX4_mean_10 (by decide) ?_
  refine lv_istore_n (lv' := [(2, .int (nI 0)), (1, .int (nI (endA z (sn z)))), (0, .ref (am 0))]) hx hb dX4_mean_11 rfl hl (by decide) rfl (fun ls hl => ?_)
  refine lv_iconst (v := nI 0) hx hb dX4_mean_12 (by decide) ?_
  refine lv_istore_n (lv' := [(3, .int (nI 0)), (2, .int (nI 0)), (1, .int (nI (endA z (sn z)))), (0, .ref (am 0))]) hx hb dX4_mean_13 rfl hl (by decide) rfl (fun ls hl => ?_)
  have lp_14 : ∀ (n_ i : Nat) , i ≤ endA z (sn z) → endA z (sn z) + 1 ≤ i + n_ → ∀ (H : Heap) (locs : List Loc), va_P g.1 vwCl (wMo g am (nI 0) (sa) (z)) H → va_D (va_A (wMo g am (th) (sa) (z)) s.heap.size) (wMo g am (nI 0) (sa) (z)) → va_S (va_A (wMo g am (th) (sa) (z)) s.heap.size) s.heap H locs → Ev g (va_A (wMo g am (th) (sa) (z)) s.heap.size) s H → ∀ (ls : Array Slot), lv_has ls 4 [(3, .int (nI i)), (2, .int (sumI (kM z) i)), (1, .int (nI (endA z (sn z)))), (0, .ref (am 0))] → W p l e ({ frames := 4, cells := 0, slots := 0, locals := 87 } : Room) s m ([.ref (am 0)] : List Value).toArray below meth c H locs 0 0 (MQ below (q_Qw (fun _ : Unit => wMo g am (nI 0) (sa) (z)) (fun _ => some (.double (mnV z (kM z)))) g (wMo g am (th) (sa) (z)) s.heap.size) ([.ref (am 0)] : List Value).toArray s 0 0 (va_A (wMo g am (th) (sa) (z)) s.heap.size)) (F0 m 14 ls []) := by
    intro n_
    induction n_ with
    | zero => intro i  hi_ hn_; exact absurd hn_ (by omega)
    | succ n_ ih_14 =>
      intro i  hi_i hn_i  H locs hP hD hS hE ls hl
      refine lv_iload_n hx hb dX4_mean_14 rfl (lv_at hl 0 rfl) ?_
      refine lv_iload_n hx hb dX4_mean_15 rfl (lv_at hl 2 rfl) ?_
      refine q_icmp_ge (tgt := 33) hx hb (by omega) (by omega) dX4_mean_16 (by decide) (fun c_1 => ?_) (fun c_1 => ?_)
      · have ei : i = endA z (sn z) := by omega
        rw [ei] at hl
        refine lv_iload_n hx hb dX4_mean_33 rfl (lv_at hl 2 rfl) ?_
        refine q_if_ne (tgt := 41) hx hb (by omega) dX4_mean_34 (by decide) (fun c_e => ?_) (fun c_e => ?_)
        · refine lv_iload_n hx hb dX4_mean_41 rfl (lv_at hl 1 rfl) ?_
          refine lv_i2d hx hb dX4_mean_42 ?_
          refine lv_iload_n hx hb dX4_mean_43 rfl (lv_at hl 2 rfl) ?_
          refine lv_i2d hx hb dX4_mean_44 ?_
          refine lv_ddiv hx hb dX4_mean_45 (mnV_ok hV (bd_kM hV) (by omega)) ?_
          exact q_wdret () hx hb hr hlocks hP hD hS dX4_mean_46 (by unfold mnV; rw [if_neg (by omega)])
        · refine lv_dconst0 hx hb dX4_mean_37 ?_
          refine lv_goto (tgt := 46) hx hb dX4_mean_38 (by decide) ?_
          exact q_wdret () hx hb hr hlocks hP hD hS dX4_mean_46 (by unfold mnV; rw [if_pos (by omega)])
      · refine lv_iload_n hx hb dX4_mean_19 rfl (lv_at hl 1 rfl) ?_
        refine lv_aload_n hx hb dX4_mean_20 rfl (lv_at hl 3 rfl) ?_
        refine lv_iload_n hx hb dX4_mean_21 rfl (lv_at hl 0 rfl) ?_
        refine q_roV (As := [.int (nI i)]) (rest := [.int (sumI (kM z) i)]) ⟨hx, hb, hml, hown, hts⟩ (c_X4_skyAt hV hR (t := i) (by omega)) (cwV 1 hts gX4_mean_X4_skyAt rfl rfl rfl (by decide +kernel) ⟨Nat.le_of_ble_eq_true rfl, Nat.le_of_ble_eq_true rfl⟩) hE (fun q h => hA q (Nat.le_trans hS.1 h)) hP (va_recv hE.K hP (ci := 5) (q0 := 0) rfl rfl) rfl hl.1 rfl (Nat.le_of_ble_eq_true rfl) dX4_mean_22 ⟨Nat.le_of_ble_eq_true rfl, Nat.le_of_ble_eq_true rfl⟩ ?_
        refine q_iadd (v := sumI (kM z) (i + 1)) hx hb dX4_mean_25 rfl ?_
        refine lv_istore_n (lv' := [(2, .int (sumI (kM z) (i + 1))), (3, .int (nI i)), (1, .int (nI (endA z (sn z)))), (0, .ref (am 0))]) hx hb dX4_mean_26 rfl hl (by decide) rfl (fun ls hl => ?_)
        refine lv_iinc (v := nI (i + 1)) (lv' := [(3, .int (nI (i + 1))), (2, .int (sumI (kM z) (i + 1))), (1, .int (nI (endA z (sn z)))), (0, .ref (am 0))]) hx hb dX4_mean_27 hl (k := 1) rfl (nI_1 _) (by decide) rfl (fun ls hl => ?_)
        refine lv_goto (tgt := 14) hx hb dX4_mean_30 (by decide) ?_
        exact ih_14 (i + 1)  (by omega) (by omega)  _ _ hP hD hS hE _ (lv_sub hl [0, 1, 2, 3] rfl)
  have hP : va_P g.1 vwCl (wMo g am (nI 0) (sa) (z)) H := hP
  have hD : va_D (va_A (wMo g am (th) (sa) (z)) s.heap.size) (wMo g am (nI 0) (sa) (z)) := hD
  exact lp_14 (endA z (sn z) + 1) 0  (Nat.zero_le _) (by omega)  _ _ hP hD hS hE _ (lv_sub hl [0, 1, 2, 3] rfl)
set_option maxHeartbeats 4000000 in
set_option maxRecDepth 100000 in
theorem c_X4_digest {l : Launch} {g : gT} {sz : Nat} {am : Nat → Nat} {th : Int32} {sa : Nat → Int32} {z : sT} (hV : VS z) (hR : RS z sa)  : WR (S := Unit) l yX4_digest wsX4_digest ({ frames := 10, cells := 0, slots := 0, locals := 223 } : Room) [.ref (am 0)] g (wMo g am (th) (sa) (z)) sz (fun _ : Unit => wMo g am (nI 0) (sa) (z)) (fun _ => some (.long (dgA z (kM z)))) 0 0 := by
  refine WR.of (cc := cX4_digest) (maxL := 7) (ret := (some .long)) (by decide) rfl (Nat.le_of_ble_eq_true rfl) ?_
  intro p e s m below meth c hx hb hml hr hlocks hown hin0 hts hsz hE0 hP hD ls hl
  subst hsz
  have hown : s.vm.findClass RX4 = some m.cls := hown
  have hA : ∀ q, s.heap.size ≤ q → va_A (wMo g am (th) (sa) (z)) s.heap.size q := fun q h => Or.inr h
  have hE := hE0
  have hS : va_S (va_A (wMo g am (th) (sa) (z)) s.heap.size) s.heap s.heap [] := va_S.rf
  have hl : lv_has ls 7 [(0, .ref (am 0))] := hl
  have hL := hV.L
  have hn := hV.n
  refine lv_aload_n hx hb dX4_digest_0 rfl (lv_at hl 0 rfl) ?_
  refine lv_iconst (v := nI 0) hx hb dX4_digest_1 (by decide) ?_
  refine va_put (D := g.1) (ci := 5) (v := .int (nI 0)) (ty := .int) (C := RX4) (T := TX4) (N := 9) hx hb hts (q_sub wsX40 100 rfl) tyX4 tyX4_ok nmX4 hown hE.K hP hD hS 0 rfl rfl 0 (by decide) (hts _ (List.mem_of_getElem? (i := 1) rfl)) (fun _ h9 => h9) rfl (by decide +kernel) rfl rfl (Nat.le_of_ble_eq_true rfl) dX4_digest_2 (fun H locs hP hD hS => ?_)
  have hP : va_P g.1 vwCl (wMo g am (nI 0) (sa) (z)) H := hP
  have hD : va_D (va_A (wMo g am (th) (sa) (z)) s.heap.size) (wMo g am (nI 0) (sa) (z)) := hD
  have hE := hE0.kept hS.2.1
  refine lv_ldc2 (v := 1621) hx hb hown (hts _ (List.mem_of_getElem? (i := 2) rfl)) dX4_digest_5 ?_
  refine lv_lstore_n (lv' := [(1, .long 1621), (0, .ref (am 0))]) hx hb dX4_digest_8 rfl hl (by decide) rfl (fun ls hl => ?_)
  refine lv_iconst (v := nI 0) hx hb dX4_digest_9 (by decide) ?_
  refine lv_istore_n (lv' := [(3, .int (nI 0)), (1, .long 1621), (0, .ref (am 0))]) hx hb dX4_digest_10 rfl hl (by decide) rfl (fun ls hl => ?_)
  have lp_11 : ∀ (n_ i : Nat) , i ≤ 7 → 7 + 1 ≤ i + n_ → ∀ (H : Heap) (locs : List Loc), va_P g.1 vwCl (wMo g am (nI 0) (sa) (z)) H → va_D (va_A (wMo g am (th) (sa) (z)) s.heap.size) (wMo g am (nI 0) (sa) (z)) → va_S (va_A (wMo g am (th) (sa) (z)) s.heap.size) s.heap H locs → Ev g (va_A (wMo g am (th) (sa) (z)) s.heap.size) s H → ∀ (ls : Array Slot), lv_has ls 7 [(3, .int (nI i)), (1, .long (digN (cntV z (kM z)) 1621 i)), (0, .ref (am 0))] → W p l e ({ frames := 10, cells := 0, slots := 0, locals := 223 } : Room) s m ([.ref (am 0)] : List Value).toArray below meth c H locs 0 0 (MQ below (q_Qw (fun _ : Unit => wMo g am (nI 0) (sa) (z)) (fun _ => some (.long (dgA z (kM z)))) g (wMo g am (th) (sa) (z)) s.heap.size) ([.ref (am 0)] : List Value).toArray s 0 0 (va_A (wMo g am (th) (sa) (z)) s.heap.size)) (F0 m 11 ls []) := by
    intro n_
    induction n_ with
    | zero => intro i  hi_ hn_; exact absurd hn_ (by omega)
    | succ n_ ih_11 =>
      intro i  hi_i hn_i  H locs hP hD hS hE ls hl
      refine lv_iload_n hx hb dX4_digest_11 rfl (lv_at hl 0 rfl) ?_
      refine lv_bipush (v := nI 6) hx hb dX4_digest_12 (by decide) ?_
      refine q_icmp_gt (tgt := 36) hx hb (by omega) (by omega) dX4_digest_14 (by decide) (fun c_1 => ?_) (fun c_1 => ?_)
      · have ei : i = 7 := by omega
        rw [ei] at hl
        refine lv_aload_n hx hb dX4_digest_36 rfl (lv_at hl 2 rfl) ?_
        refine va_get (v := .ref (am 6)) (C := RX4) (T := TX4) (N := 9) hx hb hts (q_sub wsX40 100 rfl) hown hE.K hP 0 rfl rfl 8 (by decide) (hts _ (List.mem_of_getElem? (i := 4) rfl)) (fun _ h9 => h9) rfl dX4_digest_37 ?_
        refine lv_astore_n (lv' := [(3, .ref (am 6)), (1, .long (digN (cntV z (kM z)) 1621 7)), (0, .ref (am 0))]) hx hb dX4_digest_40 rfl hl (by decide) rfl (fun ls hl => ?_)
        refine lv_aload_n hx hb dX4_digest_41 rfl (lv_at hl 0 rfl) ?_
        refine q_alen (v := nI 20) hx hb hE (hP 6 _ rfl) dX4_digest_42 rfl ?_
        refine lv_istore (lv' := [(4, .int (nI 20)), (3, .ref (am 6)), (1, .long (digN (cntV z (kM z)) 1621 7)), (0, .ref (am 0))]) hx hb dX4_digest_43 hl (by decide) rfl (fun ls hl => ?_)
        refine lv_iconst (v := nI 0) hx hb dX4_digest_45 (by decide) ?_
        refine lv_istore (lv' := [(5, .int (nI 0)), (4, .int (nI 20)), (3, .ref (am 6)), (1, .long (digN (cntV z (kM z)) 1621 7)), (0, .ref (am 0))]) hx hb dX4_digest_46 hl (by decide) rfl (fun ls hl => ?_)
        have lp_48 : ∀ (n_ i : Nat) , i ≤ 20 → 20 + 1 ≤ i + n_ → ∀ (H : Heap) (locs : List Loc), va_P g.1 vwCl (wMo g am (nI 0) (sa) (z)) H → va_D (va_A (wMo g am (th) (sa) (z)) s.heap.size) (wMo g am (nI 0) (sa) (z)) → va_S (va_A (wMo g am (th) (sa) (z)) s.heap.size) s.heap H locs → Ev g (va_A (wMo g am (th) (sa) (z)) s.heap.size) s H → ∀ (ls : Array Slot), lv_has ls 7 [(5, .int (nI i)), (4, .int (nI 20)), (3, .ref (am 6)), (1, .long (digN (sst z) (digN (cntV z (kM z)) 1621 7) i)), (0, .ref (am 0))] → W p l e ({ frames := 10, cells := 0, slots := 0, locals := 223 } : Room) s m ([.ref (am 0)] : List Value).toArray below meth c H locs 0 0 (MQ below (q_Qw (fun _ : Unit => wMo g am (nI 0) (sa) (z)) (fun _ => some (.long (dgA z (kM z)))) g (wMo g am (th) (sa) (z)) s.heap.size) ([.ref (am 0)] : List Value).toArray s 0 0 (va_A (wMo g am (th) (sa) (z)) s.heap.size)) (F0 m 48 ls []) := by
          intro n_
          induction n_ with
          | zero => intro i  hi_ hn_; exact absurd hn_ (by omega)
          | succ n_ ih_48 =>
            intro i  hi_i hn_i  H locs hP hD hS hE ls hl
            refine lv_iload hx hb dX4_digest_48 (lv_at hl 0 rfl) ?_
            refine lv_iload hx hb dX4_digest_50 (lv_at hl 1 rfl) ?_
            refine q_icmp_ge (tgt := 77) hx hb (by omega) (by omega) dX4_digest_52 (by decide) (fun c_2 => ?_) (fun c_2 => ?_)
            · have ei : i = 20 := by omega
              rw [ei] at hl
              refine lv_iconst (v := nI 0) hx hb dX4_digest_77 (by decide) ?_
              refine lv_istore_n (lv' := [(3, .int (nI 0)), (5, .int (nI 20)), (4, .int (nI 20)), (1, .long (digN (sst z) (digN (cntV z (kM z)) 1621 7) 20)), (0, .ref (am 0))]) hx hb dX4_digest_78 rfl hl (by decide) rfl (fun ls hl => ?_)
              have lp_79 : ∀ (n_ i : Nat) , i ≤ sn z → sn z + 1 ≤ i + n_ → ∀ (H : Heap) (locs : List Loc), va_P g.1 vwCl (wMo g am (nI 0) (sa) (z)) H → va_D (va_A (wMo g am (th) (sa) (z)) s.heap.size) (wMo g am (nI 0) (sa) (z)) → va_S (va_A (wMo g am (th) (sa) (z)) s.heap.size) s.heap H locs → Ev g (va_A (wMo g am (th) (sa) (z)) s.heap.size) s H → ∀ (ls : Array Slot), lv_has ls 7 [(3, .int (nI i)), (1, .long (dgS z (kM z) (digN (sst z) (digN (cntV z (kM z)) 1621 7) 20) i)), (0, .ref (am 0))] → W p l e ({ frames := 10, cells := 0, slots := 0, locals := 223 } : Room) s m ([.ref (am 0)] : List Value).toArray below meth c H locs 0 0 (MQ below (q_Qw (fun _ : Unit => wMo g am (nI 0) (sa) (z)) (fun _ => some (.long (dgA z (kM z)))) g (wMo g am (th) (sa) (z)) s.heap.size) ([.ref (am 0)] : List Value).toArray s 0 0 (va_A (wMo g am (th) (sa) (z)) s.heap.size)) (F0 m 79 ls []) := by
                intro n_
                induction n_ with
                | zero => intro i  hi_ hn_; exact absurd hn_ (by omega)
                | succ n_ ih_79 =>
                  intro i  hi_i hn_i  H locs hP hD hS hE ls hl
                  refine lv_iload_n hx hb dX4_digest_79 rfl (lv_at hl 0 rfl) ?_
                  refine lv_aload_n hx hb dX4_digest_80 rfl (lv_at hl 2 rfl) ?_
                  refine va_get (v := .int (nI (sn z))) (C := RX4) (T := TX4) (N := 9) hx hb hts (q_sub wsX40 100 rfl) hown hE.K hP 0 rfl rfl 2 (by decide) (hts _ (List.mem_of_getElem? (i := 5) rfl)) (fun _ h9 => h9) rfl dX4_digest_81 ?_
                  refine q_icmp_ge (tgt := 176) hx hb (by omega) (by omega) dX4_digest_84 (by decide) (fun c_3 => ?_) (fun c_3 => ?_)
                  · have ei : i = sn z := by omega
                    refine lv_lload_n hx hb dX4_digest_176 rfl (lv_at hl 1 rfl) ?_
                    exact q_wlret () hx hb hr hlocks hP hD hS dX4_digest_177 (by rw [ei]; rfl)
                  · have hk_ := c_3
                    have hb9 := hV.h hk_
                    refine lv_iconst (v := nI 0) hx hb dX4_digest_87 (by decide) ?_
                    refine lv_istore (lv' := [(4, .int (nI 0)), (3, .int (nI i)), (1, .long (dgS z (kM z) (digN (sst z) (digN (cntV z (kM z)) 1621 7) 20) i)), (0, .ref (am 0))]) hx hb dX4_digest_88 hl (by decide) rfl (fun ls hl => ?_)
                    have lp_90 : ∀ (n_ j : Nat) , j ≤ 7 → 7 + 1 ≤ j + n_ → ∀ (H : Heap) (locs : List Loc), va_P g.1 vwCl (wMo g am (nI 0) (sa) (z)) H → va_D (va_A (wMo g am (th) (sa) (z)) s.heap.size) (wMo g am (nI 0) (sa) (z)) → va_S (va_A (wMo g am (th) (sa) (z)) s.heap.size) s.heap H locs → Ev g (va_A (wMo g am (th) (sa) (z)) s.heap.size) s H → ∀ (ls : Array Slot), lv_has ls 7 [(4, .int (nI j)), (3, .int (nI i)), (1, .long (digN (abtV z (kM z) i) (dgS z (kM z) (digN (sst z) (digN (cntV z (kM z)) 1621 7) 20) i) j)), (0, .ref (am 0))] → W p l e ({ frames := 10, cells := 0, slots := 0, locals := 223 } : Room) s m ([.ref (am 0)] : List Value).toArray below meth c H locs 0 0 (MQ below (q_Qw (fun _ : Unit => wMo g am (nI 0) (sa) (z)) (fun _ => some (.long (dgA z (kM z)))) g (wMo g am (th) (sa) (z)) s.heap.size) ([.ref (am 0)] : List Value).toArray s 0 0 (va_A (wMo g am (th) (sa) (z)) s.heap.size)) (F0 m 90 ls []) := by
                      intro n_
                      induction n_ with
                      | zero => intro j  hi_ hn_; exact absurd hn_ (by omega)
                      | succ n_ ih_90 =>
                        intro j  hi_j hn_j  H locs hP hD hS hE ls hl
                        refine lv_iload hx hb dX4_digest_90 (lv_at hl 0 rfl) ?_
                        refine lv_bipush (v := nI 6) hx hb dX4_digest_92 (by decide) ?_
                        refine q_icmp_gt (tgt := 118) hx hb (by omega) (by omega) dX4_digest_94 (by decide) (fun c_4 => ?_) (fun c_4 => ?_)
                        · have ej : j = 7 := by omega
                          rw [ej] at hl
                          refine lv_iconst (v := nI 0) hx hb dX4_digest_118 (by decide) ?_
                          refine lv_istore (lv' := [(4, .int (nI 0)), (3, .int (nI i)), (1, .long (digN (abtV z (kM z) i) (dgS z (kM z) (digN (sst z) (digN (cntV z (kM z)) 1621 7) 20) i) 7)), (0, .ref (am 0))]) hx hb dX4_digest_119 hl (by decide) rfl (fun ls hl => ?_)
                          have lp_121 : ∀ (n_ j : Nat) , j ≤ ssd z i → ssd z i + 1 ≤ j + n_ → ∀ (H : Heap) (locs : List Loc), va_P g.1 vwCl (wMo g am (nI 0) (sa) (z)) H → va_D (va_A (wMo g am (th) (sa) (z)) s.heap.size) (wMo g am (nI 0) (sa) (z)) → va_S (va_A (wMo g am (th) (sa) (z)) s.heap.size) s.heap H locs → Ev g (va_A (wMo g am (th) (sa) (z)) s.heap.size) s H → ∀ (ls : Array Slot), lv_has ls 7 [(4, .int (nI j)), (3, .int (nI i)), (1, .long (dgW z (kM z) i (digN (abtV z (kM z) i) (dgS z (kM z) (digN (sst z) (digN (cntV z (kM z)) 1621 7) 20) i) 7) j)), (0, .ref (am 0))] → W p l e ({ frames := 10, cells := 0, slots := 0, locals := 223 } : Room) s m ([.ref (am 0)] : List Value).toArray below meth c H locs 0 0 (MQ below (q_Qw (fun _ : Unit => wMo g am (nI 0) (sa) (z)) (fun _ => some (.long (dgA z (kM z)))) g (wMo g am (th) (sa) (z)) s.heap.size) ([.ref (am 0)] : List Value).toArray s 0 0 (va_A (wMo g am (th) (sa) (z)) s.heap.size)) (F0 m 121 ls []) := by
                            intro n_
                            induction n_ with
                            | zero => intro j  hi_ hn_; exact absurd hn_ (by omega)
                            | succ n_ ih_121 =>
                              intro j  hi_j hn_j  H locs hP hD hS hE ls hl
                              refine lv_iload hx hb dX4_digest_121 (lv_at hl 0 rfl) ?_
                              refine lv_aload_n hx hb dX4_digest_123 rfl (lv_at hl 3 rfl) ?_
                              refine va_get (v := .ref (am 4)) (C := RX4) (T := TX4) (N := 9) hx hb hts (q_sub wsX40 100 rfl) hown hE.K hP 0 rfl rfl 6 (by decide) (hts _ (List.mem_of_getElem? (i := 6) rfl)) (fun _ h9 => h9) rfl dX4_digest_124 ?_
                              refine lv_iload_n hx hb dX4_digest_127 rfl (lv_at hl 1 rfl) ?_
                              refine q_iald (v := nI (ssd z i)) hx hb hE (hP 4 _ rfl) (by omega) (by omega) dX4_digest_128 rfl ?_
                              refine q_icmp_ge (tgt := 170) hx hb (by omega) (by omega) dX4_digest_129 (by decide) (fun c_5 => ?_) (fun c_5 => ?_)
                              · have ej : j = ssd z i := by omega
                                rw [ej] at hl
                                refine lv_iinc (v := nI (i + 1)) (lv' := [(3, .int (nI (i + 1))), (4, .int (nI (ssd z i))), (1, .long (dgS z (kM z) (digN (sst z) (digN (cntV z (kM z)) 1621 7) 20) (i + 1))), (0, .ref (am 0))]) hx hb dX4_digest_170 hl (k := 1) rfl (nI_1 _) (by decide) rfl (fun ls hl => ?_)
                                refine lv_goto (tgt := 79) hx hb dX4_digest_173 (by decide) ?_
                                exact ih_79 (i + 1)  (by omega) (by omega)  _ _ hP hD hS hE _ (lv_sub hl [0, 2, 3] rfl)
                              · refine lv_iconst (v := nI 0) hx hb dX4_digest_132 (by decide) ?_
                                refine lv_istore (lv' := [(5, .int (nI 0)), (4, .int (nI j)), (3, .int (nI i)), (1, .long (dgW z (kM z) i (digN (abtV z (kM z) i) (dgS z (kM z) (digN (sst z) (digN (cntV z (kM z)) 1621 7) 20) i) 7) j)), (0, .ref (am 0))]) hx hb dX4_digest_133 hl (by decide) rfl (fun ls hl => ?_)
                                have lp_135 : ∀ (n_ q : Nat) , q ≤ 3 → 3 + 1 ≤ q + n_ → ∀ (H : Heap) (locs : List Loc), va_P g.1 vwCl (wMo g am (nI 0) (sa) (z)) H → va_D (va_A (wMo g am (th) (sa) (z)) s.heap.size) (wMo g am (nI 0) (sa) (z)) → va_S (va_A (wMo g am (th) (sa) (z)) s.heap.size) s.heap H locs → Ev g (va_A (wMo g am (th) (sa) (z)) s.heap.size) s H → ∀ (ls : Array Slot), lv_has ls 7 [(5, .int (nI q)), (4, .int (nI j)), (3, .int (nI i)), (1, .long (digN (wrdV z (kM z) i j) (dgW z (kM z) i (digN (abtV z (kM z) i) (dgS z (kM z) (digN (sst z) (digN (cntV z (kM z)) 1621 7) 20) i) 7) j) q)), (0, .ref (am 0))] → W p l e ({ frames := 10, cells := 0, slots := 0, locals := 223 } : Room) s m ([.ref (am 0)] : List Value).toArray below meth c H locs 0 0 (MQ below (q_Qw (fun _ : Unit => wMo g am (nI 0) (sa) (z)) (fun _ => some (.long (dgA z (kM z)))) g (wMo g am (th) (sa) (z)) s.heap.size) ([.ref (am 0)] : List Value).toArray s 0 0 (va_A (wMo g am (th) (sa) (z)) s.heap.size)) (F0 m 135 ls []) := by
                                  intro n_
                                  induction n_ with
                                  | zero => intro q  hi_ hn_; exact absurd hn_ (by omega)
                                  | succ n_ ih_135 =>
                                    intro q  hi_q hn_q  H locs hP hD hS hE ls hl
                                    refine lv_iload hx hb dX4_digest_135 (lv_at hl 0 rfl) ?_
                                    refine lv_iconst (v := nI 2) hx hb dX4_digest_137 (by decide) ?_
                                    refine q_icmp_gt (tgt := 164) hx hb (by omega) (by omega) dX4_digest_138 (by decide) (fun c_6 => ?_) (fun c_6 => ?_)
                                    · have eq_ : q = 3 := by omega
                                      rw [eq_] at hl
                                      refine lv_iinc (v := nI (j + 1)) (lv' := [(4, .int (nI (j + 1))), (5, .int (nI 3)), (3, .int (nI i)), (1, .long (digN (wrdV z (kM z) i j) (dgW z (kM z) i (digN (abtV z (kM z) i) (dgS z (kM z) (digN (sst z) (digN (cntV z (kM z)) 1621 7) 20) i) 7) j) 3)), (0, .ref (am 0))]) hx hb dX4_digest_164 hl (k := 1) rfl (nI_1 _) (by decide) rfl (fun ls hl => ?_)
                                      refine lv_goto (tgt := 121) hx hb dX4_digest_167 (by decide) ?_
                                      exact ih_121 (j + 1)  (by omega) (by omega)  _ _ hP hD hS hE _ (lv_sub hl [0, 2, 3, 4] rfl)
                                    · refine lv_lload_n hx hb dX4_digest_141 rfl (lv_at hl 3 rfl) ?_
                                      refine lv_ldc2 (v := 31) hx hb hown (hts _ (List.mem_of_getElem? (i := 3) rfl)) dX4_digest_142 ?_
                                      refine q_lmul (v := (digN (wrdV z (kM z) i j) (dgW z (kM z) i (digN (abtV z (kM z) i) (dgS z (kM z) (digN (sst z) (digN (cntV z (kM z)) 1621 7) 20) i) 7) j) q) * 31) hx hb dX4_digest_145 rfl ?_
                                      refine lv_aload_n hx hb dX4_digest_146 rfl (lv_at hl 4 rfl) ?_
                                      refine lv_iload_n hx hb dX4_digest_147 rfl (lv_at hl 2 rfl) ?_
                                      refine lv_iload hx hb dX4_digest_148 (lv_at hl 1 rfl) ?_
                                      refine lv_iload hx hb dX4_digest_150 (lv_at hl 0 rfl) ?_
                                      refine q_roV (As := [.int (nI i), .int (nI j), .int (nI q)]) (rest := [.long ((digN (wrdV z (kM z) i j) (dgW z (kM z) i (digN (abtV z (kM z) i) (dgS z (kM z) (digN (sst z) (digN (cntV z (kM z)) 1621 7) 20) i) 7) j) q) * 31)]) ⟨hx, hb, hml, hown, hts⟩ (c_X4_wordTold hV hR (k := i) (w := j) (q := q) hk_ (by omega) (by omega)) (cwV 3 hts gX4_digest_X4_wordTold rfl rfl rfl (by decide +kernel) ⟨Nat.le_of_ble_eq_true rfl, Nat.le_of_ble_eq_true rfl⟩) hE (fun q h => hA q (Nat.le_trans hS.1 h)) hP (va_recv hE.K hP (ci := 5) (q0 := 0) rfl rfl) rfl hl.1 rfl (Nat.le_of_ble_eq_true rfl) dX4_digest_152 ⟨Nat.le_of_ble_eq_true rfl, Nat.le_of_ble_eq_true rfl⟩ ?_
                                      refine lv_i2l (v := (wrdV z (kM z) i j q).toInt64) hx hb dX4_digest_155 rfl ?_
                                      refine q_ladd (v := digN (wrdV z (kM z) i j) (dgW z (kM z) i (digN (abtV z (kM z) i) (dgS z (kM z) (digN (sst z) (digN (cntV z (kM z)) 1621 7) 20) i) 7) j) (q + 1)) hx hb dX4_digest_156 rfl ?_
                                      refine lv_lstore_n (lv' := [(1, .long (digN (wrdV z (kM z) i j) (dgW z (kM z) i (digN (abtV z (kM z) i) (dgS z (kM z) (digN (sst z) (digN (cntV z (kM z)) 1621 7) 20) i) 7) j) (q + 1))), (5, .int (nI q)), (4, .int (nI j)), (3, .int (nI i)), (0, .ref (am 0))]) hx hb dX4_digest_157 rfl hl (by decide) rfl (fun ls hl => ?_)
                                      refine lv_iinc (v := nI (q + 1)) (lv' := [(5, .int (nI (q + 1))), (1, .long (digN (wrdV z (kM z) i j) (dgW z (kM z) i (digN (abtV z (kM z) i) (dgS z (kM z) (digN (sst z) (digN (cntV z (kM z)) 1621 7) 20) i) 7) j) (q + 1))), (4, .int (nI j)), (3, .int (nI i)), (0, .ref (am 0))]) hx hb dX4_digest_158 hl (k := 1) rfl (nI_1 _) (by decide) rfl (fun ls hl => ?_)
                                      refine lv_goto (tgt := 135) hx hb dX4_digest_161 (by decide) ?_
                                      exact ih_135 (q + 1)  (by omega) (by omega)  _ _ hP hD hS hE _ (lv_sub hl [0, 2, 3, 1, 4] rfl)
                                have hP : va_P g.1 vwCl (wMo g am (nI 0) (sa) (z)) H := hP
                                have hD : va_D (va_A (wMo g am (th) (sa) (z)) s.heap.size) (wMo g am (nI 0) (sa) (z)) := hD
                                exact lp_135 (3 + 1) 0  (Nat.zero_le _) (by omega)  _ _ hP hD hS hE _ (lv_sub hl [0, 1, 2, 3, 4] rfl)
                          have hP : va_P g.1 vwCl (wMo g am (nI 0) (sa) (z)) H := hP
                          have hD : va_D (va_A (wMo g am (th) (sa) (z)) s.heap.size) (wMo g am (nI 0) (sa) (z)) := hD
                          exact lp_121 (ssd z i + 1) 0  (Nat.zero_le _) (by omega)  _ _ hP hD hS hE _ (lv_sub hl [0, 1, 2, 3] rfl)
                        · refine lv_lload_n hx hb dX4_digest_97 rfl (lv_at hl 2 rfl) ?_
                          refine lv_ldc2 (v := 31) hx hb hown (hts _ (List.mem_of_getElem? (i := 3) rfl)) dX4_digest_98 ?_
                          refine q_lmul (v := (digN (abtV z (kM z) i) (dgS z (kM z) (digN (sst z) (digN (cntV z (kM z)) 1621 7) 20) i) j) * 31) hx hb dX4_digest_101 rfl ?_
                          refine lv_aload_n hx hb dX4_digest_102 rfl (lv_at hl 3 rfl) ?_
                          refine lv_iload_n hx hb dX4_digest_103 rfl (lv_at hl 1 rfl) ?_
                          refine lv_iload hx hb dX4_digest_104 (lv_at hl 0 rfl) ?_
                          refine q_roV (As := [.int (nI i), .int (nI j)]) (rest := [.long ((digN (abtV z (kM z) i) (dgS z (kM z) (digN (sst z) (digN (cntV z (kM z)) 1621 7) 20) i) j) * 31)]) ⟨hx, hb, hml, hown, hts⟩ (c_X4_hillTold hV hR (k := i) hk_ (q := j) (by omega)) (cwV 2 hts gX4_digest_X4_hillTold rfl rfl rfl (by decide +kernel) ⟨Nat.le_of_ble_eq_true rfl, Nat.le_of_ble_eq_true rfl⟩) hE (fun q h => hA q (Nat.le_trans hS.1 h)) hP (va_recv hE.K hP (ci := 5) (q0 := 0) rfl rfl) rfl hl.1 rfl (Nat.le_of_ble_eq_true rfl) dX4_digest_106 ⟨Nat.le_of_ble_eq_true rfl, Nat.le_of_ble_eq_true rfl⟩ ?_
                          refine lv_i2l (v := (abtV z (kM z) i j).toInt64) hx hb dX4_digest_109 rfl ?_
                          refine q_ladd (v := digN (abtV z (kM z) i) (dgS z (kM z) (digN (sst z) (digN (cntV z (kM z)) 1621 7) 20) i) (j + 1)) hx hb dX4_digest_110 rfl ?_
                          refine lv_lstore_n (lv' := [(1, .long (digN (abtV z (kM z) i) (dgS z (kM z) (digN (sst z) (digN (cntV z (kM z)) 1621 7) 20) i) (j + 1))), (4, .int (nI j)), (3, .int (nI i)), (0, .ref (am 0))]) hx hb dX4_digest_111 rfl hl (by decide) rfl (fun ls hl => ?_)
                          refine lv_iinc (v := nI (j + 1)) (lv' := [(4, .int (nI (j + 1))), (1, .long (digN (abtV z (kM z) i) (dgS z (kM z) (digN (sst z) (digN (cntV z (kM z)) 1621 7) 20) i) (j + 1))), (3, .int (nI i)), (0, .ref (am 0))]) hx hb dX4_digest_112 hl (k := 1) rfl (nI_1 _) (by decide) rfl (fun ls hl => ?_)
                          refine lv_goto (tgt := 90) hx hb dX4_digest_115 (by decide) ?_
                          exact ih_90 (j + 1)  (by omega) (by omega)  _ _ hP hD hS hE _ (lv_sub hl [0, 2, 1, 3] rfl)
                    have hP : va_P g.1 vwCl (wMo g am (nI 0) (sa) (z)) H := hP
                    have hD : va_D (va_A (wMo g am (th) (sa) (z)) s.heap.size) (wMo g am (nI 0) (sa) (z)) := hD
                    exact lp_90 (7 + 1) 0  (Nat.zero_le _) (by omega)  _ _ hP hD hS hE _ (lv_sub hl [0, 1, 2, 3] rfl)
              have hP : va_P g.1 vwCl (wMo g am (nI 0) (sa) (z)) H := hP
              have hD : va_D (va_A (wMo g am (th) (sa) (z)) s.heap.size) (wMo g am (nI 0) (sa) (z)) := hD
              exact lp_79 (sn z + 1) 0  (Nat.zero_le _) (by omega)  _ _ hP hD hS hE _ (lv_sub hl [0, 3, 4] rfl)
            · refine lv_aload_n hx hb dX4_digest_55 rfl (lv_at hl 2 rfl) ?_
              refine lv_iload hx hb dX4_digest_56 (lv_at hl 0 rfl) ?_
              refine q_iald (v := (sst z) i) hx hb hE (hP 6 _ rfl) (by omega) (by omega) dX4_digest_58 rfl ?_
              refine lv_istore (lv' := [(6, .int ((sst z) i)), (5, .int (nI i)), (4, .int (nI 20)), (3, .ref (am 6)), (1, .long (digN (sst z) (digN (cntV z (kM z)) 1621 7) i)), (0, .ref (am 0))]) hx hb dX4_digest_59 hl (by decide) rfl (fun ls hl => ?_)
              refine lv_lload_n hx hb dX4_digest_61 rfl (lv_at hl 4 rfl) ?_
              refine lv_ldc2 (v := 31) hx hb hown (hts _ (List.mem_of_getElem? (i := 3) rfl)) dX4_digest_62 ?_
              refine q_lmul (v := (digN (sst z) (digN (cntV z (kM z)) 1621 7) i) * 31) hx hb dX4_digest_65 rfl ?_
              refine lv_iload hx hb dX4_digest_66 (lv_at hl 0 rfl) ?_
              refine lv_i2l (v := ((sst z) i).toInt64) hx hb dX4_digest_68 rfl ?_
              refine q_ladd (v := digN (sst z) (digN (cntV z (kM z)) 1621 7) (i + 1)) hx hb dX4_digest_69 rfl ?_
              refine lv_lstore_n (lv' := [(1, .long (digN (sst z) (digN (cntV z (kM z)) 1621 7) (i + 1))), (6, .int ((sst z) i)), (5, .int (nI i)), (4, .int (nI 20)), (3, .ref (am 6)), (0, .ref (am 0))]) hx hb dX4_digest_70 rfl hl (by decide) rfl (fun ls hl => ?_)
              refine lv_iinc (v := nI (i + 1)) (lv' := [(5, .int (nI (i + 1))), (1, .long (digN (sst z) (digN (cntV z (kM z)) 1621 7) (i + 1))), (6, .int ((sst z) i)), (4, .int (nI 20)), (3, .ref (am 6)), (0, .ref (am 0))]) hx hb dX4_digest_71 hl (k := 2) rfl (nI_1 _) (by decide) rfl (fun ls hl => ?_)
              refine lv_goto (tgt := 48) hx hb dX4_digest_74 (by decide) ?_
              exact ih_48 (i + 1)  (by omega) (by omega)  _ _ hP hD hS hE _ (lv_sub hl [0, 3, 4, 1, 5] rfl)
        have hP : va_P g.1 vwCl (wMo g am (nI 0) (sa) (z)) H := hP
        have hD : va_D (va_A (wMo g am (th) (sa) (z)) s.heap.size) (wMo g am (nI 0) (sa) (z)) := hD
        exact lp_48 (20 + 1) 0  (Nat.zero_le _) (by omega)  _ _ hP hD hS hE _ (lv_sub hl [0, 1, 2, 3, 4] rfl)
      · refine lv_lload_n hx hb dX4_digest_17 rfl (lv_at hl 1 rfl) ?_
        refine lv_ldc2 (v := 31) hx hb hown (hts _ (List.mem_of_getElem? (i := 3) rfl)) dX4_digest_18 ?_
        refine q_lmul (v := (digN (cntV z (kM z)) 1621 i) * 31) hx hb dX4_digest_21 rfl ?_
        refine lv_aload_n hx hb dX4_digest_22 rfl (lv_at hl 2 rfl) ?_
        refine lv_iload_n hx hb dX4_digest_23 rfl (lv_at hl 0 rfl) ?_
        refine q_roV (As := [.int (nI i)]) (rest := [.long ((digN (cntV z (kM z)) 1621 i) * 31)]) ⟨hx, hb, hml, hown, hts⟩ (c_X4_counted hV hR (q := i) (by omega)) (cwV 1 hts gX4_digest_X4_counted rfl rfl rfl (by decide +kernel) ⟨Nat.le_of_ble_eq_true rfl, Nat.le_of_ble_eq_true rfl⟩) hE (fun q h => hA q (Nat.le_trans hS.1 h)) hP (va_recv hE.K hP (ci := 5) (q0 := 0) rfl rfl) rfl hl.1 rfl (Nat.le_of_ble_eq_true rfl) dX4_digest_24 ⟨Nat.le_of_ble_eq_true rfl, Nat.le_of_ble_eq_true rfl⟩ ?_
        refine lv_i2l (v := (cntV z (kM z) i).toInt64) hx hb dX4_digest_27 rfl ?_
        refine q_ladd (v := digN (cntV z (kM z)) 1621 (i + 1)) hx hb dX4_digest_28 rfl ?_
        refine lv_lstore_n (lv' := [(1, .long (digN (cntV z (kM z)) 1621 (i + 1))), (3, .int (nI i)), (0, .ref (am 0))]) hx hb dX4_digest_29 rfl hl (by decide) rfl (fun ls hl => ?_)
        refine lv_iinc (v := nI (i + 1)) (lv' := [(3, .int (nI (i + 1))), (1, .long (digN (cntV z (kM z)) 1621 (i + 1))), (0, .ref (am 0))]) hx hb dX4_digest_30 hl (k := 1) rfl (nI_1 _) (by decide) rfl (fun ls hl => ?_)
        refine lv_goto (tgt := 11) hx hb dX4_digest_33 (by decide) ?_
        exact ih_11 (i + 1)  (by omega) (by omega)  _ _ hP hD hS hE _ (lv_sub hl [0, 1, 2] rfl)
  have hP : va_P g.1 vwCl (wMo g am (nI 0) (sa) (z)) H := hP
  have hD : va_D (va_A (wMo g am (th) (sa) (z)) s.heap.size) (wMo g am (nI 0) (sa) (z)) := hD
  exact lp_11 (7 + 1) 0  (Nat.zero_le _) (by omega)  _ _ hP hD hS hE _ (lv_sub hl [0, 1, 2] rfl)
set_option maxHeartbeats 4000000 in
set_option maxRecDepth 100000 in
theorem c_X4_thrown {l : Launch} {g : gT} {am : Nat → Nat} {th : Int32} {sa : Nat → Int32} {z : sT} : RO l yX4_thrown wsX4_thrown ({ frames := 0, cells := 0, slots := 0, locals := 0 } : Room) [.ref (am 0)] g (fun H => va_P g.1 vwCl (wMo g am th sa z) H) (some (.int th)) := by
  refine RO.of (cc := cX4_thrown) (maxL := 1) (ret := (some .int)) (by decide) rfl (Nat.le_of_ble_eq_true rfl) ?_
  intro p e s m below meth c hx hb hml hr hlocks hown hts hE hF ls hl
  have hown : s.vm.findClass RX4 = some m.cls := hown
  have hA : ∀ q, s.heap.size ≤ q → q_n s.heap q := fun _ h => h
  have hP := hF
  have hl : lv_has ls 1 [(0, .ref (am 0))] := hl
  have h_m : va_at g.1 vwCl (am 0, .inr (5, [.int th, .int (nI (sL z)), .int (nI (sn z)), .ref (am 1), .ref (am 2), .ref (am 3), .ref (am 4), .ref (am 5), .ref (am 6)])) s.heap := hP 0 _ rfl
  refine lv_aload_n hx hb dX4_thrown_0 rfl (lv_at hl 0 rfl) ?_
  refine va_get (v := .int th) (C := RX4) (T := TX4) (N := 9) hx hb hts (q_sub wsX40 2 rfl) hown hE.K (q_P1 h_m) 0 rfl rfl 0 (by decide) (hts _ (List.mem_of_getElem? (i := 1) rfl)) (fun _ h9 => h9) rfl dX4_thrown_1 ?_
  exact q_iret hx hb hr hlocks dX4_thrown_4 rfl
