/-! ===== ArrayList: what writes ===== -/
theorem q_apL {w x : va_W} {p : Nat} {y : Nat × va_E} (h : w[p]? = some y) : (w ++ x)[p]? = some y := by
  rw [List.getElem?_append_left (List.getElem?_eq_some_iff.mp h).1]; exact h
theorem q_apR {w : va_W} {y : Nat × va_E} : (w ++ [y])[w.length]? = some y := by simp
theorem q_lt {w : va_W} {p : Nat} {y : Nat × va_E} (h : w[p]? = some y) : p ≠ w.length := Nat.ne_of_lt (List.getElem?_eq_some_iff.mp h).1
set_option maxHeartbeats 4000000 in
set_option maxRecDepth 100000 in
theorem c_clear1 {l : Launch} {g : gT} {sz : Nat} {al ed n p_ q_ : Nat} {mc : Int32} {row : Nat → Option Nat} {wc : va_W} (hn : n ≤ 8) (hp : wc[p_]? = some (al, .inr (0, [.int mc, .ref ed, .int (nI n)]))) (hq : wc[q_]? = some (ed, .inl (gO g, 10, .inr (.inr (.inr (.inr (row))))))) (hpq : p_ ≠ q_) : WR (S := Unit) l yJx4a65c_clear_da8c8 wsJx4a65c_clear_da8c8 ({ frames := 0, cells := 0, slots := 0, locals := 0 } : Room) [.ref al] g (wc) sz (fun _ : Unit => (wc.set p_ (al, .inr (0, [.int (mc + nI 1), .ref ed, .int (nI 0)]))).set q_ (ed, .inl (gO g, 10, .inr (.inr (.inr (.inr (nulF row n))))))) (fun _ => none) 0 0 := by
  refine WR.of (cc := cJx4a65c_clear_da8c8) (maxL := 4) (ret := none) (by decide) rfl (Nat.le_of_ble_eq_true rfl) ?_
  intro p e s m below meth c hx hb hml hr hlocks hown hin0 hts hsz hE0 hP hD ls hl
  subst hsz
  have hown : s.vm.findClass RJx4a65c = some m.cls := hown
  have hA : ∀ q, s.heap.size ≤ q → va_A (wc) s.heap.size q := fun q h => Or.inr h
  have hE := hE0
  have hS : va_S (va_A (wc) s.heap.size) s.heap s.heap [] := va_S.rf
  have hl : lv_has ls 4 [(0, .ref al)] := hl
  refine lv_aload_n hx hb dJx4a65c_clear_da8c8_0 rfl (lv_at hl 0 rfl) ?_
  refine lv_dup hx hb dJx4a65c_clear_da8c8_1 rfl ?_
  refine va_get (v := .int mc) (C := RJx4a65c) (T := TJx4a65c) (N := 3) hx hb hts (q_sub wsJx4a65c0 5 rfl) hown hE.K hP p_ hp rfl 0 (by decide) (hts _ (List.mem_of_getElem? (i := 1) rfl)) (fun x9 h9 => u_same (hts _ (List.mem_of_getElem? (i := 2) rfl)) x9 h9) rfl dJx4a65c_clear_da8c8_2 ?_
  refine lv_iconst (v := nI 1) hx hb dJx4a65c_clear_da8c8_5 (by decide) ?_
  refine q_iadd (v := mc + nI 1) hx hb dJx4a65c_clear_da8c8_6 rfl ?_
  refine va_put (D := g.1) (ci := 0) (v := .int (mc + nI 1)) (ty := .int) (C := RJx4a65c) (T := TJx4a65c) (N := 3) hx hb hts (q_sub wsJx4a65c0 5 rfl) tyJx4a65c tyJx4a65c_ok nmJx4a65c hown hE.K hP hD hS p_ hp rfl 0 (by decide) (hts _ (List.mem_of_getElem? (i := 1) rfl)) (fun x9 h9 => u_same (hts _ (List.mem_of_getElem? (i := 2) rfl)) x9 h9) rfl (by decide +kernel) rfl rfl (Nat.le_of_ble_eq_true rfl) dJx4a65c_clear_da8c8_7 (fun H locs hP hD hS => ?_)
  have hP : va_P g.1 vwCl (wc.set p_ (al, .inr (0, [.int (mc + nI 1), .ref ed, .int (nI n)]))) H := hP
  have hD : va_D (va_A (wc) s.heap.size) (wc.set p_ (al, .inr (0, [.int (mc + nI 1), .ref ed, .int (nI n)]))) := hD
  have hE := hE0.kept hS.2.1
  refine lv_aload_n hx hb dJx4a65c_clear_da8c8_10 rfl (lv_at hl 0 rfl) ?_
  refine va_get (v := .ref ed) (C := RJx4a65c) (T := TJx4a65c) (N := 3) hx hb hts (q_sub wsJx4a65c0 5 rfl) hown hE.K hP p_ (q_ss hp) rfl 1 (by decide) (hts _ (List.mem_of_getElem? (i := 3) rfl)) (fun _ h9 => h9) rfl dJx4a65c_clear_da8c8_11 ?_
  refine lv_astore_n (lv' := [(1, .ref ed), (0, .ref al)]) hx hb dJx4a65c_clear_da8c8_14 rfl hl (by decide) rfl (fun ls hl => ?_)
  refine lv_aload_n hx hb dJx4a65c_clear_da8c8_15 rfl (lv_at hl 1 rfl) ?_
  refine va_get (v := .int (nI n)) (C := RJx4a65c) (T := TJx4a65c) (N := 3) hx hb hts (q_sub wsJx4a65c0 5 rfl) hown hE.K hP p_ (q_ss hp) rfl 2 (by decide) (hts _ (List.mem_of_getElem? (i := 4) rfl)) (fun _ h9 => h9) rfl dJx4a65c_clear_da8c8_16 ?_
  refine lv_istore_n (lv' := [(2, .int (nI n)), (1, .ref ed), (0, .ref al)]) hx hb dJx4a65c_clear_da8c8_19 rfl hl (by decide) rfl (fun ls hl => ?_)
  refine lv_aload_n hx hb dJx4a65c_clear_da8c8_20 rfl (lv_at hl 2 rfl) ?_
  refine lv_iconst (v := nI 0) hx hb dJx4a65c_clear_da8c8_21 (by decide) ?_
  refine lv_dup_x1 hx hb dJx4a65c_clear_da8c8_22 rfl rfl ?_
  refine va_put (D := g.1) (ci := 0) (v := .int (nI 0)) (ty := .int) (C := RJx4a65c) (T := TJx4a65c) (N := 3) hx hb hts (q_sub wsJx4a65c0 5 rfl) tyJx4a65c tyJx4a65c_ok nmJx4a65c hown hE.K hP hD hS p_ (q_ss hp) rfl 2 (by decide) (hts _ (List.mem_of_getElem? (i := 4) rfl)) (fun _ h9 => h9) rfl (by decide +kernel) rfl rfl (Nat.le_of_ble_eq_true rfl) dJx4a65c_clear_da8c8_23 (fun H locs hP hD hS => ?_)
  have hP : va_P g.1 vwCl (wc.set p_ (al, .inr (0, [.int (mc + nI 1), .ref ed, .int (nI 0)]))) H := by rw [List.set_set] at hP; exact hP
  have hD : va_D (va_A (wc) s.heap.size) (wc.set p_ (al, .inr (0, [.int (mc + nI 1), .ref ed, .int (nI 0)]))) := by rw [List.set_set] at hD; exact hD
  have hE := hE0.kept hS.2.1
  refine lv_istore_n (lv' := [(3, .int (nI 0)), (2, .int (nI n)), (1, .ref ed), (0, .ref al)]) hx hb dJx4a65c_clear_da8c8_26 rfl hl (by decide) rfl (fun ls hl => ?_)
  have lp_27 : ∀ (n_ i : Nat) , i ≤ n → n + 1 ≤ i + n_ → ∀ (H : Heap) (locs : List Loc), va_P g.1 vwCl ((wc.set p_ (al, .inr (0, [.int (mc + nI 1), .ref ed, .int (nI 0)]))).set q_ (ed, .inl (gO g, 10, .inr (.inr (.inr (.inr (nulF row i))))))) H → va_D (va_A (wc) s.heap.size) ((wc.set p_ (al, .inr (0, [.int (mc + nI 1), .ref ed, .int (nI 0)]))).set q_ (ed, .inl (gO g, 10, .inr (.inr (.inr (.inr (nulF row i))))))) → va_S (va_A (wc) s.heap.size) s.heap H locs → Ev g (va_A (wc) s.heap.size) s H → ∀ (ls : Array Slot), lv_has ls 4 [(3, .int (nI i)), (2, .int (nI n)), (1, .ref ed), (0, .ref al)] → W p l e ({ frames := 0, cells := 0, slots := 0, locals := 0 } : Room) s m ([.ref al] : List Value).toArray below meth c H locs 0 0 (MQ below (q_Qw (fun _ : Unit => (wc.set p_ (al, .inr (0, [.int (mc + nI 1), .ref ed, .int (nI 0)]))).set q_ (ed, .inl (gO g, 10, .inr (.inr (.inr (.inr (nulF row n))))))) (fun _ => none) g (wc) s.heap.size) ([.ref al] : List Value).toArray s 0 0 (va_A (wc) s.heap.size)) (F0 m 27 ls []) := by
    intro n_
    induction n_ with
    | zero => intro i  hi_ hn_; exact absurd hn_ (by omega)
    | succ n_ ih_27 =>
      intro i  hi_i hn_i  H locs hP hD hS hE ls hl
      refine lv_iload_n hx hb dJx4a65c_clear_da8c8_27 rfl (lv_at hl 0 rfl) ?_
      refine lv_iload_n hx hb dJx4a65c_clear_da8c8_28 rfl (lv_at hl 1 rfl) ?_
      refine q_icmp_ge (tgt := 42) hx hb (by omega) (by omega) dJx4a65c_clear_da8c8_29 (by decide) (fun c_1 => ?_) (fun c_1 => ?_)
      · obtain ei : i = n := by omega
        rw [ei] at hP hD
        exact q_wvret (()) hx hb hr hlocks hP hD hS dJx4a65c_clear_da8c8_42 rfl
      · refine lv_aload_n hx hb dJx4a65c_clear_da8c8_32 rfl (lv_at hl 2 rfl) ?_
        refine lv_iload_n hx hb dJx4a65c_clear_da8c8_33 rfl (lv_at hl 0 rfl) ?_
        refine lv_null hx hb dJx4a65c_clear_da8c8_34 ?_
        refine q_aastN (q0 := q_) hx hb hE hP hD hS (q_ss (q_sn hq hpq)) (by omega) (by omega) dJx4a65c_clear_da8c8_35 (fun H locs hP hD hS => ?_)
        have hP : va_P g.1 vwCl ((wc.set p_ (al, .inr (0, [.int (mc + nI 1), .ref ed, .int (nI 0)]))).set q_ (ed, .inl (gO g, 10, .inr (.inr (.inr (.inr (nulF row (i + 1)))))))) H := by rw [List.set_set, nulF_s] at hP; exact hP
        have hD : va_D (va_A (wc) s.heap.size) ((wc.set p_ (al, .inr (0, [.int (mc + nI 1), .ref ed, .int (nI 0)]))).set q_ (ed, .inl (gO g, 10, .inr (.inr (.inr (.inr (nulF row (i + 1)))))))) := by rw [List.set_set, nulF_s] at hD; exact hD
        have hE := hE0.kept hS.2.1
        refine lv_iinc (v := nI (i + 1)) (lv' := [(3, .int (nI (i + 1))), (2, .int (nI n)), (1, .ref ed), (0, .ref al)]) hx hb dJx4a65c_clear_da8c8_36 hl (k := 0) rfl (nI_1 _) (by decide) rfl (fun ls hl => ?_)
        refine lv_goto (tgt := 27) hx hb dJx4a65c_clear_da8c8_39 (by decide) ?_
        exact ih_27 (i + 1)  (by omega) (by omega)  _ _ hP hD hS hE _ (lv_sub hl [0, 1, 2, 3] rfl)
  have hP : va_P g.1 vwCl ((wc.set p_ (al, .inr (0, [.int (mc + nI 1), .ref ed, .int (nI 0)]))).set q_ (ed, .inl (gO g, 10, .inr (.inr (.inr (.inr (nulF row 0))))))) H := by rw [← nulF_0, q_sid (q_sn hq hpq)]; exact hP
  have hD : va_D (va_A wc s.heap.size) ((wc.set p_ (al, .inr (0, [.int (mc + nI 1), .ref ed, .int (nI 0)]))).set q_ (ed, .inl (gO g, 10, .inr (.inr (.inr (.inr (nulF row 0))))))) := by rw [← nulF_0, q_sid (q_sn hq hpq)]; exact hD
  exact lp_27 (n + 1) 0  (Nat.zero_le _) (by omega)  _ _ hP hD hS hE _ (lv_sub hl [0, 1, 2, 3] rfl)
set_option maxHeartbeats 4000000 in
set_option maxRecDepth 100000 in
theorem c_clear0 {l : Launch} {g : gT} {sz : Nat} {al ed p_ : Nat} {mc : Int32} {wc : va_W} (hp : wc[p_]? = some (al, .inr (0, [.int mc, .ref ed, .int (nI 0)]))) : WR (S := Unit) l yJx4a65c_clear_da8c8 wsJx4a65c_clear_da8c8 ({ frames := 0, cells := 0, slots := 0, locals := 0 } : Room) [.ref al] g (wc) sz (fun _ : Unit => wc.set p_ (al, .inr (0, [.int (mc + nI 1), .ref ed, .int (nI 0)]))) (fun _ => none) 0 0 := by
  refine WR.of (cc := cJx4a65c_clear_da8c8) (maxL := 4) (ret := none) (by decide) rfl (Nat.le_of_ble_eq_true rfl) ?_
  intro p e s m below meth c hx hb hml hr hlocks hown hin0 hts hsz hE0 hP hD ls hl
  subst hsz
  have hown : s.vm.findClass RJx4a65c = some m.cls := hown
  have hA : ∀ q, s.heap.size ≤ q → va_A (wc) s.heap.size q := fun q h => Or.inr h
  have hE := hE0
  have hS : va_S (va_A (wc) s.heap.size) s.heap s.heap [] := va_S.rf
  have hl : lv_has ls 4 [(0, .ref al)] := hl
  refine lv_aload_n hx hb dJx4a65c_clear_da8c8_0 rfl (lv_at hl 0 rfl) ?_
  refine lv_dup hx hb dJx4a65c_clear_da8c8_1 rfl ?_
  refine va_get (v := .int mc) (C := RJx4a65c) (T := TJx4a65c) (N := 3) hx hb hts (q_sub wsJx4a65c0 5 rfl) hown hE.K hP p_ hp rfl 0 (by decide) (hts _ (List.mem_of_getElem? (i := 1) rfl)) (fun x9 h9 => u_same (hts _ (List.mem_of_getElem? (i := 2) rfl)) x9 h9) rfl dJx4a65c_clear_da8c8_2 ?_
  refine lv_iconst (v := nI 1) hx hb dJx4a65c_clear_da8c8_5 (by decide) ?_
  refine q_iadd (v := mc + nI 1) hx hb dJx4a65c_clear_da8c8_6 rfl ?_
  refine va_put (D := g.1) (ci := 0) (v := .int (mc + nI 1)) (ty := .int) (C := RJx4a65c) (T := TJx4a65c) (N := 3) hx hb hts (q_sub wsJx4a65c0 5 rfl) tyJx4a65c tyJx4a65c_ok nmJx4a65c hown hE.K hP hD hS p_ hp rfl 0 (by decide) (hts _ (List.mem_of_getElem? (i := 1) rfl)) (fun x9 h9 => u_same (hts _ (List.mem_of_getElem? (i := 2) rfl)) x9 h9) rfl (by decide +kernel) rfl rfl (Nat.le_of_ble_eq_true rfl) dJx4a65c_clear_da8c8_7 (fun H locs hP hD hS => ?_)
  have hP : va_P g.1 vwCl (wc.set p_ (al, .inr (0, [.int (mc + nI 1), .ref ed, .int (nI 0)]))) H := hP
  have hD : va_D (va_A (wc) s.heap.size) (wc.set p_ (al, .inr (0, [.int (mc + nI 1), .ref ed, .int (nI 0)]))) := hD
  have hE := hE0.kept hS.2.1
  refine lv_aload_n hx hb dJx4a65c_clear_da8c8_10 rfl (lv_at hl 0 rfl) ?_
  refine va_get (v := .ref ed) (C := RJx4a65c) (T := TJx4a65c) (N := 3) hx hb hts (q_sub wsJx4a65c0 5 rfl) hown hE.K hP p_ (q_ss hp) rfl 1 (by decide) (hts _ (List.mem_of_getElem? (i := 3) rfl)) (fun _ h9 => h9) rfl dJx4a65c_clear_da8c8_11 ?_
  refine lv_astore_n (lv' := [(1, .ref ed), (0, .ref al)]) hx hb dJx4a65c_clear_da8c8_14 rfl hl (by decide) rfl (fun ls hl => ?_)
  refine lv_aload_n hx hb dJx4a65c_clear_da8c8_15 rfl (lv_at hl 1 rfl) ?_
  refine va_get (v := .int (nI 0)) (C := RJx4a65c) (T := TJx4a65c) (N := 3) hx hb hts (q_sub wsJx4a65c0 5 rfl) hown hE.K hP p_ (q_ss hp) rfl 2 (by decide) (hts _ (List.mem_of_getElem? (i := 4) rfl)) (fun _ h9 => h9) rfl dJx4a65c_clear_da8c8_16 ?_
  refine lv_istore_n (lv' := [(2, .int (nI 0)), (1, .ref ed), (0, .ref al)]) hx hb dJx4a65c_clear_da8c8_19 rfl hl (by decide) rfl (fun ls hl => ?_)
  refine lv_aload_n hx hb dJx4a65c_clear_da8c8_20 rfl (lv_at hl 2 rfl) ?_
  refine lv_iconst (v := nI 0) hx hb dJx4a65c_clear_da8c8_21 (by decide) ?_
  refine lv_dup_x1 hx hb dJx4a65c_clear_da8c8_22 rfl rfl ?_
  refine va_put (D := g.1) (ci := 0) (v := .int (nI 0)) (ty := .int) (C := RJx4a65c) (T := TJx4a65c) (N := 3) hx hb hts (q_sub wsJx4a65c0 5 rfl) tyJx4a65c tyJx4a65c_ok nmJx4a65c hown hE.K hP hD hS p_ (q_ss hp) rfl 2 (by decide) (hts _ (List.mem_of_getElem? (i := 4) rfl)) (fun _ h9 => h9) rfl (by decide +kernel) rfl rfl (Nat.le_of_ble_eq_true rfl) dJx4a65c_clear_da8c8_23 (fun H locs hP hD hS => ?_)
  have hP : va_P g.1 vwCl (wc.set p_ (al, .inr (0, [.int (mc + nI 1), .ref ed, .int (nI 0)]))) H := by rw [List.set_set] at hP; exact hP
  have hD : va_D (va_A (wc) s.heap.size) (wc.set p_ (al, .inr (0, [.int (mc + nI 1), .ref ed, .int (nI 0)]))) := by rw [List.set_set] at hD; exact hD
  have hE := hE0.kept hS.2.1
  refine lv_istore_n (lv' := [(3, .int (nI 0)), (2, .int (nI 0)), (1, .ref ed), (0, .ref al)]) hx hb dJx4a65c_clear_da8c8_26 rfl hl (by decide) rfl (fun ls hl => ?_)
  refine lv_iload_n hx hb dJx4a65c_clear_da8c8_27 rfl (lv_at hl 0 rfl) ?_
  refine lv_iload_n hx hb dJx4a65c_clear_da8c8_28 rfl (lv_at hl 1 rfl) ?_
  refine q_icmp_ge (tgt := 42) hx hb (by omega) (by omega) dJx4a65c_clear_da8c8_29 (by decide) (fun c_1 => ?_) (fun c_1 => ?_)
  · exact q_wvret (()) hx hb hr hlocks hP hD hS dJx4a65c_clear_da8c8_42 rfl
  · exact absurd c_1 (by omega)
set_option maxHeartbeats 4000000 in
set_option maxRecDepth 100000 in
theorem c_grow1 {l : Launch} {g : gT} {sz : Nat} {al p_ : Nat} {mc : Int32} {wc : va_W} (hp : wc[p_]? = some (al, .inr (0, [.int mc, .ref (gE g), .int (nI 0)]))) : WR (S := Nat) l yJx4a65c_grow_92f84 wsJx4a65c_grow_92f84 ({ frames := 1, cells := 1, slots := 10, locals := 21 } : Room) [.ref al, .int (nI 1)] g (wc) sz (fun u : Nat => (wc ++ ([(u, .inl (gO g, 10, .inr (.inr (.inr (.inr (fun _ => none))))))] : va_W)).set p_ (al, .inr (0, [.int mc, .ref u, .int (nI 0)]))) (fun u => some (.ref u)) 1 10 := by
  refine WR.of (cc := cJx4a65c_grow_92f84) (maxL := 4) (ret := (some (.array (.object "java/lang/Object")))) (by decide) rfl (Nat.le_of_ble_eq_true rfl) ?_
  intro p e s m below meth c hx hb hml hr hlocks hown hin0 hts hsz hE0 hP hD ls hl
  subst hsz
  have hown : s.vm.findClass RJx4a65c = some m.cls := hown
  have hA : ∀ q, s.heap.size ≤ q → va_A (wc) s.heap.size q := fun q h => Or.inr h
  have hE := hE0
  have hS : va_S (va_A (wc) s.heap.size) s.heap s.heap [] := va_S.rf
  have hl : lv_has ls 4 [(0, .ref al), (1, .int (nI 1))] := hl
  refine lv_aload_n hx hb dJx4a65c_grow_92f84_0 rfl (lv_at hl 0 rfl) ?_
  refine va_get (v := .ref (gE g)) (C := RJx4a65c) (T := TJx4a65c) (N := 3) hx hb hts (q_sub wsJx4a65c0 37 rfl) hown hE.K hP p_ hp rfl 1 (by decide) (hts _ (List.mem_of_getElem? (i := 1) rfl)) (fun _ h9 => h9) rfl dJx4a65c_grow_92f84_1 ?_
  refine va_tlen (v := nI 0) (ty := .object "java/lang/Object") hx hb hE0.2.2.2.2.1 hS rfl dJx4a65c_grow_92f84_4 ?_
  refine lv_istore_n (lv' := [(2, .int (nI 0)), (0, .ref al), (1, .int (nI 1))]) hx hb dJx4a65c_grow_92f84_5 rfl hl (by decide) rfl (fun ls hl => ?_)
  refine lv_iload_n hx hb dJx4a65c_grow_92f84_6 rfl (lv_at hl 0 rfl) ?_
  refine q_if_gt (tgt := 20) hx hb (by omega) dJx4a65c_grow_92f84_7 (by decide) (fun c_1 => ?_) (fun c_1 => ?_)
  · exact absurd c_1 (by omega)
  · refine lv_aload_n hx hb dJx4a65c_grow_92f84_10 rfl (lv_at hl 1 rfl) ?_
    refine va_get (v := .ref (gE g)) (C := RJx4a65c) (T := TJx4a65c) (N := 3) hx hb hts (q_sub wsJx4a65c0 37 rfl) hown hE.K hP p_ hp rfl 1 (by decide) (hts _ (List.mem_of_getElem? (i := 1) rfl)) (fun _ h9 => h9) rfl dJx4a65c_grow_92f84_11 ?_
    refine va_gets (v := .ref (gE g)) hx hb hE0.2.2.2.1 hS hown (hts _ (List.mem_of_getElem? (i := 2) rfl)) (fun _ h9 => h9) dJx4a65c_grow_92f84_14 ?_
    refine lv_acmp_eq (rx := some (gE g)) (ry := some (gE g)) (tgt := 45) hx hb dJx4a65c_grow_92f84_17 (by decide) (fun _ => ?_) (fun h => absurd rfl h)
    refine lv_aload_n hx hb dJx4a65c_grow_92f84_45 rfl (lv_at hl 1 rfl) ?_
    refine lv_bipush (v := nI 10) hx hb dJx4a65c_grow_92f84_46 (by decide) ?_
    refine lv_iload_n hx hb dJx4a65c_grow_92f84_48 rfl (lv_at hl 2 rfl) ?_
    refine q_mmax (v := nI 10) hx hb (hml.trans hl.1.symm) hown (hts _ (List.mem_of_getElem? (i := 3) rfl)) (hts _ (List.mem_of_getElem? (i := 4) rfl)) (hts _ (List.mem_of_getElem? (i := 5) rfl)) (hts _ (List.mem_of_getElem? (i := 6) rfl)) (Nat.le_of_ble_eq_true rfl) (Nat.le_of_ble_eq_true rfl) (Nat.le_of_ble_eq_true rfl) (Nat.le_of_ble_eq_true rfl) dJx4a65c_grow_92f84_49 (by decide) ?_
    refine q_newO (n := 10) hx hb hown (hts _ (List.mem_of_getElem? (i := 7) rfl)) hE hP hD hS hA (by omega) (Nat.le_of_ble_eq_true rfl) (Nat.le_of_ble_eq_true rfl) dJx4a65c_grow_92f84_52 (fun q_ H hP hD hS => ?_)
    have hP : va_P g.1 vwCl (wc ++ ([(q_, .inl (gO g, 10, .inr (.inr (.inr (.inr (fun _ => none))))))] : va_W)) H := hP
    have hD : va_D (va_A (wc) s.heap.size) (wc ++ ([(q_, .inl (gO g, 10, .inr (.inr (.inr (.inr (fun _ => none))))))] : va_W)) := hD
    have hE := hE0.kept hS.2.1
    refine lv_dup_x1 hx hb dJx4a65c_grow_92f84_55 rfl rfl ?_
    refine va_put (D := g.1) (ci := 0) (v := .ref q_) (ty := .array (.object "java/lang/Object")) (C := RJx4a65c) (T := TJx4a65c) (N := 3) hx hb hts (q_sub wsJx4a65c0 37 rfl) tyJx4a65c tyJx4a65c_ok nmJx4a65c hown hE.K hP hD hS p_ (q_apL hp) rfl 1 (by decide) (hts _ (List.mem_of_getElem? (i := 1) rfl)) (fun _ h9 => h9) rfl (by decide +kernel) rfl rfl (Nat.le_of_ble_eq_true rfl) dJx4a65c_grow_92f84_56 (fun H locs hP hD hS => ?_)
    have hP : va_P g.1 vwCl ((wc ++ ([(q_, .inl (gO g, 10, .inr (.inr (.inr (.inr (fun _ => none))))))] : va_W)).set p_ (al, .inr (0, [.int mc, .ref q_, .int (nI 0)]))) H := hP
    have hD : va_D (va_A (wc) s.heap.size) ((wc ++ ([(q_, .inl (gO g, 10, .inr (.inr (.inr (.inr (fun _ => none))))))] : va_W)).set p_ (al, .inr (0, [.int mc, .ref q_, .int (nI 0)]))) := hD
    have hE := hE0.kept hS.2.1
    exact q_waret (q_) hx hb hr (Or.inr ⟨_, rfl⟩) hlocks hP hD hS dJx4a65c_grow_92f84_59 rfl
set_option maxHeartbeats 4000000 in
set_option maxRecDepth 100000 in
theorem c_grow0 {l : Launch} {g : gT} {sz : Nat} {al p_ : Nat} {mc : Int32} {wc : va_W} (hp : wc[p_]? = some (al, .inr (0, [.int mc, .ref (gE g), .int (nI 0)]))) : WR (S := Nat) l yJx4a65c_grow_d5877 wsJx4a65c_grow_d5877 ({ frames := 2, cells := 1, slots := 10, locals := 44 } : Room) [.ref al] g (wc) sz (fun u : Nat => (wc ++ ([(u, .inl (gO g, 10, .inr (.inr (.inr (.inr (fun _ => none))))))] : va_W)).set p_ (al, .inr (0, [.int mc, .ref u, .int (nI 0)]))) (fun u => some (.ref u)) 1 10 := by
  refine WR.of (cc := cJx4a65c_grow_d5877) (maxL := 1) (ret := (some (.array (.object "java/lang/Object")))) (by decide) rfl (Nat.le_of_ble_eq_true rfl) ?_
  intro p e s m below meth c hx hb hml hr hlocks hown hin0 hts hsz hE0 hP hD ls hl
  subst hsz
  have hown : s.vm.findClass RJx4a65c = some m.cls := hown
  have hA : ∀ q, s.heap.size ≤ q → va_A (wc) s.heap.size q := fun q h => Or.inr h
  have hE := hE0
  have hS : va_S (va_A (wc) s.heap.size) s.heap s.heap [] := va_S.rf
  have hl : lv_has ls 1 [(0, .ref al)] := hl
  refine lv_aload_n hx hb dJx4a65c_grow_d5877_0 rfl (lv_at hl 0 rfl) ?_
  refine lv_aload_n hx hb dJx4a65c_grow_d5877_1 rfl (lv_at hl 0 rfl) ?_
  refine va_get (v := .int (nI 0)) (C := RJx4a65c) (T := TJx4a65c) (N := 3) hx hb hts (q_sub wsJx4a65c0 43 rfl) hown hE.K hP p_ hp rfl 2 (by decide) (hts _ (List.mem_of_getElem? (i := 1) rfl)) (fun _ h9 => h9) rfl dJx4a65c_grow_d5877_2 ?_
  refine lv_iconst (v := nI 1) hx hb dJx4a65c_grow_d5877_5 (by decide) ?_
  refine q_iadd (v := nI 1) hx hb dJx4a65c_grow_d5877_6 rfl ?_
  refine q_wrV (wr := []) (As := [.int (nI 1)]) (rest := []) ⟨hx, hb, hml, hown, hts⟩ (c_grow1 hp) (cwV 1 hts gJx4a65c_grow_d5877_Jx4a65c_grow_92f84 rfl rfl rfl (by decide +kernel) ⟨Nat.le_of_ble_eq_true rfl, Nat.le_of_ble_eq_true rfl⟩) hE hP hD hS hA (va_recv hE.K hP (ci := 0) (q0 := p_) rfl hp) rfl hl.1 rfl (Nat.le_of_ble_eq_true rfl) dJx4a65c_grow_d5877_7 ⟨Nat.le_of_ble_eq_true rfl, Nat.le_of_ble_eq_true rfl⟩ (fun u_ H locs hP hD hS hE => ?_)
  have hP : va_P g.1 vwCl ((wc ++ ([(u_, .inl (gO g, 10, .inr (.inr (.inr (.inr (fun _ => none))))))] : va_W)).set p_ (al, .inr (0, [.int mc, .ref u_, .int (nI 0)]))) H := hP
  have hD : va_D (va_A (wc) s.heap.size) ((wc ++ ([(u_, .inl (gO g, 10, .inr (.inr (.inr (.inr (fun _ => none))))))] : va_W)).set p_ (al, .inr (0, [.int mc, .ref u_, .int (nI 0)]))) := hD
  exact q_waret (u_) hx hb hr (Or.inr ⟨_, rfl⟩) hlocks hP hD hS dJx4a65c_grow_d5877_10 rfl
set_option maxHeartbeats 4000000 in
set_option maxRecDepth 100000 in
theorem c_addI {l : Launch} {g : gT} {sz : Nat} {al ed n p_ q_ r_ x : Nat} {mc : Int32} {row : Nat → Option Nat} {vs : List Value} {wc : va_W} (hn : n < 10) (hp : wc[p_]? = some (al, .inr (0, [.int mc, .ref ed, .int (nI n)]))) (hq : wc[q_]? = some (ed, .inl (gO g, 10, .inr (.inr (.inr (.inr (row))))))) (hpq : p_ ≠ q_) (hr_ : wc[r_]? = some (x, .inr (2, vs))) : WR (S := Unit) l yJx4a65c_add_72be8 wsJx4a65c_add_72be8 ({ frames := 0, cells := 0, slots := 0, locals := 0 } : Room) [.ref al, .ref x, .ref ed, .int (nI n)] g (wc) sz (fun _ : Unit => (wc.set q_ (ed, .inl (gO g, 10, .inr (.inr (.inr (.inr (va_up (row) n (some x)))))))).set p_ (al, .inr (0, [.int mc, .ref ed, .int (nI (n + 1))]))) (fun _ => none) 0 0 := by
  refine WR.of (cc := cJx4a65c_add_72be8) (maxL := 4) (ret := none) (by decide) rfl (Nat.le_of_ble_eq_true rfl) ?_
  intro p e s m below meth c hx hb hml hr hlocks hown hin0 hts hsz hE0 hP hD ls hl
  subst hsz
  have hown : s.vm.findClass RJx4a65c = some m.cls := hown
  have hA : ∀ q, s.heap.size ≤ q → va_A (wc) s.heap.size q := fun q h => Or.inr h
  have hE := hE0
  have hS : va_S (va_A (wc) s.heap.size) s.heap s.heap [] := va_S.rf
  have hl : lv_has ls 4 [(0, .ref al), (1, .ref x), (2, .ref ed), (3, .int (nI n))] := hl
  refine lv_iload_n hx hb dJx4a65c_add_72be8_0 rfl (lv_at hl 3 rfl) ?_
  refine lv_aload_n hx hb dJx4a65c_add_72be8_1 rfl (lv_at hl 2 rfl) ?_
  refine va_alen (v := nI 10) hx hb hE.K hP q_ 1 hq rfl rfl dJx4a65c_add_72be8_2 ?_
  refine q_icmp_ne (tgt := 11) hx hb (by omega) (by omega) dJx4a65c_add_72be8_3 (by decide) (fun c_1 => ?_) (fun c_1 => ?_)
  · refine lv_aload_n hx hb dJx4a65c_add_72be8_11 rfl (lv_at hl 2 rfl) ?_
    refine lv_iload_n hx hb dJx4a65c_add_72be8_12 rfl (lv_at hl 3 rfl) ?_
    refine lv_aload_n hx hb dJx4a65c_add_72be8_13 rfl (lv_at hl 1 rfl) ?_
    refine q_aastH (q0 := q_) hx hb hE hP hD hS hq hr_ (by omega) (by omega) dJx4a65c_add_72be8_14 (fun H locs hP hD hS => ?_)
    have hP : va_P g.1 vwCl (wc.set q_ (ed, .inl (gO g, 10, .inr (.inr (.inr (.inr (va_up (row) n (some x)))))))) H := hP
    have hD : va_D (va_A (wc) s.heap.size) (wc.set q_ (ed, .inl (gO g, 10, .inr (.inr (.inr (.inr (va_up (row) n (some x)))))))) := hD
    have hE := hE0.kept hS.2.1
    refine lv_aload_n hx hb dJx4a65c_add_72be8_15 rfl (lv_at hl 0 rfl) ?_
    refine lv_iload_n hx hb dJx4a65c_add_72be8_16 rfl (lv_at hl 3 rfl) ?_
    refine lv_iconst (v := nI 1) hx hb dJx4a65c_add_72be8_17 (by decide) ?_
    refine q_iadd (v := nI (n + 1)) hx hb dJx4a65c_add_72be8_18 (nI_add _ _) ?_
    refine va_put (D := g.1) (ci := 0) (v := .int (nI (n + 1))) (ty := .int) (C := RJx4a65c) (T := TJx4a65c) (N := 3) hx hb hts (q_sub wsJx4a65c0 47 rfl) tyJx4a65c tyJx4a65c_ok nmJx4a65c hown hE.K hP hD hS p_ (q_sn hp (Ne.symm hpq)) rfl 2 (by decide) (hts _ (List.mem_of_getElem? (i := 1) rfl)) (fun _ h9 => h9) rfl (by decide +kernel) rfl rfl (Nat.le_of_ble_eq_true rfl) dJx4a65c_add_72be8_19 (fun H locs hP hD hS => ?_)
    have hP : va_P g.1 vwCl ((wc.set q_ (ed, .inl (gO g, 10, .inr (.inr (.inr (.inr (va_up (row) n (some x)))))))).set p_ (al, .inr (0, [.int mc, .ref ed, .int (nI (n + 1))]))) H := hP
    have hD : va_D (va_A (wc) s.heap.size) ((wc.set q_ (ed, .inl (gO g, 10, .inr (.inr (.inr (.inr (va_up (row) n (some x)))))))).set p_ (al, .inr (0, [.int mc, .ref ed, .int (nI (n + 1))]))) := hD
    have hE := hE0.kept hS.2.1
    exact q_wvret (()) hx hb hr hlocks hP hD hS dJx4a65c_add_72be8_22 rfl
  · exact absurd c_1 (by omega)
set_option maxHeartbeats 4000000 in
set_option maxRecDepth 100000 in
theorem c_addJ {l : Launch} {g : gT} {sz : Nat} {al p_ r_ x : Nat} {mc : Int32} {vs : List Value} {wc : va_W} (hp : wc[p_]? = some (al, .inr (0, [.int mc, .ref (gE g), .int (nI 0)]))) (hr_ : wc[r_]? = some (x, .inr (2, vs))) (hrp : r_ ≠ p_) : WR (S := Nat) l yJx4a65c_add_72be8 wsJx4a65c_add_72be8 ({ frames := 3, cells := 1, slots := 10, locals := 64 } : Room) [.ref al, .ref x, .ref (gE g), .int (nI 0)] g (wc) sz (fun u : Nat => (((wc ++ ([(u, .inl (gO g, 10, .inr (.inr (.inr (.inr (fun _ => none))))))] : va_W)).set p_ (al, .inr (0, [.int mc, .ref u, .int (nI 0)]))).set wc.length (u, .inl (gO g, 10, .inr (.inr (.inr (.inr (va_up (fun _ => none) 0 (some x)))))))).set p_ (al, .inr (0, [.int mc, .ref u, .int (nI 1)]))) (fun _ => none) 1 10 := by
  refine WR.of (cc := cJx4a65c_add_72be8) (maxL := 4) (ret := none) (by decide) rfl (Nat.le_of_ble_eq_true rfl) ?_
  intro p e s m below meth c hx hb hml hr hlocks hown hin0 hts hsz hE0 hP hD ls hl
  subst hsz
  have hown : s.vm.findClass RJx4a65c = some m.cls := hown
  have hA : ∀ q, s.heap.size ≤ q → va_A (wc) s.heap.size q := fun q h => Or.inr h
  have hE := hE0
  have hS : va_S (va_A (wc) s.heap.size) s.heap s.heap [] := va_S.rf
  have hl : lv_has ls 4 [(0, .ref al), (1, .ref x), (2, .ref (gE g)), (3, .int (nI 0))] := hl
  refine lv_iload_n hx hb dJx4a65c_add_72be8_0 rfl (lv_at hl 3 rfl) ?_
  refine lv_aload_n hx hb dJx4a65c_add_72be8_1 rfl (lv_at hl 2 rfl) ?_
  refine va_tlen (v := nI 0) (ty := .object "java/lang/Object") hx hb hE0.2.2.2.2.1 hS rfl dJx4a65c_add_72be8_2 ?_
  refine q_icmp_ne (tgt := 11) hx hb (by omega) (by omega) dJx4a65c_add_72be8_3 (by decide) (fun c_1 => ?_) (fun c_1 => ?_)
  · exact absurd rfl c_1
  · refine lv_aload_n hx hb dJx4a65c_add_72be8_6 rfl (lv_at hl 0 rfl) ?_
    refine q_wrV (wr := []) (As := []) (rest := []) ⟨hx, hb, hml, hown, hts⟩ (c_grow0 hp) (cwV 0 hts gJx4a65c_add_72be8_Jx4a65c_grow_d5877 rfl rfl rfl (by decide +kernel) ⟨Nat.le_of_ble_eq_true rfl, Nat.le_of_ble_eq_true rfl⟩) hE hP hD hS hA (va_recv hE.K hP (ci := 0) (q0 := p_) rfl hp) rfl hl.1 rfl (Nat.le_of_ble_eq_true rfl) dJx4a65c_add_72be8_7 ⟨Nat.le_of_ble_eq_true rfl, Nat.le_of_ble_eq_true rfl⟩ (fun u_ H locs hP hD hS hE => ?_)
    have hP : va_P g.1 vwCl ((wc ++ ([(u_, .inl (gO g, 10, .inr (.inr (.inr (.inr (fun _ => none))))))] : va_W)).set p_ (al, .inr (0, [.int mc, .ref u_, .int (nI 0)]))) H := hP
    have hD : va_D (va_A (wc) s.heap.size) ((wc ++ ([(u_, .inl (gO g, 10, .inr (.inr (.inr (.inr (fun _ => none))))))] : va_W)).set p_ (al, .inr (0, [.int mc, .ref u_, .int (nI 0)]))) := hD
    refine lv_astore_n (lv' := [(2, .ref u_), (0, .ref al), (1, .ref x), (3, .int (nI 0))]) hx hb dJx4a65c_add_72be8_10 rfl hl (by decide) rfl (fun ls hl => ?_)
    refine lv_aload_n hx hb dJx4a65c_add_72be8_11 rfl (lv_at hl 0 rfl) ?_
    refine lv_iload_n hx hb dJx4a65c_add_72be8_12 rfl (lv_at hl 3 rfl) ?_
    refine lv_aload_n hx hb dJx4a65c_add_72be8_13 rfl (lv_at hl 2 rfl) ?_
    refine q_aastH (q0 := wc.length) hx hb hE hP hD hS (q_sn q_apR (q_lt hp)) (q_sn (q_apL hr_) (Ne.symm hrp)) (by omega) (by omega) dJx4a65c_add_72be8_14 (fun H locs hP hD hS => ?_)
    have hP : va_P g.1 vwCl (((wc ++ ([(u_, .inl (gO g, 10, .inr (.inr (.inr (.inr (fun _ => none))))))] : va_W)).set p_ (al, .inr (0, [.int mc, .ref u_, .int (nI 0)]))).set wc.length (u_, .inl (gO g, 10, .inr (.inr (.inr (.inr (va_up (fun _ => none) 0 (some x)))))))) H := hP
    have hD : va_D (va_A (wc) s.heap.size) (((wc ++ ([(u_, .inl (gO g, 10, .inr (.inr (.inr (.inr (fun _ => none))))))] : va_W)).set p_ (al, .inr (0, [.int mc, .ref u_, .int (nI 0)]))).set wc.length (u_, .inl (gO g, 10, .inr (.inr (.inr (.inr (va_up (fun _ => none) 0 (some x)))))))) := hD
    have hE := hE0.kept hS.2.1
    refine lv_aload_n hx hb dJx4a65c_add_72be8_15 rfl (lv_at hl 1 rfl) ?_
    refine lv_iload_n hx hb dJx4a65c_add_72be8_16 rfl (lv_at hl 3 rfl) ?_
    refine lv_iconst (v := nI 1) hx hb dJx4a65c_add_72be8_17 (by decide) ?_
    refine q_iadd (v := nI 1) hx hb dJx4a65c_add_72be8_18 rfl ?_
    refine va_put (D := g.1) (ci := 0) (v := .int (nI 1)) (ty := .int) (C := RJx4a65c) (T := TJx4a65c) (N := 3) hx hb hts (q_sub wsJx4a65c0 47 rfl) tyJx4a65c tyJx4a65c_ok nmJx4a65c hown hE.K hP hD hS p_ (q_sn (q_ss (q_apL hp)) (Ne.symm (q_lt hp))) rfl 2 (by decide) (hts _ (List.mem_of_getElem? (i := 1) rfl)) (fun _ h9 => h9) rfl (by decide +kernel) rfl rfl (Nat.le_of_ble_eq_true rfl) dJx4a65c_add_72be8_19 (fun H locs hP hD hS => ?_)
    have hP : va_P g.1 vwCl ((((wc ++ ([(u_, .inl (gO g, 10, .inr (.inr (.inr (.inr (fun _ => none))))))] : va_W)).set p_ (al, .inr (0, [.int mc, .ref u_, .int (nI 0)]))).set wc.length (u_, .inl (gO g, 10, .inr (.inr (.inr (.inr (va_up (fun _ => none) 0 (some x)))))))).set p_ (al, .inr (0, [.int mc, .ref u_, .int (nI 1)]))) H := hP
    have hD : va_D (va_A (wc) s.heap.size) ((((wc ++ ([(u_, .inl (gO g, 10, .inr (.inr (.inr (.inr (fun _ => none))))))] : va_W)).set p_ (al, .inr (0, [.int mc, .ref u_, .int (nI 0)]))).set wc.length (u_, .inl (gO g, 10, .inr (.inr (.inr (.inr (va_up (fun _ => none) 0 (some x)))))))).set p_ (al, .inr (0, [.int mc, .ref u_, .int (nI 1)]))) := hD
    have hE := hE0.kept hS.2.1
    exact q_wvret (u_) hx hb hr hlocks hP hD hS dJx4a65c_add_72be8_22 rfl
set_option maxHeartbeats 4000000 in
set_option maxRecDepth 100000 in
theorem c_addA {l : Launch} {g : gT} {sz : Nat} {al ed n p_ q_ r_ x : Nat} {mc : Int32} {row : Nat → Option Nat} {vs : List Value} {wc : va_W} (hn : n < 10) (hp : wc[p_]? = some (al, .inr (0, [.int mc, .ref ed, .int (nI n)]))) (hq : wc[q_]? = some (ed, .inl (gO g, 10, .inr (.inr (.inr (.inr (row))))))) (hpq : p_ ≠ q_) (hr_ : wc[r_]? = some (x, .inr (2, vs))) (hrp : r_ ≠ p_) : WR (S := Unit) l yJx4a65c_add_9ea2d wsJx4a65c_add_9ea2d ({ frames := 1, cells := 0, slots := 0, locals := 23 } : Room) [.ref al, .ref x] g (wc) sz (fun _ : Unit => ((wc.set p_ (al, .inr (0, [.int (mc + nI 1), .ref ed, .int (nI n)]))).set q_ (ed, .inl (gO g, 10, .inr (.inr (.inr (.inr (va_up (row) n (some x)))))))).set p_ (al, .inr (0, [.int (mc + nI 1), .ref ed, .int (nI (n + 1))]))) (fun _ => some (.int (nI 1))) 0 0 := by
  refine WR.of (cc := cJx4a65c_add_9ea2d) (maxL := 2) (ret := (some .boolean)) (by decide) rfl (Nat.le_of_ble_eq_true rfl) ?_
  intro p e s m below meth c hx hb hml hr hlocks hown hin0 hts hsz hE0 hP hD ls hl
  subst hsz
  have hown : s.vm.findClass RJx4a65c = some m.cls := hown
  have hA : ∀ q, s.heap.size ≤ q → va_A (wc) s.heap.size q := fun q h => Or.inr h
  have hE := hE0
  have hS : va_S (va_A (wc) s.heap.size) s.heap s.heap [] := va_S.rf
  have hl : lv_has ls 2 [(0, .ref al), (1, .ref x)] := hl
  refine lv_aload_n hx hb dJx4a65c_add_9ea2d_0 rfl (lv_at hl 0 rfl) ?_
  refine lv_dup hx hb dJx4a65c_add_9ea2d_1 rfl ?_
  refine va_get (v := .int mc) (C := RJx4a65c) (T := TJx4a65c) (N := 3) hx hb hts (q_sub wsJx4a65c0 53 rfl) hown hE.K hP p_ hp rfl 0 (by decide) (hts _ (List.mem_of_getElem? (i := 1) rfl)) (fun x9 h9 => u_same (hts _ (List.mem_of_getElem? (i := 2) rfl)) x9 h9) rfl dJx4a65c_add_9ea2d_2 ?_
  refine lv_iconst (v := nI 1) hx hb dJx4a65c_add_9ea2d_5 (by decide) ?_
  refine q_iadd (v := mc + nI 1) hx hb dJx4a65c_add_9ea2d_6 rfl ?_
  refine va_put (D := g.1) (ci := 0) (v := .int (mc + nI 1)) (ty := .int) (C := RJx4a65c) (T := TJx4a65c) (N := 3) hx hb hts (q_sub wsJx4a65c0 53 rfl) tyJx4a65c tyJx4a65c_ok nmJx4a65c hown hE.K hP hD hS p_ hp rfl 0 (by decide) (hts _ (List.mem_of_getElem? (i := 1) rfl)) (fun x9 h9 => u_same (hts _ (List.mem_of_getElem? (i := 2) rfl)) x9 h9) rfl (by decide +kernel) rfl rfl (Nat.le_of_ble_eq_true rfl) dJx4a65c_add_9ea2d_7 (fun H locs hP hD hS => ?_)
  have hP : va_P g.1 vwCl ((wc.set p_ (al, .inr (0, [.int (mc + nI 1), .ref ed, .int (nI n)])))) H := hP
  have hD : va_D (va_A (wc) s.heap.size) ((wc.set p_ (al, .inr (0, [.int (mc + nI 1), .ref ed, .int (nI n)])))) := hD
  have hE := hE0.kept hS.2.1
  refine lv_aload_n hx hb dJx4a65c_add_9ea2d_10 rfl (lv_at hl 0 rfl) ?_
  refine lv_aload_n hx hb dJx4a65c_add_9ea2d_11 rfl (lv_at hl 1 rfl) ?_
  refine lv_aload_n hx hb dJx4a65c_add_9ea2d_12 rfl (lv_at hl 0 rfl) ?_
  refine va_get (v := .ref ed) (C := RJx4a65c) (T := TJx4a65c) (N := 3) hx hb hts (q_sub wsJx4a65c0 53 rfl) hown hE.K hP p_ (q_ss hp) rfl 1 (by decide) (hts _ (List.mem_of_getElem? (i := 3) rfl)) (fun _ h9 => h9) rfl dJx4a65c_add_9ea2d_13 ?_
  refine lv_aload_n hx hb dJx4a65c_add_9ea2d_16 rfl (lv_at hl 0 rfl) ?_
  refine va_get (v := .int (nI n)) (C := RJx4a65c) (T := TJx4a65c) (N := 3) hx hb hts (q_sub wsJx4a65c0 53 rfl) hown hE.K hP p_ (q_ss hp) rfl 2 (by decide) (hts _ (List.mem_of_getElem? (i := 4) rfl)) (fun _ h9 => h9) rfl dJx4a65c_add_9ea2d_17 ?_
  refine q_wrV (wr := []) (As := [.ref x, .ref ed, .int (nI n)]) (rest := []) ⟨hx, hb, hml, hown, hts⟩ (c_addI hn (q_ss hp) (q_sn hq hpq) hpq (q_sn hr_ (Ne.symm hrp))) (cwV 3 hts gJx4a65c_add_9ea2d_Jx4a65c_add_72be8 rfl rfl rfl (by decide +kernel) ⟨Nat.le_of_ble_eq_true rfl, Nat.le_of_ble_eq_true rfl⟩) hE hP hD hS hA (va_recv hE.K hP (ci := 0) (q0 := p_) rfl (q_ss hp)) rfl hl.1 rfl (Nat.le_of_ble_eq_true rfl) dJx4a65c_add_9ea2d_20 ⟨Nat.le_of_ble_eq_true rfl, Nat.le_of_ble_eq_true rfl⟩ (fun _u H locs hP hD hS hE => ?_)
  have hP : va_P g.1 vwCl (((wc.set p_ (al, .inr (0, [.int (mc + nI 1), .ref ed, .int (nI n)]))).set q_ (ed, .inl (gO g, 10, .inr (.inr (.inr (.inr (va_up (row) n (some x)))))))).set p_ (al, .inr (0, [.int (mc + nI 1), .ref ed, .int (nI (n + 1))]))) H := hP
  have hD : va_D (va_A (wc) s.heap.size) (((wc.set p_ (al, .inr (0, [.int (mc + nI 1), .ref ed, .int (nI n)]))).set q_ (ed, .inl (gO g, 10, .inr (.inr (.inr (.inr (va_up (row) n (some x)))))))).set p_ (al, .inr (0, [.int (mc + nI 1), .ref ed, .int (nI (n + 1))]))) := hD
  refine lv_iconst (v := nI 1) hx hb dJx4a65c_add_9ea2d_23 (by decide) ?_
  exact q_wzret (()) hx hb hr hlocks rfl hP hD hS dJx4a65c_add_9ea2d_24 rfl
set_option maxHeartbeats 4000000 in
set_option maxRecDepth 100000 in
theorem c_addB {l : Launch} {g : gT} {sz : Nat} {al p_ r_ x : Nat} {mc : Int32} {vs : List Value} {wc : va_W} (hp : wc[p_]? = some (al, .inr (0, [.int mc, .ref (gE g), .int (nI 0)]))) (hr_ : wc[r_]? = some (x, .inr (2, vs))) (hrp : r_ ≠ p_) : WR (S := Nat) l yJx4a65c_add_9ea2d wsJx4a65c_add_9ea2d ({ frames := 4, cells := 1, slots := 10, locals := 87 } : Room) [.ref al, .ref x] g (wc) sz (fun u : Nat => ((((wc.set p_ (al, .inr (0, [.int (mc + nI 1), .ref (gE g), .int (nI 0)]))) ++ ([(u, .inl (gO g, 10, .inr (.inr (.inr (.inr (fun _ => none))))))] : va_W)).set p_ (al, .inr (0, [.int (mc + nI 1), .ref u, .int (nI 0)]))).set (wc.set p_ (al, .inr (0, [.int (mc + nI 1), .ref (gE g), .int (nI 0)]))).length (u, .inl (gO g, 10, .inr (.inr (.inr (.inr (va_up (fun _ => none) 0 (some x)))))))).set p_ (al, .inr (0, [.int (mc + nI 1), .ref u, .int (nI 1)]))) (fun _ => some (.int (nI 1))) 1 10 := by
  refine WR.of (cc := cJx4a65c_add_9ea2d) (maxL := 2) (ret := (some .boolean)) (by decide) rfl (Nat.le_of_ble_eq_true rfl) ?_
  intro p e s m below meth c hx hb hml hr hlocks hown hin0 hts hsz hE0 hP hD ls hl
  subst hsz
  have hown : s.vm.findClass RJx4a65c = some m.cls := hown
  have hA : ∀ q, s.heap.size ≤ q → va_A (wc) s.heap.size q := fun q h => Or.inr h
  have hE := hE0
  have hS : va_S (va_A (wc) s.heap.size) s.heap s.heap [] := va_S.rf
  have hl : lv_has ls 2 [(0, .ref al), (1, .ref x)] := hl
  refine lv_aload_n hx hb dJx4a65c_add_9ea2d_0 rfl (lv_at hl 0 rfl) ?_
  refine lv_dup hx hb dJx4a65c_add_9ea2d_1 rfl ?_
  refine va_get (v := .int mc) (C := RJx4a65c) (T := TJx4a65c) (N := 3) hx hb hts (q_sub wsJx4a65c0 53 rfl) hown hE.K hP p_ hp rfl 0 (by decide) (hts _ (List.mem_of_getElem? (i := 1) rfl)) (fun x9 h9 => u_same (hts _ (List.mem_of_getElem? (i := 2) rfl)) x9 h9) rfl dJx4a65c_add_9ea2d_2 ?_
  refine lv_iconst (v := nI 1) hx hb dJx4a65c_add_9ea2d_5 (by decide) ?_
  refine q_iadd (v := mc + nI 1) hx hb dJx4a65c_add_9ea2d_6 rfl ?_
  refine va_put (D := g.1) (ci := 0) (v := .int (mc + nI 1)) (ty := .int) (C := RJx4a65c) (T := TJx4a65c) (N := 3) hx hb hts (q_sub wsJx4a65c0 53 rfl) tyJx4a65c tyJx4a65c_ok nmJx4a65c hown hE.K hP hD hS p_ hp rfl 0 (by decide) (hts _ (List.mem_of_getElem? (i := 1) rfl)) (fun x9 h9 => u_same (hts _ (List.mem_of_getElem? (i := 2) rfl)) x9 h9) rfl (by decide +kernel) rfl rfl (Nat.le_of_ble_eq_true rfl) dJx4a65c_add_9ea2d_7 (fun H locs hP hD hS => ?_)
  have hP : va_P g.1 vwCl ((wc.set p_ (al, .inr (0, [.int (mc + nI 1), .ref (gE g), .int (nI 0)])))) H := hP
  have hD : va_D (va_A (wc) s.heap.size) ((wc.set p_ (al, .inr (0, [.int (mc + nI 1), .ref (gE g), .int (nI 0)])))) := hD
  have hE := hE0.kept hS.2.1
  refine lv_aload_n hx hb dJx4a65c_add_9ea2d_10 rfl (lv_at hl 0 rfl) ?_
  refine lv_aload_n hx hb dJx4a65c_add_9ea2d_11 rfl (lv_at hl 1 rfl) ?_
  refine lv_aload_n hx hb dJx4a65c_add_9ea2d_12 rfl (lv_at hl 0 rfl) ?_
  refine va_get (v := .ref (gE g)) (C := RJx4a65c) (T := TJx4a65c) (N := 3) hx hb hts (q_sub wsJx4a65c0 53 rfl) hown hE.K hP p_ (q_ss hp) rfl 1 (by decide) (hts _ (List.mem_of_getElem? (i := 3) rfl)) (fun _ h9 => h9) rfl dJx4a65c_add_9ea2d_13 ?_
  refine lv_aload_n hx hb dJx4a65c_add_9ea2d_16 rfl (lv_at hl 0 rfl) ?_
  refine va_get (v := .int (nI 0)) (C := RJx4a65c) (T := TJx4a65c) (N := 3) hx hb hts (q_sub wsJx4a65c0 53 rfl) hown hE.K hP p_ (q_ss hp) rfl 2 (by decide) (hts _ (List.mem_of_getElem? (i := 4) rfl)) (fun _ h9 => h9) rfl dJx4a65c_add_9ea2d_17 ?_
  refine q_wrV (wr := []) (As := [.ref x, .ref (gE g), .int (nI 0)]) (rest := []) ⟨hx, hb, hml, hown, hts⟩ (c_addJ (q_ss hp) (q_sn hr_ (Ne.symm hrp)) hrp) (cwV 3 hts gJx4a65c_add_9ea2d_Jx4a65c_add_72be8 rfl rfl rfl (by decide +kernel) ⟨Nat.le_of_ble_eq_true rfl, Nat.le_of_ble_eq_true rfl⟩) hE hP hD hS hA (va_recv hE.K hP (ci := 0) (q0 := p_) rfl (q_ss hp)) rfl hl.1 rfl (Nat.le_of_ble_eq_true rfl) dJx4a65c_add_9ea2d_20 ⟨Nat.le_of_ble_eq_true rfl, Nat.le_of_ble_eq_true rfl⟩ (fun u_ H locs hP hD hS hE => ?_)
  have hP : va_P g.1 vwCl (((((wc.set p_ (al, .inr (0, [.int (mc + nI 1), .ref (gE g), .int (nI 0)]))) ++ ([(u_, .inl (gO g, 10, .inr (.inr (.inr (.inr (fun _ => none))))))] : va_W)).set p_ (al, .inr (0, [.int (mc + nI 1), .ref u_, .int (nI 0)]))).set (wc.set p_ (al, .inr (0, [.int (mc + nI 1), .ref (gE g), .int (nI 0)]))).length (u_, .inl (gO g, 10, .inr (.inr (.inr (.inr (va_up (fun _ => none) 0 (some x)))))))).set p_ (al, .inr (0, [.int (mc + nI 1), .ref u_, .int (nI 1)]))) H := hP
  have hD : va_D (va_A (wc) s.heap.size) (((((wc.set p_ (al, .inr (0, [.int (mc + nI 1), .ref (gE g), .int (nI 0)]))) ++ ([(u_, .inl (gO g, 10, .inr (.inr (.inr (.inr (fun _ => none))))))] : va_W)).set p_ (al, .inr (0, [.int (mc + nI 1), .ref u_, .int (nI 0)]))).set (wc.set p_ (al, .inr (0, [.int (mc + nI 1), .ref (gE g), .int (nI 0)]))).length (u_, .inl (gO g, 10, .inr (.inr (.inr (.inr (va_up (fun _ => none) 0 (some x)))))))).set p_ (al, .inr (0, [.int (mc + nI 1), .ref u_, .int (nI 1)]))) := hD
  refine lv_iconst (v := nI 1) hx hb dJx4a65c_add_9ea2d_23 (by decide) ?_
  exact q_wzret (u_) hx hb hr hlocks rfl hP hD hS dJx4a65c_add_9ea2d_24 rfl
