/-! ===== constructors ===== -/
abbrev z0 : sT := (8, 0, fun _ => 0, fun _ => 0, fun _ => 0, fun _ => 0, fun _ _ => 0, fun _ => 0)
/-- the addresses of a new object's cells -/
def adI (x c k st sg al : Nat) : Nat → Nat
  | 0 => x
  | 1 => c
  | 2 => k
  | 3 => st
  | 4 => sg
  | _ => al
def amI (m a b c d e f : Nat) : Nat → Nat
  | 0 => m
  | 1 => a
  | 2 => b
  | 3 => c
  | 4 => d
  | 5 => e
  | _ => f
set_option maxHeartbeats 4000000 in
set_option maxRecDepth 100000 in
theorem c_X0_init {l : Launch} {g : gT} {sz : Nat} {c0 : Nat} : WR (S := Unit) l yX0_init wsX0_init ({ frames := 1, cells := 0, slots := 0, locals := 24 } : Room) [.ref c0] g (([(c0, .inr (1, [.int 0]))] : va_W)) sz (fun _ : Unit => ([(c0, .inr (1, [.int (nI 8)]))] : va_W)) (fun _ => none) 0 0 := by
  refine WR.of (cc := cX0_init) (maxL := 1) (ret := none) (by decide) rfl (Nat.le_of_ble_eq_true rfl) ?_
  intro p e s m below meth c hx hb hml hr hlocks hown hin0 hts hsz hE0 hP hD ls hl
  subst hsz
  have hown : s.vm.findClass RX0 = some m.cls := hown
  have hin : meth.name = "<init>" := hin0 rfl
  have hA : ∀ q, s.heap.size ≤ q → va_A (([(c0, .inr (1, [.int 0]))] : va_W)) s.heap.size q := fun q h => Or.inr h
  have hE := hE0
  have hS : va_S (va_A (([(c0, .inr (1, [.int 0]))] : va_W)) s.heap.size) s.heap s.heap [] := va_S.rf
  have hl : lv_has ls 1 [(0, .ref c0)] := hl
  refine lv_aload_n hx hb dX0_init_0 rfl (lv_at hl 0 rfl) ?_
  refine W.objInit hx hb hown (hts _ (List.mem_of_getElem? (i := 1) rfl)) (hts _ (List.mem_of_getElem? (i := 2) rfl)) (hts _ (List.mem_of_getElem? (i := 3) rfl)) rfl (by rw [hml]; exact hl.1) rfl dX0_init_1 (Nat.le_of_ble_eq_true rfl) (Nat.le_of_ble_eq_true rfl) ?_
  refine W.eq (g2 := F0 m 4 ls []) rfl ?_
  refine lv_aload_n hx hb dX0_init_4 rfl (lv_at hl 0 rfl) ?_
  refine lv_bipush (v := nI 8) hx hb dX0_init_5 (by decide) ?_
  refine va_put (D := g.1) (ci := 1) (v := .int (nI 8)) (ty := .int) (C := RX0) (T := TX0) (N := 1) hx hb hts (q_sub wsX00 5 rfl) tyX0 tyX0_ok nmX0 hown hE.K hP hD hS 0 rfl rfl 0 (by decide) (hts _ (List.mem_of_getElem? (i := 4) rfl)) (fun _ h9 => h9) rfl (by decide +kernel) rfl rfl (Nat.le_of_ble_eq_true rfl) dX0_init_7 (fun H locs hP hD hS => ?_)
  have hP : va_P g.1 vwCl (([(c0, .inr (1, [.int (nI 8)]))] : va_W)) H := hP
  have hD : va_D (va_A (([(c0, .inr (1, [.int 0]))] : va_W)) s.heap.size) (([(c0, .inr (1, [.int (nI 8)]))] : va_W)) := hD
  have hE := hE0.kept hS.2.1
  exact q_wvret (()) hx hb hr hlocks hP hD hS dX0_init_10 rfl
set_option maxHeartbeats 4000000 in
set_option maxRecDepth 100000 in
theorem c_X1_init {l : Launch} {g : gT} {sz : Nat} {h0 a s_ : Nat} : WR (S := Nat) l yX1_init wsX1_init ({ frames := 1, cells := 1, slots := 12, locals := 24 } : Room) [.ref h0, .int (nI a), .int (nI s_)] g (([(h0, .inr (2, [.int 0, .int 0, .int 0, .int 0, .null]))] : va_W)) sz (fun w : Nat => ([(h0, .inr (2, [.int (nI a), .int (nI s_), .int (nI 0), .int (nI 0), .ref w])), (w, .inl (gI g, 12, .inl (fun _ => 0)))] : va_W)) (fun _ => none) 1 12 := by
  refine WR.of (cc := cX1_init) (maxL := 3) (ret := none) (by decide) rfl (Nat.le_of_ble_eq_true rfl) ?_
  intro p e s m below meth c hx hb hml hr hlocks hown hin0 hts hsz hE0 hP hD ls hl
  subst hsz
  have hown : s.vm.findClass RX1 = some m.cls := hown
  have hin : meth.name = "<init>" := hin0 rfl
  have hA : ∀ q, s.heap.size ≤ q → va_A (([(h0, .inr (2, [.int 0, .int 0, .int 0, .int 0, .null]))] : va_W)) s.heap.size q := fun q h => Or.inr h
  have hE := hE0
  have hS : va_S (va_A (([(h0, .inr (2, [.int 0, .int 0, .int 0, .int 0, .null]))] : va_W)) s.heap.size) s.heap s.heap [] := va_S.rf
  have hl : lv_has ls 3 [(0, .ref h0), (1, .int (nI a)), (2, .int (nI s_))] := hl
  refine lv_aload_n hx hb dX1_init_0 rfl (lv_at hl 0 rfl) ?_
  refine W.objInit hx hb hown (hts _ (List.mem_of_getElem? (i := 1) rfl)) (hts _ (List.mem_of_getElem? (i := 2) rfl)) (hts _ (List.mem_of_getElem? (i := 3) rfl)) rfl (by rw [hml]; exact hl.1) rfl dX1_init_1 (Nat.le_of_ble_eq_true rfl) (Nat.le_of_ble_eq_true rfl) ?_
  refine W.eq (g2 := F0 m 4 ls []) rfl ?_
  refine lv_aload_n hx hb dX1_init_4 rfl (lv_at hl 0 rfl) ?_
  refine lv_iconst (v := nI 0) hx hb dX1_init_5 (by decide) ?_
  refine va_put (D := g.1) (ci := 2) (v := .int (nI 0)) (ty := .int) (C := RX1) (T := TX1) (N := 5) hx hb hts (q_sub wsX10 10 rfl) tyX1 tyX1_ok nmX1 hown hE.K hP hD hS 0 rfl rfl 2 (by decide) (hts _ (List.mem_of_getElem? (i := 4) rfl)) (fun _ h9 => h9) rfl (by decide +kernel) rfl rfl (Nat.le_of_ble_eq_true rfl) dX1_init_6 (fun H locs hP hD hS => ?_)
  have hP : va_P g.1 vwCl (([(h0, .inr (2, [.int 0, .int 0, .int (nI 0), .int 0, .null]))] : va_W)) H := hP
  have hD : va_D (va_A (([(h0, .inr (2, [.int 0, .int 0, .int 0, .int 0, .null]))] : va_W)) s.heap.size) (([(h0, .inr (2, [.int 0, .int 0, .int (nI 0), .int 0, .null]))] : va_W)) := hD
  have hE := hE0.kept hS.2.1
  refine lv_aload_n hx hb dX1_init_9 rfl (lv_at hl 0 rfl) ?_
  refine lv_iconst (v := nI 0) hx hb dX1_init_10 (by decide) ?_
  refine va_put (D := g.1) (ci := 2) (v := .int (nI 0)) (ty := .int) (C := RX1) (T := TX1) (N := 5) hx hb hts (q_sub wsX10 10 rfl) tyX1 tyX1_ok nmX1 hown hE.K hP hD hS 0 rfl rfl 3 (by decide) (hts _ (List.mem_of_getElem? (i := 5) rfl)) (fun _ h9 => h9) rfl (by decide +kernel) rfl rfl (Nat.le_of_ble_eq_true rfl) dX1_init_11 (fun H locs hP hD hS => ?_)
  have hP : va_P g.1 vwCl (([(h0, .inr (2, [.int 0, .int 0, .int (nI 0), .int (nI 0), .null]))] : va_W)) H := hP
  have hD : va_D (va_A (([(h0, .inr (2, [.int 0, .int 0, .int 0, .int 0, .null]))] : va_W)) s.heap.size) (([(h0, .inr (2, [.int 0, .int 0, .int (nI 0), .int (nI 0), .null]))] : va_W)) := hD
  have hE := hE0.kept hS.2.1
  refine lv_aload_n hx hb dX1_init_14 rfl (lv_at hl 0 rfl) ?_
  refine lv_bipush (v := nI 12) hx hb dX1_init_15 (by decide) ?_
  refine q_newI (n := 12) hx hb (hts _ (List.mem_of_getElem? (i := 6) rfl)) hE hP hD hS hA (by omega) (Nat.le_of_ble_eq_true rfl) (Nat.le_of_ble_eq_true rfl) dX1_init_17 (fun w_ H hP hD hS => ?_)
  have hP : va_P g.1 vwCl (([(h0, .inr (2, [.int 0, .int 0, .int (nI 0), .int (nI 0), .null])), (w_, .inl (gI g, 12, .inl (fun _ => 0)))] : va_W)) H := hP
  have hD : va_D (va_A (([(h0, .inr (2, [.int 0, .int 0, .int 0, .int 0, .null]))] : va_W)) s.heap.size) (([(h0, .inr (2, [.int 0, .int 0, .int (nI 0), .int (nI 0), .null])), (w_, .inl (gI g, 12, .inl (fun _ => 0)))] : va_W)) := hD
  have hE := hE0.kept hS.2.1
  refine va_putF (D := g.1) (ci := 2) (v := .ref w_) (ty := .array .int) (C := RX1) (T := TX1) (N := 5) hx hb hts (q_sub wsX10 10 rfl) tyX1 tyX1_ok nmX1 hown hE.K hP hD hS 0 rfl rfl 4 (by decide) (hts _ (List.mem_of_getElem? (i := 7) rfl)) (fun _ h9 => h9) rfl hin rfl (by decide +kernel) rfl rfl (Nat.le_of_ble_eq_true rfl) dX1_init_19 (fun H locs hP hD hS => ?_)
  have hP : va_P g.1 vwCl (([(h0, .inr (2, [.int 0, .int 0, .int (nI 0), .int (nI 0), .ref w_])), (w_, .inl (gI g, 12, .inl (fun _ => 0)))] : va_W)) H := hP
  have hD : va_D (va_A (([(h0, .inr (2, [.int 0, .int 0, .int 0, .int 0, .null]))] : va_W)) s.heap.size) (([(h0, .inr (2, [.int 0, .int 0, .int (nI 0), .int (nI 0), .ref w_])), (w_, .inl (gI g, 12, .inl (fun _ => 0)))] : va_W)) := hD
  have hE := hE0.kept hS.2.1
  refine lv_aload_n hx hb dX1_init_22 rfl (lv_at hl 0 rfl) ?_
  refine lv_iload_n hx hb dX1_init_23 rfl (lv_at hl 1 rfl) ?_
  refine va_putF (D := g.1) (ci := 2) (v := .int (nI a)) (ty := .int) (C := RX1) (T := TX1) (N := 5) hx hb hts (q_sub wsX10 10 rfl) tyX1 tyX1_ok nmX1 hown hE.K hP hD hS 0 rfl rfl 0 (by decide) (hts _ (List.mem_of_getElem? (i := 8) rfl)) (fun _ h9 => h9) rfl hin rfl (by decide +kernel) rfl rfl (Nat.le_of_ble_eq_true rfl) dX1_init_24 (fun H locs hP hD hS => ?_)
  have hP : va_P g.1 vwCl (([(h0, .inr (2, [.int (nI a), .int 0, .int (nI 0), .int (nI 0), .ref w_])), (w_, .inl (gI g, 12, .inl (fun _ => 0)))] : va_W)) H := hP
  have hD : va_D (va_A (([(h0, .inr (2, [.int 0, .int 0, .int 0, .int 0, .null]))] : va_W)) s.heap.size) (([(h0, .inr (2, [.int (nI a), .int 0, .int (nI 0), .int (nI 0), .ref w_])), (w_, .inl (gI g, 12, .inl (fun _ => 0)))] : va_W)) := hD
  have hE := hE0.kept hS.2.1
  refine lv_aload_n hx hb dX1_init_27 rfl (lv_at hl 0 rfl) ?_
  refine lv_iload_n hx hb dX1_init_28 rfl (lv_at hl 2 rfl) ?_
  refine va_put (D := g.1) (ci := 2) (v := .int (nI s_)) (ty := .int) (C := RX1) (T := TX1) (N := 5) hx hb hts (q_sub wsX10 10 rfl) tyX1 tyX1_ok nmX1 hown hE.K hP hD hS 0 rfl rfl 1 (by decide) (hts _ (List.mem_of_getElem? (i := 9) rfl)) (fun _ h9 => h9) rfl (by decide +kernel) rfl rfl (Nat.le_of_ble_eq_true rfl) dX1_init_29 (fun H locs hP hD hS => ?_)
  have hP : va_P g.1 vwCl (([(h0, .inr (2, [.int (nI a), .int (nI s_), .int (nI 0), .int (nI 0), .ref w_])), (w_, .inl (gI g, 12, .inl (fun _ => 0)))] : va_W)) H := hP
  have hD : va_D (va_A (([(h0, .inr (2, [.int 0, .int 0, .int 0, .int 0, .null]))] : va_W)) s.heap.size) (([(h0, .inr (2, [.int (nI a), .int (nI s_), .int (nI 0), .int (nI 0), .ref w_])), (w_, .inl (gI g, 12, .inl (fun _ => 0)))] : va_W)) := hD
  have hE := hE0.kept hS.2.1
  exact q_wvret (w_) hx hb hr hlocks hP hD hS dX1_init_32 rfl
set_option maxHeartbeats 4000000 in
set_option maxRecDepth 100000 in
theorem c_X2_init {l : Launch} {g : gT} {sz : Nat} {k0 c0 : Nat} : WR (S := Nat × Nat) l yX2_init wsX2_init ({ frames := 1, cells := 2, slots := 227, locals := 24 } : Room) [.ref k0, .ref c0] g (([(k0, .inr (3, [.null, .null, .null]))] : va_W)) sz (fun u : Nat × Nat => ([(k0, .inr (3, [.ref u.1, .ref u.2, .ref c0])), (u.1, .inl (gI g, 20, .inl (fun _ => 0))), (u.2, .inl (gI g, 207, .inl (fun _ => 0)))] : va_W)) (fun _ => none) 2 227 := by
  refine WR.of (cc := cX2_init) (maxL := 2) (ret := none) (by decide) rfl (Nat.le_of_ble_eq_true rfl) ?_
  intro p e s m below meth c hx hb hml hr hlocks hown hin0 hts hsz hE0 hP hD ls hl
  subst hsz
  have hown : s.vm.findClass RX2 = some m.cls := hown
  have hin : meth.name = "<init>" := hin0 rfl
  have hA : ∀ q, s.heap.size ≤ q → va_A (([(k0, .inr (3, [.null, .null, .null]))] : va_W)) s.heap.size q := fun q h => Or.inr h
  have hE := hE0
  have hS : va_S (va_A (([(k0, .inr (3, [.null, .null, .null]))] : va_W)) s.heap.size) s.heap s.heap [] := va_S.rf
  have hl : lv_has ls 2 [(0, .ref k0), (1, .ref c0)] := hl
  refine lv_aload_n hx hb dX2_init_0 rfl (lv_at hl 0 rfl) ?_
  refine W.objInit hx hb hown (hts _ (List.mem_of_getElem? (i := 1) rfl)) (hts _ (List.mem_of_getElem? (i := 2) rfl)) (hts _ (List.mem_of_getElem? (i := 3) rfl)) rfl (by rw [hml]; exact hl.1) rfl dX2_init_1 (Nat.le_of_ble_eq_true rfl) (Nat.le_of_ble_eq_true rfl) ?_
  refine W.eq (g2 := F0 m 4 ls []) rfl ?_
  refine lv_aload_n hx hb dX2_init_4 rfl (lv_at hl 0 rfl) ?_
  refine lv_bipush (v := nI 20) hx hb dX2_init_5 (by decide) ?_
  refine q_newI (n := 20) hx hb (hts _ (List.mem_of_getElem? (i := 4) rfl)) hE hP hD hS hA (by omega) (Nat.le_of_ble_eq_true rfl) (Nat.le_of_ble_eq_true rfl) dX2_init_7 (fun s1 H hP hD hS => ?_)
  have hP : va_P g.1 vwCl (([(k0, .inr (3, [.null, .null, .null])), (s1, .inl (gI g, 20, .inl (fun _ => 0)))] : va_W)) H := hP
  have hD : va_D (va_A (([(k0, .inr (3, [.null, .null, .null]))] : va_W)) s.heap.size) (([(k0, .inr (3, [.null, .null, .null])), (s1, .inl (gI g, 20, .inl (fun _ => 0)))] : va_W)) := hD
  have hE := hE0.kept hS.2.1
  refine va_putF (D := g.1) (ci := 3) (v := .ref s1) (ty := .array .int) (C := RX2) (T := TX2) (N := 3) hx hb hts (q_sub wsX20 8 rfl) tyX2 tyX2_ok nmX2 hown hE.K hP hD hS 0 rfl rfl 0 (by decide) (hts _ (List.mem_of_getElem? (i := 5) rfl)) (fun _ h9 => h9) rfl hin rfl (by decide +kernel) rfl rfl (Nat.le_of_ble_eq_true rfl) dX2_init_9 (fun H locs hP hD hS => ?_)
  have hP : va_P g.1 vwCl (([(k0, .inr (3, [.ref s1, .null, .null])), (s1, .inl (gI g, 20, .inl (fun _ => 0)))] : va_W)) H := hP
  have hD : va_D (va_A (([(k0, .inr (3, [.null, .null, .null]))] : va_W)) s.heap.size) (([(k0, .inr (3, [.ref s1, .null, .null])), (s1, .inl (gI g, 20, .inl (fun _ => 0)))] : va_W)) := hD
  have hE := hE0.kept hS.2.1
  refine lv_aload_n hx hb dX2_init_12 rfl (lv_at hl 0 rfl) ?_
  refine lv_sipush (v := nI 207) hx hb dX2_init_13 (by decide) ?_
  refine q_newI (n := 207) hx hb (hts _ (List.mem_of_getElem? (i := 4) rfl)) hE hP hD hS hA (by omega) (Nat.le_of_ble_eq_true rfl) (Nat.le_of_ble_eq_true rfl) dX2_init_16 (fun s2 H hP hD hS => ?_)
  have hP : va_P g.1 vwCl (([(k0, .inr (3, [.ref s1, .null, .null])), (s1, .inl (gI g, 20, .inl (fun _ => 0))), (s2, .inl (gI g, 207, .inl (fun _ => 0)))] : va_W)) H := hP
  have hD : va_D (va_A (([(k0, .inr (3, [.null, .null, .null]))] : va_W)) s.heap.size) (([(k0, .inr (3, [.ref s1, .null, .null])), (s1, .inl (gI g, 20, .inl (fun _ => 0))), (s2, .inl (gI g, 207, .inl (fun _ => 0)))] : va_W)) := hD
  have hE := hE0.kept hS.2.1
  refine va_putF (D := g.1) (ci := 3) (v := .ref s2) (ty := .array .int) (C := RX2) (T := TX2) (N := 3) hx hb hts (q_sub wsX20 8 rfl) tyX2 tyX2_ok nmX2 hown hE.K hP hD hS 0 rfl rfl 1 (by decide) (hts _ (List.mem_of_getElem? (i := 6) rfl)) (fun _ h9 => h9) rfl hin rfl (by decide +kernel) rfl rfl (Nat.le_of_ble_eq_true rfl) dX2_init_18 (fun H locs hP hD hS => ?_)
  have hP : va_P g.1 vwCl (([(k0, .inr (3, [.ref s1, .ref s2, .null])), (s1, .inl (gI g, 20, .inl (fun _ => 0))), (s2, .inl (gI g, 207, .inl (fun _ => 0)))] : va_W)) H := hP
  have hD : va_D (va_A (([(k0, .inr (3, [.null, .null, .null]))] : va_W)) s.heap.size) (([(k0, .inr (3, [.ref s1, .ref s2, .null])), (s1, .inl (gI g, 20, .inl (fun _ => 0))), (s2, .inl (gI g, 207, .inl (fun _ => 0)))] : va_W)) := hD
  have hE := hE0.kept hS.2.1
  refine lv_aload_n hx hb dX2_init_21 rfl (lv_at hl 0 rfl) ?_
  refine lv_aload_n hx hb dX2_init_22 rfl (lv_at hl 1 rfl) ?_
  refine va_putF (D := g.1) (ci := 3) (v := .ref c0) (ty := .object "FlagChips$Codes") (C := RX2) (T := TX2) (N := 3) hx hb hts (q_sub wsX20 8 rfl) tyX2 tyX2_ok nmX2 hown hE.K hP hD hS 0 rfl rfl 2 (by decide) (hts _ (List.mem_of_getElem? (i := 7) rfl)) (fun _ h9 => h9) rfl hin rfl (by decide +kernel) rfl rfl (Nat.le_of_ble_eq_true rfl) dX2_init_23 (fun H locs hP hD hS => ?_)
  have hP : va_P g.1 vwCl (([(k0, .inr (3, [.ref s1, .ref s2, .ref c0])), (s1, .inl (gI g, 20, .inl (fun _ => 0))), (s2, .inl (gI g, 207, .inl (fun _ => 0)))] : va_W)) H := hP
  have hD : va_D (va_A (([(k0, .inr (3, [.null, .null, .null]))] : va_W)) s.heap.size) (([(k0, .inr (3, [.ref s1, .ref s2, .ref c0])), (s1, .inl (gI g, 20, .inl (fun _ => 0))), (s2, .inl (gI g, 207, .inl (fun _ => 0)))] : va_W)) := hD
  have hE := hE0.kept hS.2.1
  exact q_wvret ((s1, s2)) hx hb hr hlocks hP hD hS dX2_init_26 rfl
set_option maxHeartbeats 4000000 in
set_option maxRecDepth 100000 in
theorem c_acI {l : Launch} {g : gT} {sz : Nat} {al : Nat} {x : va_E} : WR (S := Unit) l yJxa1e45_init_da8c8 wsJxa1e45_init_da8c8 ({ frames := 1, cells := 0, slots := 0, locals := 24 } : Room) [.ref al] g (([(al, x)] : va_W)) sz (fun _ : Unit => ([(al, x)] : va_W)) (fun _ => none) 0 0 := by
  refine WR.of (cc := cJxa1e45_init_da8c8) (maxL := 1) (ret := none) (by decide) rfl (Nat.le_of_ble_eq_true rfl) ?_
  intro p e s m below meth c hx hb hml hr hlocks hown hin0 hts hsz hE0 hP hD ls hl
  subst hsz
  have hown : s.vm.findClass RJxa1e45 = some m.cls := hown
  have hin : meth.name = "<init>" := hin0 rfl
  have hA : ∀ q, s.heap.size ≤ q → va_A (([(al, x)] : va_W)) s.heap.size q := fun q h => Or.inr h
  have hE := hE0
  have hS : va_S (va_A (([(al, x)] : va_W)) s.heap.size) s.heap s.heap [] := va_S.rf
  have hl : lv_has ls 1 [(0, .ref al)] := hl
  refine lv_aload_n hx hb dJxa1e45_init_da8c8_0 rfl (lv_at hl 0 rfl) ?_
  refine W.objInit hx hb hown (hts _ (List.mem_of_getElem? (i := 1) rfl)) (hts _ (List.mem_of_getElem? (i := 2) rfl)) (hts _ (List.mem_of_getElem? (i := 3) rfl)) rfl (by rw [hml]; exact hl.1) rfl dJxa1e45_init_da8c8_1 (Nat.le_of_ble_eq_true rfl) (Nat.le_of_ble_eq_true rfl) ?_
  refine W.eq (g2 := F0 m 4 ls []) rfl ?_
  exact q_wvret (()) hx hb hr hlocks hP hD hS dJxa1e45_init_da8c8_4 rfl
set_option maxHeartbeats 4000000 in
set_option maxRecDepth 100000 in
theorem c_abI {l : Launch} {g : gT} {sz : Nat} {al : Nat} : WR (S := Unit) l yJxc12de_init_da8c8 wsJxc12de_init_da8c8 ({ frames := 2, cells := 0, slots := 0, locals := 44 } : Room) [.ref al] g (([(al, .inr (0, [.int 0, .null, .int 0]))] : va_W)) sz (fun _ : Unit => ([(al, .inr (0, [.int (nI 0), .null, .int 0]))] : va_W)) (fun _ => none) 0 0 := by
  refine WR.of (cc := cJxc12de_init_da8c8) (maxL := 1) (ret := none) (by decide) rfl (Nat.le_of_ble_eq_true rfl) ?_
  intro p e s m below meth c hx hb hml hr hlocks hown hin0 hts hsz hE0 hP hD ls hl
  subst hsz
  have hown : s.vm.findClass RJxc12de = some m.cls := hown
  have hin : meth.name = "<init>" := hin0 rfl
  have hA : ∀ q, s.heap.size ≤ q → va_A (([(al, .inr (0, [.int 0, .null, .int 0]))] : va_W)) s.heap.size q := fun q h => Or.inr h
  have hE := hE0
  have hS : va_S (va_A (([(al, .inr (0, [.int 0, .null, .int 0]))] : va_W)) s.heap.size) s.heap s.heap [] := va_S.rf
  have hl : lv_has ls 1 [(0, .ref al)] := hl
  refine lv_aload_n hx hb dJxc12de_init_da8c8_0 rfl (lv_at hl 0 rfl) ?_
  refine q_wrI (wr := []) (As := []) (rest := []) ⟨hx, hb, hml, hown, hts⟩ (c_acI ) (cwI 0 hts gJxc12de_init_da8c8_Jxa1e45_init_da8c8 rfl rfl rfl (hts _ (List.mem_of_getElem? (i := 4) rfl)) (hts _ (List.mem_of_getElem? (i := 2) rfl)) (hts _ (List.mem_of_getElem? (i := 3) rfl)) rfl (by decide +kernel) ⟨Nat.le_of_ble_eq_true rfl, Nat.le_of_ble_eq_true rfl⟩) hE hP hD hS hA rfl hl.1 rfl (Nat.le_of_ble_eq_true rfl) dJxc12de_init_da8c8_1 ⟨Nat.le_of_ble_eq_true rfl, Nat.le_of_ble_eq_true rfl⟩ (fun _u H locs hP hD hS hE => ?_)
  have hP : va_P g.1 vwCl (([(al, .inr (0, [.int 0, .null, .int 0]))] : va_W)) H := hP
  have hD : va_D (va_A (([(al, .inr (0, [.int 0, .null, .int 0]))] : va_W)) s.heap.size) (([(al, .inr (0, [.int 0, .null, .int 0]))] : va_W)) := hD
  refine lv_aload_n hx hb dJxc12de_init_da8c8_4 rfl (lv_at hl 0 rfl) ?_
  refine lv_iconst (v := nI 0) hx hb dJxc12de_init_da8c8_5 (by decide) ?_
  refine va_put (D := g.1) (ci := 0) (v := .int (nI 0)) (ty := .int) (C := RJx4a65c) (T := TJx4a65c) (N := 3) hx hb hts (q_sub wsJx4a65c0 9 rfl) tyJx4a65c tyJx4a65c_ok nmJx4a65c hown hE.K hP hD hS 0 rfl rfl 0 (by decide) (hts _ (List.mem_of_getElem? (i := 1) rfl)) (fun _ h9 => h9) rfl (by decide +kernel) rfl rfl (Nat.le_of_ble_eq_true rfl) dJxc12de_init_da8c8_6 (fun H locs hP hD hS => ?_)
  have hP : va_P g.1 vwCl (([(al, .inr (0, [.int (nI 0), .null, .int 0]))] : va_W)) H := hP
  have hD : va_D (va_A (([(al, .inr (0, [.int 0, .null, .int 0]))] : va_W)) s.heap.size) (([(al, .inr (0, [.int (nI 0), .null, .int 0]))] : va_W)) := hD
  have hE := hE0.kept hS.2.1
  exact q_wvret (()) hx hb hr hlocks hP hD hS dJxc12de_init_da8c8_9 rfl
set_option maxHeartbeats 4000000 in
set_option maxRecDepth 100000 in
theorem c_alI {l : Launch} {g : gT} {sz : Nat} {al : Nat} : WR (S := Unit) l yJx4a65c_init_da8c8 wsJx4a65c_init_da8c8 ({ frames := 3, cells := 0, slots := 0, locals := 64 } : Room) [.ref al] g (([(al, .inr (0, [.int 0, .null, .int 0]))] : va_W)) sz (fun _ : Unit => ([(al, .inr (0, [.int (nI 0), .ref (gE g), .int 0]))] : va_W)) (fun _ => none) 0 0 := by
  refine WR.of (cc := cJx4a65c_init_da8c8) (maxL := 1) (ret := none) (by decide) rfl (Nat.le_of_ble_eq_true rfl) ?_
  intro p e s m below meth c hx hb hml hr hlocks hown hin0 hts hsz hE0 hP hD ls hl
  subst hsz
  have hown : s.vm.findClass RJx4a65c = some m.cls := hown
  have hin : meth.name = "<init>" := hin0 rfl
  have hA : ∀ q, s.heap.size ≤ q → va_A (([(al, .inr (0, [.int 0, .null, .int 0]))] : va_W)) s.heap.size q := fun q h => Or.inr h
  have hE := hE0
  have hS : va_S (va_A (([(al, .inr (0, [.int 0, .null, .int 0]))] : va_W)) s.heap.size) s.heap s.heap [] := va_S.rf
  have hl : lv_has ls 1 [(0, .ref al)] := hl
  refine lv_aload_n hx hb dJx4a65c_init_da8c8_0 rfl (lv_at hl 0 rfl) ?_
  refine q_wrI (wr := []) (As := []) (rest := []) ⟨hx, hb, hml, hown, hts⟩ (c_abI ) (cwI 0 hts gJx4a65c_init_da8c8_Jxc12de_init_da8c8 rfl rfl rfl (hts _ (List.mem_of_getElem? (i := 5) rfl)) (hts _ (List.mem_of_getElem? (i := 3) rfl)) (hts _ (List.mem_of_getElem? (i := 4) rfl)) rfl (by decide +kernel) ⟨Nat.le_of_ble_eq_true rfl, Nat.le_of_ble_eq_true rfl⟩) hE hP hD hS hA rfl hl.1 rfl (Nat.le_of_ble_eq_true rfl) dJx4a65c_init_da8c8_1 ⟨Nat.le_of_ble_eq_true rfl, Nat.le_of_ble_eq_true rfl⟩ (fun _u H locs hP hD hS hE => ?_)
  have hP : va_P g.1 vwCl (([(al, .inr (0, [.int (nI 0), .null, .int 0]))] : va_W)) H := hP
  have hD : va_D (va_A (([(al, .inr (0, [.int 0, .null, .int 0]))] : va_W)) s.heap.size) (([(al, .inr (0, [.int (nI 0), .null, .int 0]))] : va_W)) := hD
  refine lv_aload_n hx hb dJx4a65c_init_da8c8_4 rfl (lv_at hl 0 rfl) ?_
  refine va_gets (v := .ref (gE g)) hx hb hE0.2.2.2.1 hS hown (hts _ (List.mem_of_getElem? (i := 1) rfl)) (fun _ h9 => h9) dJx4a65c_init_da8c8_5 ?_
  refine va_put (D := g.1) (ci := 0) (v := .ref (gE g)) (ty := .array (.object "java/lang/Object")) (C := RJx4a65c) (T := TJx4a65c) (N := 3) hx hb hts (q_sub wsJx4a65c0 15 rfl) tyJx4a65c tyJx4a65c_ok nmJx4a65c hown hE.K hP hD hS 0 rfl rfl 1 (by decide) (hts _ (List.mem_of_getElem? (i := 2) rfl)) (fun _ h9 => h9) rfl (by decide +kernel) rfl rfl (Nat.le_of_ble_eq_true rfl) dJx4a65c_init_da8c8_8 (fun H locs hP hD hS => ?_)
  have hP : va_P g.1 vwCl (([(al, .inr (0, [.int (nI 0), .ref (gE g), .int 0]))] : va_W)) H := hP
  have hD : va_D (va_A (([(al, .inr (0, [.int 0, .null, .int 0]))] : va_W)) s.heap.size) (([(al, .inr (0, [.int (nI 0), .ref (gE g), .int 0]))] : va_W)) := hD
  have hE := hE0.kept hS.2.1
  exact q_wvret (()) hx hb hr hlocks hP hD hS dJx4a65c_init_da8c8_11 rfl
set_option maxHeartbeats 4000000 in
set_option maxRecDepth 100000 in
theorem c_X3_init {l : Launch} {g : gT} {sz : Nat} {x0 : Nat} : WR (S := Nat × Nat × Nat × Nat × Nat) l yX3_init wsX3_init ({ frames := 4, cells := 5, slots := 234, locals := 84 } : Room) [.ref x0] g (([(x0, .inr (4, [.null, .null, .null]))] : va_W)) sz (fun u : Nat × Nat × Nat × Nat × Nat => wC g (adI x0 u.1 u.2.1 u.2.2.1 u.2.2.2.1 u.2.2.2.2) (nI 0) 0 (fun _ => 0) z0) (fun _ => none) 5 234 := by
  refine WR.of (cc := cX3_init) (maxL := 1) (ret := none) (by decide) rfl (Nat.le_of_ble_eq_true rfl) ?_
  intro p e s m below meth c hx hb hml hr hlocks hown hin0 hts hsz hE0 hP hD ls hl
  subst hsz
  have hown : s.vm.findClass RX3 = some m.cls := hown
  have hin : meth.name = "<init>" := hin0 rfl
  have hA : ∀ q, s.heap.size ≤ q → va_A (([(x0, .inr (4, [.null, .null, .null]))] : va_W)) s.heap.size q := fun q h => Or.inr h
  have hE := hE0
  have hS : va_S (va_A (([(x0, .inr (4, [.null, .null, .null]))] : va_W)) s.heap.size) s.heap s.heap [] := va_S.rf
  have hl : lv_has ls 1 [(0, .ref x0)] := hl
  refine lv_aload_n hx hb dX3_init_0 rfl (lv_at hl 0 rfl) ?_
  refine W.objInit hx hb hown (hts _ (List.mem_of_getElem? (i := 1) rfl)) (hts _ (List.mem_of_getElem? (i := 2) rfl)) (hts _ (List.mem_of_getElem? (i := 3) rfl)) rfl (by rw [hml]; exact hl.1) rfl dX3_init_1 (Nat.le_of_ble_eq_true rfl) (Nat.le_of_ble_eq_true rfl) ?_
  refine W.eq (g2 := F0 m 4 ls []) rfl ?_
  refine lv_aload_n hx hb dX3_init_4 rfl (lv_at hl 0 rfl) ?_
  refine va_new (ci := 1) (fs := [.int 0]) (C := RX0) (T := TX0) (N := 1) hx hb hts (q_sub wsX00 43 rfl) tyX0 tyX0_ok hown (hts _ (List.mem_of_getElem? (i := 4) rfl)) (hts _ (List.mem_of_getElem? (i := 5) rfl)) (hts _ (List.mem_of_getElem? (i := 6) rfl)) hE.K hP hD hS hA rfl (fun j hj => by rcases (show j = 0 by omega) with rfl <;> rfl) (Nat.le_of_ble_eq_true rfl) (Nat.le_of_ble_eq_true rfl) dX3_init_5 (fun c1 H hP hD hS => ?_)
  have hP : va_P g.1 vwCl (([(x0, .inr (4, [.null, .null, .null])), (c1, .inr (1, [.int 0]))] : va_W)) H := hP
  have hD : va_D (va_A (([(x0, .inr (4, [.null, .null, .null]))] : va_W)) s.heap.size) (([(x0, .inr (4, [.null, .null, .null])), (c1, .inr (1, [.int 0]))] : va_W)) := hD
  have hE := hE0.kept hS.2.1
  refine lv_dup hx hb dX3_init_8 rfl ?_
  refine q_wrIN (wr := ([(x0, .inr (4, [.null, .null, .null]))] : va_W)) (As := []) (rest := [.ref c1, .ref x0]) ⟨hx, hb, hml, hown, hts⟩ (c_X0_init (c0 := c1)) ⟨va_cnB 0 hts gX3_init_X0_init_n11 rfl rfl rfl hE.1.2.2.2.2.2.1 (hts _ (List.mem_of_getElem? (i := 6) rfl)) (by decide +kernel) ⟨Nat.le_of_ble_eq_true rfl, Nat.le_of_ble_eq_true rfl⟩, rfl, (hts _ (List.mem_of_getElem? (i := 16) rfl))⟩ hE hP hD hS hA rfl hl.1 rfl (Nat.le_of_ble_eq_true rfl) dX3_init_9 ⟨Nat.le_of_ble_eq_true rfl, Nat.le_of_ble_eq_true rfl⟩ (fun _u H locs hP hD hS hE => ?_)
  have hP : va_P g.1 vwCl (([(x0, .inr (4, [.null, .null, .null])), (c1, .inr (1, [.int (nI 8)]))] : va_W)) H := hP
  have hD : va_D (va_A (([(x0, .inr (4, [.null, .null, .null]))] : va_W)) s.heap.size) (([(x0, .inr (4, [.null, .null, .null])), (c1, .inr (1, [.int (nI 8)]))] : va_W)) := hD
  refine va_putF (D := g.1) (ci := 4) (v := .ref c1) (ty := .object "FlagChips$Codes") (C := RX3) (T := TX3) (N := 3) hx hb hts (q_sub wsX30 44 rfl) tyX3 tyX3_ok nmX3 hown hE.K hP hD hS 0 rfl rfl 0 (by decide) (hts _ (List.mem_of_getElem? (i := 7) rfl)) (fun _ h9 => h9) rfl hin rfl (by decide +kernel) rfl rfl (Nat.le_of_ble_eq_true rfl) dX3_init_12 (fun H locs hP hD hS => ?_)
  have hP : va_P g.1 vwCl (([(x0, .inr (4, [.ref c1, .null, .null])), (c1, .inr (1, [.int (nI 8)]))] : va_W)) H := hP
  have hD : va_D (va_A (([(x0, .inr (4, [.null, .null, .null]))] : va_W)) s.heap.size) (([(x0, .inr (4, [.ref c1, .null, .null])), (c1, .inr (1, [.int (nI 8)]))] : va_W)) := hD
  have hE := hE0.kept hS.2.1
  refine lv_aload_n hx hb dX3_init_15 rfl (lv_at hl 0 rfl) ?_
  refine va_new (ci := 3) (fs := [.null, .null, .null]) (C := RX2) (T := TX2) (N := 3) hx hb hts (q_sub wsX20 47 rfl) tyX2 tyX2_ok hown (hts _ (List.mem_of_getElem? (i := 8) rfl)) (hts _ (List.mem_of_getElem? (i := 9) rfl)) (hts _ (List.mem_of_getElem? (i := 10) rfl)) hE.K hP hD hS hA rfl (fun j hj => by rcases (show j = 0 ∨ j = 1 ∨ j = 2 by omega) with rfl | rfl | rfl <;> rfl) (Nat.le_of_ble_eq_true rfl) (Nat.le_of_ble_eq_true rfl) dX3_init_16 (fun k1 H hP hD hS => ?_)
  have hP : va_P g.1 vwCl (([(x0, .inr (4, [.ref c1, .null, .null])), (c1, .inr (1, [.int (nI 8)])), (k1, .inr (3, [.null, .null, .null]))] : va_W)) H := hP
  have hD : va_D (va_A (([(x0, .inr (4, [.null, .null, .null]))] : va_W)) s.heap.size) (([(x0, .inr (4, [.ref c1, .null, .null])), (c1, .inr (1, [.int (nI 8)])), (k1, .inr (3, [.null, .null, .null]))] : va_W)) := hD
  have hE := hE0.kept hS.2.1
  refine lv_dup hx hb dX3_init_19 rfl ?_
  refine lv_aload_n hx hb dX3_init_20 rfl (lv_at hl 0 rfl) ?_
  refine va_get (v := .ref c1) (C := RX3) (T := TX3) (N := 3) hx hb hts (q_sub wsX30 44 rfl) hown hE.K hP 0 rfl rfl 0 (by decide) (hts _ (List.mem_of_getElem? (i := 7) rfl)) (fun _ h9 => h9) rfl dX3_init_21 ?_
  refine q_wrI (wr := ([(x0, .inr (4, [.ref c1, .null, .null])), (c1, .inr (1, [.int (nI 8)]))] : va_W)) (As := [.ref c1]) (rest := [.ref k1, .ref x0]) ⟨hx, hb, hml, hown, hts⟩ (c_X2_init (k0 := k1) (c0 := c1)) (cwI 1 hts gX3_init_X2_init rfl rfl rfl (hts _ (List.mem_of_getElem? (i := 10) rfl)) (hts _ (List.mem_of_getElem? (i := 20) rfl)) (hts _ (List.mem_of_getElem? (i := 21) rfl)) rfl (by decide +kernel) ⟨Nat.le_of_ble_eq_true rfl, Nat.le_of_ble_eq_true rfl⟩) hE hP hD hS hA rfl hl.1 rfl (Nat.le_of_ble_eq_true rfl) dX3_init_24 ⟨Nat.le_of_ble_eq_true rfl, Nat.le_of_ble_eq_true rfl⟩ (fun ⟨s1, s2⟩ H locs hP hD hS hE => ?_)
  have hP : va_P g.1 vwCl (([(x0, .inr (4, [.ref c1, .null, .null])), (c1, .inr (1, [.int (nI 8)])), (k1, .inr (3, [.ref s1, .ref s2, .ref c1])), (s1, .inl (gI g, 20, .inl (fun _ => 0))), (s2, .inl (gI g, 207, .inl (fun _ => 0)))] : va_W)) H := hP
  have hD : va_D (va_A (([(x0, .inr (4, [.null, .null, .null]))] : va_W)) s.heap.size) (([(x0, .inr (4, [.ref c1, .null, .null])), (c1, .inr (1, [.int (nI 8)])), (k1, .inr (3, [.ref s1, .ref s2, .ref c1])), (s1, .inl (gI g, 20, .inl (fun _ => 0))), (s2, .inl (gI g, 207, .inl (fun _ => 0)))] : va_W)) := hD
  refine va_putF (D := g.1) (ci := 4) (v := .ref k1) (ty := .object "FlagChips$Sky") (C := RX3) (T := TX3) (N := 3) hx hb hts (q_sub wsX30 44 rfl) tyX3 tyX3_ok nmX3 hown hE.K hP hD hS 0 rfl rfl 1 (by decide) (hts _ (List.mem_of_getElem? (i := 11) rfl)) (fun _ h9 => h9) rfl hin rfl (by decide +kernel) rfl rfl (Nat.le_of_ble_eq_true rfl) dX3_init_27 (fun H locs hP hD hS => ?_)
  have hP : va_P g.1 vwCl (([(x0, .inr (4, [.ref c1, .ref k1, .null])), (c1, .inr (1, [.int (nI 8)])), (k1, .inr (3, [.ref s1, .ref s2, .ref c1])), (s1, .inl (gI g, 20, .inl (fun _ => 0))), (s2, .inl (gI g, 207, .inl (fun _ => 0)))] : va_W)) H := hP
  have hD : va_D (va_A (([(x0, .inr (4, [.null, .null, .null]))] : va_W)) s.heap.size) (([(x0, .inr (4, [.ref c1, .ref k1, .null])), (c1, .inr (1, [.int (nI 8)])), (k1, .inr (3, [.ref s1, .ref s2, .ref c1])), (s1, .inl (gI g, 20, .inl (fun _ => 0))), (s2, .inl (gI g, 207, .inl (fun _ => 0)))] : va_W)) := hD
  have hE := hE0.kept hS.2.1
  refine lv_aload_n hx hb dX3_init_30 rfl (lv_at hl 0 rfl) ?_
  refine va_new (ci := 0) (fs := [.int 0, .null, .int 0]) (C := RJx4a65c) (T := TJx4a65c) (N := 3) hx hb hts (q_sub wsJx4a65c0 50 rfl) tyJx4a65c tyJx4a65c_ok hown (hts _ (List.mem_of_getElem? (i := 12) rfl)) (hts _ (List.mem_of_getElem? (i := 13) rfl)) (hts _ (List.mem_of_getElem? (i := 14) rfl)) hE.K hP hD hS hA rfl (fun j hj => by rcases (show j = 0 ∨ j = 1 ∨ j = 2 by omega) with rfl | rfl | rfl <;> rfl) (Nat.le_of_ble_eq_true rfl) (Nat.le_of_ble_eq_true rfl) dX3_init_31 (fun l1 H hP hD hS => ?_)
  have hP : va_P g.1 vwCl (([(x0, .inr (4, [.ref c1, .ref k1, .null])), (c1, .inr (1, [.int (nI 8)])), (k1, .inr (3, [.ref s1, .ref s2, .ref c1])), (s1, .inl (gI g, 20, .inl (fun _ => 0))), (s2, .inl (gI g, 207, .inl (fun _ => 0))), (l1, .inr (0, [.int 0, .null, .int 0]))] : va_W)) H := hP
  have hD : va_D (va_A (([(x0, .inr (4, [.null, .null, .null]))] : va_W)) s.heap.size) (([(x0, .inr (4, [.ref c1, .ref k1, .null])), (c1, .inr (1, [.int (nI 8)])), (k1, .inr (3, [.ref s1, .ref s2, .ref c1])), (s1, .inl (gI g, 20, .inl (fun _ => 0))), (s2, .inl (gI g, 207, .inl (fun _ => 0))), (l1, .inr (0, [.int 0, .null, .int 0]))] : va_W)) := hD
  have hE := hE0.kept hS.2.1
  refine lv_dup hx hb dX3_init_34 rfl ?_
  refine q_wrI (wr := ([(x0, .inr (4, [.ref c1, .ref k1, .null])), (c1, .inr (1, [.int (nI 8)])), (k1, .inr (3, [.ref s1, .ref s2, .ref c1])), (s1, .inl (gI g, 20, .inl (fun _ => 0))), (s2, .inl (gI g, 207, .inl (fun _ => 0)))] : va_W)) (As := []) (rest := [.ref l1, .ref x0]) ⟨hx, hb, hml, hown, hts⟩ (c_alI (al := l1)) (cwI 0 hts gX3_init_Jx4a65c_init_da8c8 rfl rfl rfl (hts _ (List.mem_of_getElem? (i := 14) rfl)) (hts _ (List.mem_of_getElem? (i := 28) rfl)) (hts _ (List.mem_of_getElem? (i := 29) rfl)) rfl (by decide +kernel) ⟨Nat.le_of_ble_eq_true rfl, Nat.le_of_ble_eq_true rfl⟩) hE hP hD hS hA rfl hl.1 rfl (Nat.le_of_ble_eq_true rfl) dX3_init_35 ⟨Nat.le_of_ble_eq_true rfl, Nat.le_of_ble_eq_true rfl⟩ (fun _u H locs hP hD hS hE => ?_)
  have hP : va_P g.1 vwCl (([(x0, .inr (4, [.ref c1, .ref k1, .null])), (c1, .inr (1, [.int (nI 8)])), (k1, .inr (3, [.ref s1, .ref s2, .ref c1])), (s1, .inl (gI g, 20, .inl (fun _ => 0))), (s2, .inl (gI g, 207, .inl (fun _ => 0))), (l1, .inr (0, [.int (nI 0), .ref (gE g), .int 0]))] : va_W)) H := hP
  have hD : va_D (va_A (([(x0, .inr (4, [.null, .null, .null]))] : va_W)) s.heap.size) (([(x0, .inr (4, [.ref c1, .ref k1, .null])), (c1, .inr (1, [.int (nI 8)])), (k1, .inr (3, [.ref s1, .ref s2, .ref c1])), (s1, .inl (gI g, 20, .inl (fun _ => 0))), (s2, .inl (gI g, 207, .inl (fun _ => 0))), (l1, .inr (0, [.int (nI 0), .ref (gE g), .int 0]))] : va_W)) := hD
  refine va_putF (D := g.1) (ci := 4) (v := .ref l1) (ty := .object "java/util/ArrayList") (C := RX3) (T := TX3) (N := 3) hx hb hts (q_sub wsX30 44 rfl) tyX3 tyX3_ok nmX3 hown hE.K hP hD hS 0 rfl rfl 2 (by decide) (hts _ (List.mem_of_getElem? (i := 15) rfl)) (fun _ h9 => h9) rfl hin rfl (by decide +kernel) rfl rfl (Nat.le_of_ble_eq_true rfl) dX3_init_38 (fun H locs hP hD hS => ?_)
  have hP : va_P g.1 vwCl (([(x0, .inr (4, [.ref c1, .ref k1, .ref l1])), (c1, .inr (1, [.int (nI 8)])), (k1, .inr (3, [.ref s1, .ref s2, .ref c1])), (s1, .inl (gI g, 20, .inl (fun _ => 0))), (s2, .inl (gI g, 207, .inl (fun _ => 0))), (l1, .inr (0, [.int (nI 0), .ref (gE g), .int 0]))] : va_W)) H := hP
  have hD : va_D (va_A (([(x0, .inr (4, [.null, .null, .null]))] : va_W)) s.heap.size) (([(x0, .inr (4, [.ref c1, .ref k1, .ref l1])), (c1, .inr (1, [.int (nI 8)])), (k1, .inr (3, [.ref s1, .ref s2, .ref c1])), (s1, .inl (gI g, 20, .inl (fun _ => 0))), (s2, .inl (gI g, 207, .inl (fun _ => 0))), (l1, .inr (0, [.int (nI 0), .ref (gE g), .int 0]))] : va_W)) := hD
  have hE := hE0.kept hS.2.1
  exact q_wvret ((c1, k1, s1, s2, l1)) hx hb hr hlocks hP hD hS dX3_init_41 rfl
