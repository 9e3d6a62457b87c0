/-! ===== the table of codes; a row more; the sky; a new picture ===== -/
theorem tab1P {g : gT} {q q2 : Nat} {D : va_G} {cl : List vw_C} {H : Heap} (hP : va_P D cl [(q, refs g 1 (va_up (fun _ => none) 0 (some q2))), (q2, ints g 1 (upd (fun _ => 0) 0 (nI 1)))] H) : va_P D cl ((q, refs g 1 (rfF (fun _ => q2) 1)) :: tRows g 1 (fun _ => q2) chip) H := by
  rw [q_Pi] at hP ⊢
  intro x hx
  rcases List.mem_cons.mp hx with rfl | hx
  · have h := hP _ List.mem_cons_self
    rw [rfF_0 (r := fun _ => q2), rfF_s rfl] at h
    exact h
  · obtain ⟨i, hi, rfl⟩ := List.mem_map.mp hx
    have hi := List.mem_range.mp hi
    refine q_ext (fun j hj => ?_) (hP _ (List.mem_cons_of_mem _ List.mem_cons_self))
    obtain rfl : i = 0 := by omega
    obtain rfl : j = 0 := by omega
    exact chip00
theorem tab1D {g : gT} {q q2 : Nat} {A : Nat → Prop} (hD : va_D A [(q, refs g 1 (va_up (fun _ => none) 0 (some q2))), (q2, ints g 1 (upd (fun _ => 0) 0 (nI 1)))]) : va_D A ((q, refs g 1 (rfF (fun _ => q2) 1)) :: tRows g 1 (fun _ => q2) chip) := q_Dmap (by simp [tRows, List.range_succ]) hD
set_option maxHeartbeats 4000000 in
set_option maxRecDepth 100000 in
theorem c_tab1 {l : Launch} {g : gT} {sz : Nat}  : NW (S := Nat × (Nat → Nat)) l yX4_table wsX4_table ({ frames := 0, cells := 2, slots := 2, locals := 0 } : Room) [.int (nI 1)] g (fun H => True) sz (fun u : Nat × (Nat → Nat) => (u.1, refs g 1 (rfF u.2 1)) :: tRows g 1 u.2 chip) (fun u => some (.ref u.1)) 2 2 := by
  refine NW.of (cc := cX4_table) (maxL := 5) (ret := (some (.array (.array .int)))) (by decide) rfl (Nat.le_of_ble_eq_true rfl) ?_
  intro p e s m below meth c hx hb hml hr hlocks hown hin0 hts hsz hE0 hF ls hl
  subst hsz
  have hown : s.vm.findClass RX4 = some m.cls := hown
  have hA : ∀ q, s.heap.size ≤ q → va_A [] s.heap.size q := fun q h => Or.inr h
  have hE := hE0
  have hS : va_S (va_A [] s.heap.size) s.heap s.heap [] := va_S.rf
  have hP : va_P g.1 vwCl [] s.heap := q_Pnil
  have hD : va_D (va_A [] s.heap.size) [] := q_Dnil
  have hl : lv_has ls 5 [(0, .int (nI 1))] := hl
  refine lv_iload_n hx hb dX4_table_0 rfl (lv_at hl 0 rfl) ?_
  refine lv_iconst (v := nI 1) hx hb dX4_table_1 (by decide) ?_
  refine q_icmp_ne (tgt := 20) hx hb (by omega) (by omega) dX4_table_2 (by decide) (fun c_1 => ?_) (fun c_1 => ?_)
  · exact absurd rfl c_1
  · refine lv_iconst (v := nI 1) hx hb dX4_table_5 (by decide) ?_
    refine q_newA (n := 1) hx hb hown (hts _ (List.mem_of_getElem? (i := 1) rfl)) hE hP hD hS hA (by omega) (Nat.le_of_ble_eq_true rfl) (Nat.le_of_ble_eq_true rfl) dX4_table_6 (fun q H hP hD hS => ?_)
    have hP : va_P g.1 vwCl ([(q, refs g 1 (fun _ => none))]) H := hP
    have hD : va_D (va_A [] s.heap.size) ([(q, refs g 1 (fun _ => none))]) := hD
    have hE := hE0.kept hS.2.1
    refine lv_dup hx hb dX4_table_9 rfl ?_
    refine lv_iconst (v := nI 0) hx hb dX4_table_10 (by decide) ?_
    refine lv_iconst (v := nI 1) hx hb dX4_table_11 (by decide) ?_
    refine q_newI (n := 1) hx hb (hts _ (List.mem_of_getElem? (i := 2) rfl)) hE hP hD hS hA (by omega) (Nat.le_of_ble_eq_true rfl) (Nat.le_of_ble_eq_true rfl) dX4_table_12 (fun q2 H hP hD hS => ?_)
    have hP : va_P g.1 vwCl ([(q, refs g 1 (fun _ => none)), (q2, ints g 1 (fun _ => 0))]) H := hP
    have hD : va_D (va_A [] s.heap.size) ([(q, refs g 1 (fun _ => none)), (q2, ints g 1 (fun _ => 0))]) := hD
    have hE := hE0.kept hS.2.1
    refine lv_dup hx hb dX4_table_14 rfl ?_
    refine lv_iconst (v := nI 0) hx hb dX4_table_15 (by decide) ?_
    refine lv_iconst (v := nI 1) hx hb dX4_table_16 (by decide) ?_
    refine q_iast hx hb hE hP hD hS (q0 := 1) rfl (by omega) (by omega) dX4_table_17 (fun H locs hP hD hS => ?_)
    have hP : va_P g.1 vwCl ([(q, refs g 1 (fun _ => none)), (q2, ints g 1 (upd (fun _ => 0) 0 (nI 1)))]) H := hP
    have hD : va_D (va_A [] s.heap.size) ([(q, refs g 1 (fun _ => none)), (q2, ints g 1 (upd (fun _ => 0) 0 (nI 1)))]) := hD
    have hE := hE0.kept hS.2.1
    refine q_aastA (q0 := 0) hx hb hE hP hD hS rfl (hP 1 _ rfl) (by omega) (by omega) dX4_table_18 (fun H locs hP hD hS => ?_)
    have hP : va_P g.1 vwCl ((q, refs g 1 (rfF (fun _ => q2) 1)) :: tRows g 1 (fun _ => q2) chip) H := tab1P hP
    have hD : va_D (va_A [] s.heap.size) ((q, refs g 1 (rfF (fun _ => q2) 1)) :: tRows g 1 (fun _ => q2) chip) := tab1D hD
    have hE := hE0.kept hS.2.1
    exact q_waret ((q, fun _ => q2)) hx hb hr (Or.inr ⟨_, rfl⟩) hlocks hP hD hS dX4_table_19 rfl
set_option maxHeartbeats 4000000 in
set_option maxRecDepth 100000 in
theorem c_tab2 {l : Launch} {g : gT} {sz : Nat}  : NW (S := Nat × (Nat → Nat)) l yX4_table wsX4_table ({ frames := 1, cells := 5, slots := 8, locals := 24 } : Room) [.int (nI 2)] g (fun H => True) sz (fun u : Nat × (Nat → Nat) => (u.1, refs g 2 (rfF u.2 2)) :: tRows g 2 u.2 chip) (fun u => some (.ref u.1)) 5 8 := by
  refine NW.of (cc := cX4_table) (maxL := 5) (ret := (some (.array (.array .int)))) (by decide) rfl (Nat.le_of_ble_eq_true rfl) ?_
  intro p e s m below meth c hx hb hml hr hlocks hown hin0 hts hsz hE0 hF ls hl
  subst hsz
  have hown : s.vm.findClass RX4 = some m.cls := hown
  have hA : ∀ q, s.heap.size ≤ q → va_A [] s.heap.size q := fun q h => Or.inr h
  have hE := hE0
  have hS : va_S (va_A [] s.heap.size) s.heap s.heap [] := va_S.rf
  have hP : va_P g.1 vwCl [] s.heap := q_Pnil
  have hD : va_D (va_A [] s.heap.size) [] := q_Dnil
  have hl : lv_has ls 5 [(0, .int (nI 2))] := hl
  refine lv_iload_n hx hb dX4_table_0 rfl (lv_at hl 0 rfl) ?_
  refine lv_iconst (v := nI 1) hx hb dX4_table_1 (by decide) ?_
  refine q_icmp_ne (tgt := 20) hx hb (by omega) (by omega) dX4_table_2 (by decide) (fun c_0 => ?_) (fun c_0 => ?_)
  · refine lv_iload_n hx hb dX4_table_20 rfl (lv_at hl 0 rfl) ?_
    refine lv_iconst (v := nI 2) hx hb dX4_table_21 (by decide) ?_
    refine q_idiv (v := nI 1) hx hb dX4_table_22 (by decide) (by decide) ?_
    refine q_nwS (wr := []) (As := [.int (nI 1)]) (rest := []) ⟨hx, hb, hml, hown, hts⟩ (c_tab1 ) (va_cwS 1 hts gX4_table_X4_table rfl rfl rfl (by decide +kernel) ⟨Nat.le_of_ble_eq_true rfl, Nat.le_of_ble_eq_true rfl⟩) hE hP hD hS hA trivial rfl hl.1 rfl (Nat.le_of_ble_eq_true rfl) dX4_table_23 ⟨Nat.le_of_ble_eq_true rfl, Nat.le_of_ble_eq_true rfl⟩ (fun u_ H locs hP hD hS hE => ?_)
    have hP : va_P g.1 vwCl ((u_.1, refs g 1 (rfF u_.2 1)) :: tRows g 1 u_.2 chip) H := hP
    have hD : va_D (va_A [] s.heap.size) ((u_.1, refs g 1 (rfF u_.2 1)) :: tRows g 1 u_.2 chip) := hD
    refine lv_astore_n (lv' := [(1, .ref u_.1), (0, .int (nI 2))]) hx hb dX4_table_26 rfl hl (by decide) rfl (fun ls hl => ?_)
    refine lv_iload_n hx hb dX4_table_27 rfl (lv_at hl 1 rfl) ?_
    refine lv_iload_n hx hb dX4_table_28 rfl (lv_at hl 1 rfl) ?_
    refine q_mna (N := 2) hx hb hown (hts _ (List.mem_of_getElem? (i := 3) rfl)) (hts _ (List.mem_of_getElem? (i := 2) rfl)) hE hP hD hS hA (by omega) (Nat.le_of_ble_eq_true rfl) (Nat.le_of_ble_eq_true rfl) dX4_table_29 (fun q r H hP hD hS => ?_)
    have hP : va_P g.1 vwCl (tW g 1 2 u_.1 q u_.2 r chip (tbF 0 0)) H := (fun h => tbF_0 ▸ h) hP
    have hD : va_D (va_A [] s.heap.size) (tW g 1 2 u_.1 q u_.2 r chip (tbF 0 0)) := (fun h => tbF_0 ▸ h) hD
    have hE := hE0.kept hS.2.1
    refine lv_astore_n (lv' := [(2, .ref q), (1, .ref u_.1), (0, .int (nI 2))]) hx hb dX4_table_33 rfl hl (by decide) rfl (fun ls hl => ?_)
    refine lv_iconst (v := nI 0) hx hb dX4_table_34 (by decide) ?_
    refine lv_istore_n (lv' := [(3, .int (nI 0)), (2, .ref q), (1, .ref u_.1), (0, .int (nI 2))]) hx hb dX4_table_35 rfl hl (by decide) rfl (fun ls hl => ?_)
    have lp_36 : ∀ (n_ i : Nat) , i ≤ 2 → 2 + 1 ≤ i + n_ → ∀ (H : Heap) (locs : List Loc), va_P g.1 vwCl (tW g 1 2 u_.1 q u_.2 r chip (tbF i 0)) H → va_D (va_A [] s.heap.size) (tW g 1 2 u_.1 q u_.2 r chip (tbF i 0)) → va_S (va_A [] s.heap.size) s.heap H locs → Ev g (va_A [] s.heap.size) s H → ∀ (ls : Array Slot), lv_has ls 5 [(3, .int (nI i)), (0, .int (nI 2)), (1, .ref u_.1), (2, .ref q)] → W p l e ({ frames := 1, cells := 5, slots := 8, locals := 24 } : Room) s m ([.int (nI 2)] : List Value).toArray below meth c H locs (0 + 2 + 1 + 2) (0 + 2 + 2 + 2 * 2) (MQ below (q_Qw (fun u : Nat × (Nat → Nat) => (u.1, refs g 2 (rfF u.2 2)) :: tRows g 2 u.2 chip) (fun u => some (.ref u.1)) g [] s.heap.size) ([.int (nI 2)] : List Value).toArray s 5 8 (va_A [] s.heap.size)) (F0 m 36 ls []) := by
      intro n_
      induction n_ with
      | zero => intro i  hi_ hn_; exact absurd hn_ (by omega)
      | succ n_ ih_36 =>
        intro i  hi_i hn_i  H locs hP hD hS hE ls hl
        refine lv_iload_n hx hb dX4_table_36 rfl (lv_at hl 0 rfl) ?_
        refine lv_iload_n hx hb dX4_table_37 rfl (lv_at hl 1 rfl) ?_
        refine q_icmp_ge (tgt := 99) hx hb (by omega) (by omega) dX4_table_38 (by decide) (fun c_1 => ?_) (fun c_1 => ?_)
        · have ei : i = 2 := by omega
          rw [ei] at hP hD
          have hP := tbF_end hP
          have hD := tbF_endD hD
          refine lv_aload_n hx hb dX4_table_99 rfl (lv_at hl 3 rfl) ?_
          exact q_waret ((q, r)) hx hb hr (Or.inr ⟨_, rfl⟩) hlocks hP hD hS dX4_table_100 rfl
        · refine lv_iconst (v := nI 0) hx hb dX4_table_41 (by decide) ?_
          refine lv_istore (lv' := [(4, .int (nI 0)), (3, .int (nI i)), (0, .int (nI 2)), (1, .ref u_.1), (2, .ref q)]) hx hb dX4_table_42 hl (by decide) rfl (fun ls hl => ?_)
          have lp_44 : ∀ (n_ j : Nat) , j ≤ 2 → 2 + 1 ≤ j + n_ → ∀ (H : Heap) (locs : List Loc), va_P g.1 vwCl (tW g 1 2 u_.1 q u_.2 r chip (tbF i j)) H → va_D (va_A [] s.heap.size) (tW g 1 2 u_.1 q u_.2 r chip (tbF i j)) → va_S (va_A [] s.heap.size) s.heap H locs → Ev g (va_A [] s.heap.size) s H → ∀ (ls : Array Slot), lv_has ls 5 [(4, .int (nI j)), (3, .int (nI i)), (0, .int (nI 2)), (1, .ref u_.1), (2, .ref q)] → W p l e ({ frames := 1, cells := 5, slots := 8, locals := 24 } : Room) s m ([.int (nI 2)] : List Value).toArray below meth c H locs (0 + 2 + 1 + 2) (0 + 2 + 2 + 2 * 2) (MQ below (q_Qw (fun u : Nat × (Nat → Nat) => (u.1, refs g 2 (rfF u.2 2)) :: tRows g 2 u.2 chip) (fun u => some (.ref u.1)) g [] s.heap.size) ([.int (nI 2)] : List Value).toArray s 5 8 (va_A [] s.heap.size)) (F0 m 44 ls []) := by
            intro n_
            induction n_ with
            | zero => intro j  hi_ hn_; exact absurd hn_ (by omega)
            | succ n_ ih_44 =>
              intro j  hi_j hn_j  H locs hP hD hS hE ls hl
              refine lv_iload hx hb dX4_table_44 (lv_at hl 0 rfl) ?_
              refine lv_iload_n hx hb dX4_table_46 rfl (lv_at hl 2 rfl) ?_
              refine q_icmp_ge (tgt := 93) hx hb (by omega) (by omega) dX4_table_47 (by decide) (fun c_2 => ?_) (fun c_2 => ?_)
              · have ej : j = 2 := by omega
                rw [ej] at hP hD
                have hP := tbF_next hP
                have hD := tbF_nextD hD
                refine lv_iinc (v := nI (i + 1)) (lv' := [(3, .int (nI (i + 1))), (4, .int (nI j)), (0, .int (nI 2)), (1, .ref u_.1), (2, .ref q)]) hx hb dX4_table_93 hl (k := 1) rfl (nI_1 _) (by decide) rfl (fun ls hl => ?_)
                refine lv_goto (tgt := 36) hx hb dX4_table_96 (by decide) ?_
                exact ih_36 (i + 1)  (by omega) (by omega)  _ _ hP hD hS hE _ (lv_sub hl [0, 2, 3, 4] rfl)
              · refine lv_aload_n hx hb dX4_table_50 rfl (lv_at hl 4 rfl) ?_
                refine lv_iload_n hx hb dX4_table_51 rfl (lv_at hl 1 rfl) ?_
                refine q_aldA (n := 2) (r := r i) hx hb hE (hP _ _ tW_o) (by omega) (by omega) dX4_table_52 (rfF_lt (by omega)) ?_
                refine lv_iload hx hb dX4_table_53 (lv_at hl 0 rfl) ?_
                refine lv_aload_n hx hb dX4_table_55 rfl (lv_at hl 3 rfl) ?_
                refine lv_iload_n hx hb dX4_table_56 rfl (lv_at hl 1 rfl) ?_
                refine lv_aload_n hx hb dX4_table_57 rfl (lv_at hl 3 rfl) ?_
                refine q_alenA (v := nI 1) hx hb hE (hP 0 _ rfl) dX4_table_58 rfl ?_
                refine q_irem (v := nI (i % 1)) hx hb dX4_table_59 (by decide) (q_rem (by omega) (by omega) (by omega)) ?_
                refine q_aldA (n := 1) (r := u_.2 (i % 1)) hx hb hE (hP 0 _ rfl) (by omega) (by omega) dX4_table_60 (rfF_lt (by omega)) ?_
                refine lv_iload hx hb dX4_table_61 (lv_at hl 0 rfl) ?_
                refine lv_aload_n hx hb dX4_table_63 rfl (lv_at hl 3 rfl) ?_
                refine q_alenA (v := nI 1) hx hb hE (hP 0 _ rfl) dX4_table_64 rfl ?_
                refine q_irem (v := nI (j % 1)) hx hb dX4_table_65 (by decide) (q_rem (by omega) (by omega) (by omega)) ?_
                refine q_iald (v := (chip (i % 1)) (j % 1)) hx hb hE (hP _ _ (tW_h (by omega))) (by omega) (by omega) dX4_table_66 rfl ?_
                refine lv_iload_n hx hb dX4_table_67 rfl (lv_at hl 1 rfl) ?_
                refine lv_aload_n hx hb dX4_table_68 rfl (lv_at hl 3 rfl) ?_
                refine q_alenA (v := nI 1) hx hb hE (hP 0 _ rfl) dX4_table_69 rfl ?_
                refine q_icmp_lt (tgt := 84) hx hb (by omega) (by omega) dX4_table_70 (by decide) (fun c_3 => ?_) (fun c_3 => ?_)
                · refine lv_iconst (v := nI 1) hx hb dX4_table_84 (by decide) ?_
                  refine q_imul (v := chip i j) hx hb dX4_table_85 (tab_p 1 (by decide) i (by omega) j (by omega) (by omega)) ?_
                  refine q_iast hx hb hE hP hD hS (q0 := (1 + 2 + i)) (tW_r (by omega)) (by omega) (by omega) dX4_table_86 (fun H locs hP hD hS => ?_)
                  have hP : va_P g.1 vwCl (tW g 1 2 u_.1 q u_.2 r chip (tbF i (j + 1))) H := (fun h => by rw [tW_set, tbF_s] at h; exact h) hP
                  have hD : va_D (va_A [] s.heap.size) (tW g 1 2 u_.1 q u_.2 r chip (tbF i (j + 1))) := (fun h => by rw [tW_set, tbF_s] at h; exact h) hD
                  have hE := hE0.kept hS.2.1
                  refine lv_iinc (v := nI (j + 1)) (lv' := [(4, .int (nI (j + 1))), (3, .int (nI i)), (0, .int (nI 2)), (1, .ref u_.1), (2, .ref q)]) hx hb dX4_table_87 hl (k := 0) rfl (nI_1 _) (by decide) rfl (fun ls hl => ?_)
                  refine lv_goto (tgt := 44) hx hb dX4_table_90 (by decide) ?_
                  exact ih_44 (j + 1)  (by omega) (by omega)  _ _ hP hD hS hE _ (lv_sub hl [0, 1, 2, 3, 4] rfl)
                · refine lv_iload hx hb dX4_table_73 (lv_at hl 0 rfl) ?_
                  refine lv_aload_n hx hb dX4_table_75 rfl (lv_at hl 3 rfl) ?_
                  refine q_alenA (v := nI 1) hx hb hE (hP 0 _ rfl) dX4_table_76 rfl ?_
                  refine q_icmp_lt (tgt := 84) hx hb (by omega) (by omega) dX4_table_77 (by decide) (fun c_4 => ?_) (fun c_4 => ?_)
                  · refine lv_iconst (v := nI 1) hx hb dX4_table_84 (by decide) ?_
                    refine q_imul (v := chip i j) hx hb dX4_table_85 (tab_p 1 (by decide) i (by omega) j (by omega) (by omega)) ?_
                    refine q_iast hx hb hE hP hD hS (q0 := (1 + 2 + i)) (tW_r (by omega)) (by omega) (by omega) dX4_table_86 (fun H locs hP hD hS => ?_)
                    have hP : va_P g.1 vwCl (tW g 1 2 u_.1 q u_.2 r chip (tbF i (j + 1))) H := (fun h => by rw [tW_set, tbF_s] at h; exact h) hP
                    have hD : va_D (va_A [] s.heap.size) (tW g 1 2 u_.1 q u_.2 r chip (tbF i (j + 1))) := (fun h => by rw [tW_set, tbF_s] at h; exact h) hD
                    have hE := hE0.kept hS.2.1
                    refine lv_iinc (v := nI (j + 1)) (lv' := [(4, .int (nI (j + 1))), (3, .int (nI i)), (0, .int (nI 2)), (1, .ref u_.1), (2, .ref q)]) hx hb dX4_table_87 hl (k := 0) rfl (nI_1 _) (by decide) rfl (fun ls hl => ?_)
                    refine lv_goto (tgt := 44) hx hb dX4_table_90 (by decide) ?_
                    exact ih_44 (j + 1)  (by omega) (by omega)  _ _ hP hD hS hE _ (lv_sub hl [0, 1, 2, 3, 4] rfl)
                  · refine lv_iconst (v := (-1 : Int32)) hx hb dX4_table_80 (by decide) ?_
                    refine lv_goto (tgt := 85) hx hb dX4_table_81 (by decide) ?_
                    refine q_imul (v := chip i j) hx hb dX4_table_85 (tab_n 1 (by decide) i (by omega) j (by omega) (by omega) (by omega)) ?_
                    refine q_iast hx hb hE hP hD hS (q0 := (1 + 2 + i)) (tW_r (by omega)) (by omega) (by omega) dX4_table_86 (fun H locs hP hD hS => ?_)
                    have hP : va_P g.1 vwCl (tW g 1 2 u_.1 q u_.2 r chip (tbF i (j + 1))) H := (fun h => by rw [tW_set, tbF_s] at h; exact h) hP
                    have hD : va_D (va_A [] s.heap.size) (tW g 1 2 u_.1 q u_.2 r chip (tbF i (j + 1))) := (fun h => by rw [tW_set, tbF_s] at h; exact h) hD
                    have hE := hE0.kept hS.2.1
                    refine lv_iinc (v := nI (j + 1)) (lv' := [(4, .int (nI (j + 1))), (3, .int (nI i)), (0, .int (nI 2)), (1, .ref u_.1), (2, .ref q)]) hx hb dX4_table_87 hl (k := 0) rfl (nI_1 _) (by decide) rfl (fun ls hl => ?_)
                    refine lv_goto (tgt := 44) hx hb dX4_table_90 (by decide) ?_
                    exact ih_44 (j + 1)  (by omega) (by omega)  _ _ hP hD hS hE _ (lv_sub hl [0, 1, 2, 3, 4] rfl)
          
          exact lp_44 (2 + 1) 0  (Nat.zero_le _) (by omega)  _ _ hP hD hS hE _ (lv_sub hl [0, 1, 2, 3, 4] rfl)
    
    exact lp_36 (2 + 1) 0  (Nat.zero_le _) (by omega)  _ _ hP hD hS hE _ (lv_sub hl [0, 3, 2, 1] rfl)
  · exact absurd c_0 (by decide)
set_option maxHeartbeats 4000000 in
set_option maxRecDepth 100000 in
theorem c_tab4 {l : Launch} {g : gT} {sz : Nat}  : NW (S := Nat × (Nat → Nat)) l yX4_table wsX4_table ({ frames := 2, cells := 10, slots := 28, locals := 48 } : Room) [.int (nI 4)] g (fun H => True) sz (fun u : Nat × (Nat → Nat) => (u.1, refs g 4 (rfF u.2 4)) :: tRows g 4 u.2 chip) (fun u => some (.ref u.1)) 10 28 := by
  refine NW.of (cc := cX4_table) (maxL := 5) (ret := (some (.array (.array .int)))) (by decide) rfl (Nat.le_of_ble_eq_true rfl) ?_
  intro p e s m below meth c hx hb hml hr hlocks hown hin0 hts hsz hE0 hF ls hl
  subst hsz
  have hown : s.vm.findClass RX4 = some m.cls := hown
  have hA : ∀ q, s.heap.size ≤ q → va_A [] s.heap.size q := fun q h => Or.inr h
  have hE := hE0
  have hS : va_S (va_A [] s.heap.size) s.heap s.heap [] := va_S.rf
  have hP : va_P g.1 vwCl [] s.heap := q_Pnil
  have hD : va_D (va_A [] s.heap.size) [] := q_Dnil
  have hl : lv_has ls 5 [(0, .int (nI 4))] := hl
  refine lv_iload_n hx hb dX4_table_0 rfl (lv_at hl 0 rfl) ?_
  refine lv_iconst (v := nI 1) hx hb dX4_table_1 (by decide) ?_
  refine q_icmp_ne (tgt := 20) hx hb (by omega) (by omega) dX4_table_2 (by decide) (fun c_0 => ?_) (fun c_0 => ?_)
  · refine lv_iload_n hx hb dX4_table_20 rfl (lv_at hl 0 rfl) ?_
    refine lv_iconst (v := nI 2) hx hb dX4_table_21 (by decide) ?_
    refine q_idiv (v := nI 2) hx hb dX4_table_22 (by decide) (by decide) ?_
    refine q_nwS (wr := []) (As := [.int (nI 2)]) (rest := []) ⟨hx, hb, hml, hown, hts⟩ (c_tab2 ) (va_cwS 1 hts gX4_table_X4_table rfl rfl rfl (by decide +kernel) ⟨Nat.le_of_ble_eq_true rfl, Nat.le_of_ble_eq_true rfl⟩) hE hP hD hS hA trivial rfl hl.1 rfl (Nat.le_of_ble_eq_true rfl) dX4_table_23 ⟨Nat.le_of_ble_eq_true rfl, Nat.le_of_ble_eq_true rfl⟩ (fun u_ H locs hP hD hS hE => ?_)
    have hP : va_P g.1 vwCl ((u_.1, refs g 2 (rfF u_.2 2)) :: tRows g 2 u_.2 chip) H := hP
    have hD : va_D (va_A [] s.heap.size) ((u_.1, refs g 2 (rfF u_.2 2)) :: tRows g 2 u_.2 chip) := hD
    refine lv_astore_n (lv' := [(1, .ref u_.1), (0, .int (nI 4))]) hx hb dX4_table_26 rfl hl (by decide) rfl (fun ls hl => ?_)
    refine lv_iload_n hx hb dX4_table_27 rfl (lv_at hl 1 rfl) ?_
    refine lv_iload_n hx hb dX4_table_28 rfl (lv_at hl 1 rfl) ?_
    refine q_mna (N := 4) hx hb hown (hts _ (List.mem_of_getElem? (i := 3) rfl)) (hts _ (List.mem_of_getElem? (i := 2) rfl)) hE hP hD hS hA (by omega) (Nat.le_of_ble_eq_true rfl) (Nat.le_of_ble_eq_true rfl) dX4_table_29 (fun q r H hP hD hS => ?_)
    have hP : va_P g.1 vwCl (tW g 2 4 u_.1 q u_.2 r chip (tbF 0 0)) H := (fun h => tbF_0 ▸ h) hP
    have hD : va_D (va_A [] s.heap.size) (tW g 2 4 u_.1 q u_.2 r chip (tbF 0 0)) := (fun h => tbF_0 ▸ h) hD
    have hE := hE0.kept hS.2.1
    refine lv_astore_n (lv' := [(2, .ref q), (1, .ref u_.1), (0, .int (nI 4))]) hx hb dX4_table_33 rfl hl (by decide) rfl (fun ls hl => ?_)
    refine lv_iconst (v := nI 0) hx hb dX4_table_34 (by decide) ?_
    refine lv_istore_n (lv' := [(3, .int (nI 0)), (2, .ref q), (1, .ref u_.1), (0, .int (nI 4))]) hx hb dX4_table_35 rfl hl (by decide) rfl (fun ls hl => ?_)
    have lp_36 : ∀ (n_ i : Nat) , i ≤ 4 → 4 + 1 ≤ i + n_ → ∀ (H : Heap) (locs : List Loc), va_P g.1 vwCl (tW g 2 4 u_.1 q u_.2 r chip (tbF i 0)) H → va_D (va_A [] s.heap.size) (tW g 2 4 u_.1 q u_.2 r chip (tbF i 0)) → va_S (va_A [] s.heap.size) s.heap H locs → Ev g (va_A [] s.heap.size) s H → ∀ (ls : Array Slot), lv_has ls 5 [(3, .int (nI i)), (0, .int (nI 4)), (1, .ref u_.1), (2, .ref q)] → W p l e ({ frames := 2, cells := 10, slots := 28, locals := 48 } : Room) s m ([.int (nI 4)] : List Value).toArray below meth c H locs (0 + 5 + 1 + 4) (0 + 8 + 4 + 4 * 4) (MQ below (q_Qw (fun u : Nat × (Nat → Nat) => (u.1, refs g 4 (rfF u.2 4)) :: tRows g 4 u.2 chip) (fun u => some (.ref u.1)) g [] s.heap.size) ([.int (nI 4)] : List Value).toArray s 10 28 (va_A [] s.heap.size)) (F0 m 36 ls []) := by
      intro n_
      induction n_ with
      | zero => intro i  hi_ hn_; exact absurd hn_ (by omega)
      | succ n_ ih_36 =>
        intro i  hi_i hn_i  H locs hP hD hS hE ls hl
        refine lv_iload_n hx hb dX4_table_36 rfl (lv_at hl 0 rfl) ?_
        refine lv_iload_n hx hb dX4_table_37 rfl (lv_at hl 1 rfl) ?_
        refine q_icmp_ge (tgt := 99) hx hb (by omega) (by omega) dX4_table_38 (by decide) (fun c_1 => ?_) (fun c_1 => ?_)
        · have ei : i = 4 := by omega
          rw [ei] at hP hD
          have hP := tbF_end hP
          have hD := tbF_endD hD
          refine lv_aload_n hx hb dX4_table_99 rfl (lv_at hl 3 rfl) ?_
          exact q_waret ((q, r)) hx hb hr (Or.inr ⟨_, rfl⟩) hlocks hP hD hS dX4_table_100 rfl
        · refine lv_iconst (v := nI 0) hx hb dX4_table_41 (by decide) ?_
          refine lv_istore (lv' := [(4, .int (nI 0)), (3, .int (nI i)), (0, .int (nI 4)), (1, .ref u_.1), (2, .ref q)]) hx hb dX4_table_42 hl (by decide) rfl (fun ls hl => ?_)
          have lp_44 : ∀ (n_ j : Nat) , j ≤ 4 → 4 + 1 ≤ j + n_ → ∀ (H : Heap) (locs : List Loc), va_P g.1 vwCl (tW g 2 4 u_.1 q u_.2 r chip (tbF i j)) H → va_D (va_A [] s.heap.size) (tW g 2 4 u_.1 q u_.2 r chip (tbF i j)) → va_S (va_A [] s.heap.size) s.heap H locs → Ev g (va_A [] s.heap.size) s H → ∀ (ls : Array Slot), lv_has ls 5 [(4, .int (nI j)), (3, .int (nI i)), (0, .int (nI 4)), (1, .ref u_.1), (2, .ref q)] → W p l e ({ frames := 2, cells := 10, slots := 28, locals := 48 } : Room) s m ([.int (nI 4)] : List Value).toArray below meth c H locs (0 + 5 + 1 + 4) (0 + 8 + 4 + 4 * 4) (MQ below (q_Qw (fun u : Nat × (Nat → Nat) => (u.1, refs g 4 (rfF u.2 4)) :: tRows g 4 u.2 chip) (fun u => some (.ref u.1)) g [] s.heap.size) ([.int (nI 4)] : List Value).toArray s 10 28 (va_A [] s.heap.size)) (F0 m 44 ls []) := by
            intro n_
            induction n_ with
            | zero => intro j  hi_ hn_; exact absurd hn_ (by omega)
            | succ n_ ih_44 =>
              intro j  hi_j hn_j  H locs hP hD hS hE ls hl
              refine lv_iload hx hb dX4_table_44 (lv_at hl 0 rfl) ?_
              refine lv_iload_n hx hb dX4_table_46 rfl (lv_at hl 2 rfl) ?_
              refine q_icmp_ge (tgt := 93) hx hb (by omega) (by omega) dX4_table_47 (by decide) (fun c_2 => ?_) (fun c_2 => ?_)
              · have ej : j = 4 := by omega
                rw [ej] at hP hD
                have hP := tbF_next hP
                have hD := tbF_nextD hD
                refine lv_iinc (v := nI (i + 1)) (lv' := [(3, .int (nI (i + 1))), (4, .int (nI j)), (0, .int (nI 4)), (1, .ref u_.1), (2, .ref q)]) hx hb dX4_table_93 hl (k := 1) rfl (nI_1 _) (by decide) rfl (fun ls hl => ?_)
                refine lv_goto (tgt := 36) hx hb dX4_table_96 (by decide) ?_
                exact ih_36 (i + 1)  (by omega) (by omega)  _ _ hP hD hS hE _ (lv_sub hl [0, 2, 3, 4] rfl)
              · refine lv_aload_n hx hb dX4_table_50 rfl (lv_at hl 4 rfl) ?_
                refine lv_iload_n hx hb dX4_table_51 rfl (lv_at hl 1 rfl) ?_
                refine q_aldA (n := 4) (r := r i) hx hb hE (hP _ _ tW_o) (by omega) (by omega) dX4_table_52 (rfF_lt (by omega)) ?_
                refine lv_iload hx hb dX4_table_53 (lv_at hl 0 rfl) ?_
                refine lv_aload_n hx hb dX4_table_55 rfl (lv_at hl 3 rfl) ?_
                refine lv_iload_n hx hb dX4_table_56 rfl (lv_at hl 1 rfl) ?_
                refine lv_aload_n hx hb dX4_table_57 rfl (lv_at hl 3 rfl) ?_
                refine q_alenA (v := nI 2) hx hb hE (hP 0 _ rfl) dX4_table_58 rfl ?_
                refine q_irem (v := nI (i % 2)) hx hb dX4_table_59 (by decide) (q_rem (by omega) (by omega) (by omega)) ?_
                refine q_aldA (n := 2) (r := u_.2 (i % 2)) hx hb hE (hP 0 _ rfl) (by omega) (by omega) dX4_table_60 (rfF_lt (by omega)) ?_
                refine lv_iload hx hb dX4_table_61 (lv_at hl 0 rfl) ?_
                refine lv_aload_n hx hb dX4_table_63 rfl (lv_at hl 3 rfl) ?_
                refine q_alenA (v := nI 2) hx hb hE (hP 0 _ rfl) dX4_table_64 rfl ?_
                refine q_irem (v := nI (j % 2)) hx hb dX4_table_65 (by decide) (q_rem (by omega) (by omega) (by omega)) ?_
                refine q_iald (v := (chip (i % 2)) (j % 2)) hx hb hE (hP _ _ (tW_h (by omega))) (by omega) (by omega) dX4_table_66 rfl ?_
                refine lv_iload_n hx hb dX4_table_67 rfl (lv_at hl 1 rfl) ?_
                refine lv_aload_n hx hb dX4_table_68 rfl (lv_at hl 3 rfl) ?_
                refine q_alenA (v := nI 2) hx hb hE (hP 0 _ rfl) dX4_table_69 rfl ?_
                refine q_icmp_lt (tgt := 84) hx hb (by omega) (by omega) dX4_table_70 (by decide) (fun c_3 => ?_) (fun c_3 => ?_)
                · refine lv_iconst (v := nI 1) hx hb dX4_table_84 (by decide) ?_
                  refine q_imul (v := chip i j) hx hb dX4_table_85 (tab_p 2 (by decide) i (by omega) j (by omega) (by omega)) ?_
                  refine q_iast hx hb hE hP hD hS (q0 := (2 + 2 + i)) (tW_r (by omega)) (by omega) (by omega) dX4_table_86 (fun H locs hP hD hS => ?_)
                  have hP : va_P g.1 vwCl (tW g 2 4 u_.1 q u_.2 r chip (tbF i (j + 1))) H := (fun h => by rw [tW_set, tbF_s] at h; exact h) hP
                  have hD : va_D (va_A [] s.heap.size) (tW g 2 4 u_.1 q u_.2 r chip (tbF i (j + 1))) := (fun h => by rw [tW_set, tbF_s] at h; exact h) hD
                  have hE := hE0.kept hS.2.1
                  refine lv_iinc (v := nI (j + 1)) (lv' := [(4, .int (nI (j + 1))), (3, .int (nI i)), (0, .int (nI 4)), (1, .ref u_.1), (2, .ref q)]) hx hb dX4_table_87 hl (k := 0) rfl (nI_1 _) (by decide) rfl (fun ls hl => ?_)
                  refine lv_goto (tgt := 44) hx hb dX4_table_90 (by decide) ?_
                  exact ih_44 (j + 1)  (by omega) (by omega)  _ _ hP hD hS hE _ (lv_sub hl [0, 1, 2, 3, 4] rfl)
                · refine lv_iload hx hb dX4_table_73 (lv_at hl 0 rfl) ?_
                  refine lv_aload_n hx hb dX4_table_75 rfl (lv_at hl 3 rfl) ?_
                  refine q_alenA (v := nI 2) hx hb hE (hP 0 _ rfl) dX4_table_76 rfl ?_
                  refine q_icmp_lt (tgt := 84) hx hb (by omega) (by omega) dX4_table_77 (by decide) (fun c_4 => ?_) (fun c_4 => ?_)
                  · refine lv_iconst (v := nI 1) hx hb dX4_table_84 (by decide) ?_
                    refine q_imul (v := chip i j) hx hb dX4_table_85 (tab_p 2 (by decide) i (by omega) j (by omega) (by omega)) ?_
                    refine q_iast hx hb hE hP hD hS (q0 := (2 + 2 + i)) (tW_r (by omega)) (by omega) (by omega) dX4_table_86 (fun H locs hP hD hS => ?_)
                    have hP : va_P g.1 vwCl (tW g 2 4 u_.1 q u_.2 r chip (tbF i (j + 1))) H := (fun h => by rw [tW_set, tbF_s] at h; exact h) hP
                    have hD : va_D (va_A [] s.heap.size) (tW g 2 4 u_.1 q u_.2 r chip (tbF i (j + 1))) := (fun h => by rw [tW_set, tbF_s] at h; exact h) hD
                    have hE := hE0.kept hS.2.1
                    refine lv_iinc (v := nI (j + 1)) (lv' := [(4, .int (nI (j + 1))), (3, .int (nI i)), (0, .int (nI 4)), (1, .ref u_.1), (2, .ref q)]) hx hb dX4_table_87 hl (k := 0) rfl (nI_1 _) (by decide) rfl (fun ls hl => ?_)
                    refine lv_goto (tgt := 44) hx hb dX4_table_90 (by decide) ?_
                    exact ih_44 (j + 1)  (by omega) (by omega)  _ _ hP hD hS hE _ (lv_sub hl [0, 1, 2, 3, 4] rfl)
                  · refine lv_iconst (v := (-1 : Int32)) hx hb dX4_table_80 (by decide) ?_
                    refine lv_goto (tgt := 85) hx hb dX4_table_81 (by decide) ?_
                    refine q_imul (v := chip i j) hx hb dX4_table_85 (tab_n 2 (by decide) i (by omega) j (by omega) (by omega) (by omega)) ?_
                    refine q_iast hx hb hE hP hD hS (q0 := (2 + 2 + i)) (tW_r (by omega)) (by omega) (by omega) dX4_table_86 (fun H locs hP hD hS => ?_)
                    have hP : va_P g.1 vwCl (tW g 2 4 u_.1 q u_.2 r chip (tbF i (j + 1))) H := (fun h => by rw [tW_set, tbF_s] at h; exact h) hP
                    have hD : va_D (va_A [] s.heap.size) (tW g 2 4 u_.1 q u_.2 r chip (tbF i (j + 1))) := (fun h => by rw [tW_set, tbF_s] at h; exact h) hD
                    have hE := hE0.kept hS.2.1
                    refine lv_iinc (v := nI (j + 1)) (lv' := [(4, .int (nI (j + 1))), (3, .int (nI i)), (0, .int (nI 4)), (1, .ref u_.1), (2, .ref q)]) hx hb dX4_table_87 hl (k := 0) rfl (nI_1 _) (by decide) rfl (fun ls hl => ?_)
                    refine lv_goto (tgt := 44) hx hb dX4_table_90 (by decide) ?_
                    exact ih_44 (j + 1)  (by omega) (by omega)  _ _ hP hD hS hE _ (lv_sub hl [0, 1, 2, 3, 4] rfl)
          
          exact lp_44 (4 + 1) 0  (Nat.zero_le _) (by omega)  _ _ hP hD hS hE _ (lv_sub hl [0, 1, 2, 3, 4] rfl)
    
    exact lp_36 (4 + 1) 0  (Nat.zero_le _) (by omega)  _ _ hP hD hS hE _ (lv_sub hl [0, 3, 2, 1] rfl)
  · exact absurd c_0 (by decide)
set_option maxHeartbeats 4000000 in
set_option maxRecDepth 100000 in
theorem c_tab8 {l : Launch} {g : gT} {sz : Nat}  : NW (S := Nat × (Nat → Nat)) l yX4_table wsX4_table ({ frames := 3, cells := 19, slots := 100, locals := 72 } : Room) [.int (nI 8)] g (fun H => True) sz (fun u : Nat × (Nat → Nat) => (u.1, refs g 8 (rfF u.2 8)) :: tRows g 8 u.2 chip) (fun u => some (.ref u.1)) 19 100 := by
  refine NW.of (cc := cX4_table) (maxL := 5) (ret := (some (.array (.array .int)))) (by decide) rfl (Nat.le_of_ble_eq_true rfl) ?_
  intro p e s m below meth c hx hb hml hr hlocks hown hin0 hts hsz hE0 hF ls hl
  subst hsz
  have hown : s.vm.findClass RX4 = some m.cls := hown
  have hA : ∀ q, s.heap.size ≤ q → va_A [] s.heap.size q := fun q h => Or.inr h
  have hE := hE0
  have hS : va_S (va_A [] s.heap.size) s.heap s.heap [] := va_S.rf
  have hP : va_P g.1 vwCl [] s.heap := q_Pnil
  have hD : va_D (va_A [] s.heap.size) [] := q_Dnil
  have hl : lv_has ls 5 [(0, .int (nI 8))] := hl
  refine lv_iload_n hx hb dX4_table_0 rfl (lv_at hl 0 rfl) ?_
  refine lv_iconst (v := nI 1) hx hb dX4_table_1 (by decide) ?_
  refine q_icmp_ne (tgt := 20) hx hb (by omega) (by omega) dX4_table_2 (by decide) (fun c_0 => ?_) (fun c_0 => ?_)
  · refine lv_iload_n hx hb dX4_table_20 rfl (lv_at hl 0 rfl) ?_
    refine lv_iconst (v := nI 2) hx hb dX4_table_21 (by decide) ?_
    refine q_idiv (v := nI 4) hx hb dX4_table_22 (by decide) (by decide) ?_
    refine q_nwS (wr := []) (As := [.int (nI 4)]) (rest := []) ⟨hx, hb, hml, hown, hts⟩ (c_tab4 ) (va_cwS 1 hts gX4_table_X4_table rfl rfl rfl (by decide +kernel) ⟨Nat.le_of_ble_eq_true rfl, Nat.le_of_ble_eq_true rfl⟩) hE hP hD hS hA trivial rfl hl.1 rfl (Nat.le_of_ble_eq_true rfl) dX4_table_23 ⟨Nat.le_of_ble_eq_true rfl, Nat.le_of_ble_eq_true rfl⟩ (fun u_ H locs hP hD hS hE => ?_)
    have hP : va_P g.1 vwCl ((u_.1, refs g 4 (rfF u_.2 4)) :: tRows g 4 u_.2 chip) H := hP
    have hD : va_D (va_A [] s.heap.size) ((u_.1, refs g 4 (rfF u_.2 4)) :: tRows g 4 u_.2 chip) := hD
    refine lv_astore_n (lv' := [(1, .ref u_.1), (0, .int (nI 8))]) hx hb dX4_table_26 rfl hl (by decide) rfl (fun ls hl => ?_)
    refine lv_iload_n hx hb dX4_table_27 rfl (lv_at hl 1 rfl) ?_
    refine lv_iload_n hx hb dX4_table_28 rfl (lv_at hl 1 rfl) ?_
    refine q_mna (N := 8) hx hb hown (hts _ (List.mem_of_getElem? (i := 3) rfl)) (hts _ (List.mem_of_getElem? (i := 2) rfl)) hE hP hD hS hA (by omega) (Nat.le_of_ble_eq_true rfl) (Nat.le_of_ble_eq_true rfl) dX4_table_29 (fun q r H hP hD hS => ?_)
    have hP : va_P g.1 vwCl (tW g 4 8 u_.1 q u_.2 r chip (tbF 0 0)) H := (fun h => tbF_0 ▸ h) hP
    have hD : va_D (va_A [] s.heap.size) (tW g 4 8 u_.1 q u_.2 r chip (tbF 0 0)) := (fun h => tbF_0 ▸ h) hD
    have hE := hE0.kept hS.2.1
    refine lv_astore_n (lv' := [(2, .ref q), (1, .ref u_.1), (0, .int (nI 8))]) hx hb dX4_table_33 rfl hl (by decide) rfl (fun ls hl => ?_)
    refine lv_iconst (v := nI 0) hx hb dX4_table_34 (by decide) ?_
    refine lv_istore_n (lv' := [(3, .int (nI 0)), (2, .ref q), (1, .ref u_.1), (0, .int (nI 8))]) hx hb dX4_table_35 rfl hl (by decide) rfl (fun ls hl => ?_)
    have lp_36 : ∀ (n_ i : Nat) , i ≤ 8 → 8 + 1 ≤ i + n_ → ∀ (H : Heap) (locs : List Loc), va_P g.1 vwCl (tW g 4 8 u_.1 q u_.2 r chip (tbF i 0)) H → va_D (va_A [] s.heap.size) (tW g 4 8 u_.1 q u_.2 r chip (tbF i 0)) → va_S (va_A [] s.heap.size) s.heap H locs → Ev g (va_A [] s.heap.size) s H → ∀ (ls : Array Slot), lv_has ls 5 [(3, .int (nI i)), (0, .int (nI 8)), (1, .ref u_.1), (2, .ref q)] → W p l e ({ frames := 3, cells := 19, slots := 100, locals := 72 } : Room) s m ([.int (nI 8)] : List Value).toArray below meth c H locs (0 + 10 + 1 + 8) (0 + 28 + 8 + 8 * 8) (MQ below (q_Qw (fun u : Nat × (Nat → Nat) => (u.1, refs g 8 (rfF u.2 8)) :: tRows g 8 u.2 chip) (fun u => some (.ref u.1)) g [] s.heap.size) ([.int (nI 8)] : List Value).toArray s 19 100 (va_A [] s.heap.size)) (F0 m 36 ls []) := by
      intro n_
      induction n_ with
      | zero => intro i  hi_ hn_; exact absurd hn_ (by omega)
      | succ n_ ih_36 =>
        intro i  hi_i hn_i  H locs hP hD hS hE ls hl
        refine lv_iload_n hx hb dX4_table_36 rfl (lv_at hl 0 rfl) ?_
        refine lv_iload_n hx hb dX4_table_37 rfl (lv_at hl 1 rfl) ?_
        refine q_icmp_ge (tgt := 99) hx hb (by omega) (by omega) dX4_table_38 (by decide) (fun c_1 => ?_) (fun c_1 => ?_)
        · have ei : i = 8 := by omega
          rw [ei] at hP hD
          have hP := tbF_end hP
          have hD := tbF_endD hD
          refine lv_aload_n hx hb dX4_table_99 rfl (lv_at hl 3 rfl) ?_
          exact q_waret ((q, r)) hx hb hr (Or.inr ⟨_, rfl⟩) hlocks hP hD hS dX4_table_100 rfl
        · refine lv_iconst (v := nI 0) hx hb dX4_table_41 (by decide) ?_
          refine lv_istore (lv' := [(4, .int (nI 0)), (3, .int (nI i)), (0, .int (nI 8)), (1, .ref u_.1), (2, .ref q)]) hx hb dX4_table_42 hl (by decide) rfl (fun ls hl => ?_)
          have lp_44 : ∀ (n_ j : Nat) , j ≤ 8 → 8 + 1 ≤ j + n_ → ∀ (H : Heap) (locs : List Loc), va_P g.1 vwCl (tW g 4 8 u_.1 q u_.2 r chip (tbF i j)) H → va_D (va_A [] s.heap.size) (tW g 4 8 u_.1 q u_.2 r chip (tbF i j)) → va_S (va_A [] s.heap.size) s.heap H locs → Ev g (va_A [] s.heap.size) s H → ∀ (ls : Array Slot), lv_has ls 5 [(4, .int (nI j)), (3, .int (nI i)), (0, .int (nI 8)), (1, .ref u_.1), (2, .ref q)] → W p l e ({ frames := 3, cells := 19, slots := 100, locals := 72 } : Room) s m ([.int (nI 8)] : List Value).toArray below meth c H locs (0 + 10 + 1 + 8) (0 + 28 + 8 + 8 * 8) (MQ below (q_Qw (fun u : Nat × (Nat → Nat) => (u.1, refs g 8 (rfF u.2 8)) :: tRows g 8 u.2 chip) (fun u => some (.ref u.1)) g [] s.heap.size) ([.int (nI 8)] : List Value).toArray s 19 100 (va_A [] s.heap.size)) (F0 m 44 ls []) := by
            intro n_
            induction n_ with
            | zero => intro j  hi_ hn_; exact absurd hn_ (by omega)
            | succ n_ ih_44 =>
              intro j  hi_j hn_j  H locs hP hD hS hE ls hl
              refine lv_iload hx hb dX4_table_44 (lv_at hl 0 rfl) ?_
              refine lv_iload_n hx hb dX4_table_46 rfl (lv_at hl 2 rfl) ?_
              refine q_icmp_ge (tgt := 93) hx hb (by omega) (by omega) dX4_table_47 (by decide) (fun c_2 => ?_) (fun c_2 => ?_)
              · have ej : j = 8 := by omega
                rw [ej] at hP hD
                have hP := tbF_next hP
                have hD := tbF_nextD hD
                refine lv_iinc (v := nI (i + 1)) (lv' := [(3, .int (nI (i + 1))), (4, .int (nI j)), (0, .int (nI 8)), (1, .ref u_.1), (2, .ref q)]) hx hb dX4_table_93 hl (k := 1) rfl (nI_1 _) (by decide) rfl (fun ls hl => ?_)
                refine lv_goto (tgt := 36) hx hb dX4_table_96 (by decide) ?_
                exact ih_36 (i + 1)  (by omega) (by omega)  _ _ hP hD hS hE _ (lv_sub hl [0, 2, 3, 4] rfl)
              · refine lv_aload_n hx hb dX4_table_50 rfl (lv_at hl 4 rfl) ?_
                refine lv_iload_n hx hb dX4_table_51 rfl (lv_at hl 1 rfl) ?_
                refine q_aldA (n := 8) (r := r i) hx hb hE (hP _ _ tW_o) (by omega) (by omega) dX4_table_52 (rfF_lt (by omega)) ?_
                refine lv_iload hx hb dX4_table_53 (lv_at hl 0 rfl) ?_
                refine lv_aload_n hx hb dX4_table_55 rfl (lv_at hl 3 rfl) ?_
                refine lv_iload_n hx hb dX4_table_56 rfl (lv_at hl 1 rfl) ?_
                refine lv_aload_n hx hb dX4_table_57 rfl (lv_at hl 3 rfl) ?_
                refine q_alenA (v := nI 4) hx hb hE (hP 0 _ rfl) dX4_table_58 rfl ?_
                refine q_irem (v := nI (i % 4)) hx hb dX4_table_59 (by decide) (q_rem (by omega) (by omega) (by omega)) ?_
                refine q_aldA (n := 4) (r := u_.2 (i % 4)) hx hb hE (hP 0 _ rfl) (by omega) (by omega) dX4_table_60 (rfF_lt (by omega)) ?_
                refine lv_iload hx hb dX4_table_61 (lv_at hl 0 rfl) ?_
                refine lv_aload_n hx hb dX4_table_63 rfl (lv_at hl 3 rfl) ?_
                refine q_alenA (v := nI 4) hx hb hE (hP 0 _ rfl) dX4_table_64 rfl ?_
                refine q_irem (v := nI (j % 4)) hx hb dX4_table_65 (by decide) (q_rem (by omega) (by omega) (by omega)) ?_
                refine q_iald (v := (chip (i % 4)) (j % 4)) hx hb hE (hP _ _ (tW_h (by omega))) (by omega) (by omega) dX4_table_66 rfl ?_
                refine lv_iload_n hx hb dX4_table_67 rfl (lv_at hl 1 rfl) ?_
                refine lv_aload_n hx hb dX4_table_68 rfl (lv_at hl 3 rfl) ?_
                refine q_alenA (v := nI 4) hx hb hE (hP 0 _ rfl) dX4_table_69 rfl ?_
                refine q_icmp_lt (tgt := 84) hx hb (by omega) (by omega) dX4_table_70 (by decide) (fun c_3 => ?_) (fun c_3 => ?_)
                · refine lv_iconst (v := nI 1) hx hb dX4_table_84 (by decide) ?_
                  refine q_imul (v := chip i j) hx hb dX4_table_85 (tab_p 4 (by decide) i (by omega) j (by omega) (by omega)) ?_
                  refine q_iast hx hb hE hP hD hS (q0 := (4 + 2 + i)) (tW_r (by omega)) (by omega) (by omega) dX4_table_86 (fun H locs hP hD hS => ?_)
                  have hP : va_P g.1 vwCl (tW g 4 8 u_.1 q u_.2 r chip (tbF i (j + 1))) H := (fun h => by rw [tW_set, tbF_s] at h; exact h) hP
                  have hD : va_D (va_A [] s.heap.size) (tW g 4 8 u_.1 q u_.2 r chip (tbF i (j + 1))) := (fun h => by rw [tW_set, tbF_s] at h; exact h) hD
                  have hE := hE0.kept hS.2.1
                  refine lv_iinc (v := nI (j + 1)) (lv' := [(4, .int (nI (j + 1))), (3, .int (nI i)), (0, .int (nI 8)), (1, .ref u_.1), (2, .ref q)]) hx hb dX4_table_87 hl (k := 0) rfl (nI_1 _) (by decide) rfl (fun ls hl => ?_)
                  refine lv_goto (tgt := 44) hx hb dX4_table_90 (by decide) ?_
                  exact ih_44 (j + 1)  (by omega) (by omega)  _ _ hP hD hS hE _ (lv_sub hl [0, 1, 2, 3, 4] rfl)
                · refine lv_iload hx hb dX4_table_73 (lv_at hl 0 rfl) ?_
                  refine lv_aload_n hx hb dX4_table_75 rfl (lv_at hl 3 rfl) ?_
                  refine q_alenA (v := nI 4) hx hb hE (hP 0 _ rfl) dX4_table_76 rfl ?_
                  refine q_icmp_lt (tgt := 84) hx hb (by omega) (by omega) dX4_table_77 (by decide) (fun c_4 => ?_) (fun c_4 => ?_)
                  · refine lv_iconst (v := nI 1) hx hb dX4_table_84 (by decide) ?_
                    refine q_imul (v := chip i j) hx hb dX4_table_85 (tab_p 4 (by decide) i (by omega) j (by omega) (by omega)) ?_
                    refine q_iast hx hb hE hP hD hS (q0 := (4 + 2 + i)) (tW_r (by omega)) (by omega) (by omega) dX4_table_86 (fun H locs hP hD hS => ?_)
                    have hP : va_P g.1 vwCl (tW g 4 8 u_.1 q u_.2 r chip (tbF i (j + 1))) H := (fun h => by rw [tW_set, tbF_s] at h; exact h) hP
                    have hD : va_D (va_A [] s.heap.size) (tW g 4 8 u_.1 q u_.2 r chip (tbF i (j + 1))) := (fun h => by rw [tW_set, tbF_s] at h; exact h) hD
                    have hE := hE0.kept hS.2.1
                    refine lv_iinc (v := nI (j + 1)) (lv' := [(4, .int (nI (j + 1))), (3, .int (nI i)), (0, .int (nI 8)), (1, .ref u_.1), (2, .ref q)]) hx hb dX4_table_87 hl (k := 0) rfl (nI_1 _) (by decide) rfl (fun ls hl => ?_)
                    refine lv_goto (tgt := 44) hx hb dX4_table_90 (by decide) ?_
                    exact ih_44 (j + 1)  (by omega) (by omega)  _ _ hP hD hS hE _ (lv_sub hl [0, 1, 2, 3, 4] rfl)
                  · refine lv_iconst (v := (-1 : Int32)) hx hb dX4_table_80 (by decide) ?_
                    refine lv_goto (tgt := 85) hx hb dX4_table_81 (by decide) ?_
                    refine q_imul (v := chip i j) hx hb dX4_table_85 (tab_n 4 (by decide) i (by omega) j (by omega) (by omega) (by omega)) ?_
                    refine q_iast hx hb hE hP hD hS (q0 := (4 + 2 + i)) (tW_r (by omega)) (by omega) (by omega) dX4_table_86 (fun H locs hP hD hS => ?_)
                    have hP : va_P g.1 vwCl (tW g 4 8 u_.1 q u_.2 r chip (tbF i (j + 1))) H := (fun h => by rw [tW_set, tbF_s] at h; exact h) hP
                    have hD : va_D (va_A [] s.heap.size) (tW g 4 8 u_.1 q u_.2 r chip (tbF i (j + 1))) := (fun h => by rw [tW_set, tbF_s] at h; exact h) hD
                    have hE := hE0.kept hS.2.1
                    refine lv_iinc (v := nI (j + 1)) (lv' := [(4, .int (nI (j + 1))), (3, .int (nI i)), (0, .int (nI 8)), (1, .ref u_.1), (2, .ref q)]) hx hb dX4_table_87 hl (k := 0) rfl (nI_1 _) (by decide) rfl (fun ls hl => ?_)
                    refine lv_goto (tgt := 44) hx hb dX4_table_90 (by decide) ?_
                    exact ih_44 (j + 1)  (by omega) (by omega)  _ _ hP hD hS hE _ (lv_sub hl [0, 1, 2, 3, 4] rfl)
          
          exact lp_44 (8 + 1) 0  (Nat.zero_le _) (by omega)  _ _ hP hD hS hE _ (lv_sub hl [0, 1, 2, 3, 4] rfl)
    
    exact lp_36 (8 + 1) 0  (Nat.zero_le _) (by omega)  _ _ hP hD hS hE _ (lv_sub hl [0, 3, 2, 1] rfl)
  · exact absurd c_0 (by decide)
set_option maxHeartbeats 4000000 in
set_option maxRecDepth 100000 in
theorem c_tab16 {l : Launch} {g : gT} {sz : Nat}  : NW (S := Nat × (Nat → Nat)) l yX4_table wsX4_table ({ frames := 4, cells := 36, slots := 372, locals := 96 } : Room) [.int (nI 16)] g (fun H => True) sz (fun u : Nat × (Nat → Nat) => (u.1, refs g 16 (rfF u.2 16)) :: tRows g 16 u.2 chip) (fun u => some (.ref u.1)) 36 372 := by
  refine NW.of (cc := cX4_table) (maxL := 5) (ret := (some (.array (.array .int)))) (by decide) rfl (Nat.le_of_ble_eq_true rfl) ?_
  intro p e s m below meth c hx hb hml hr hlocks hown hin0 hts hsz hE0 hF ls hl
  subst hsz
  have hown : s.vm.findClass RX4 = some m.cls := hown
  have hA : ∀ q, s.heap.size ≤ q → va_A [] s.heap.size q := fun q h => Or.inr h
  have hE := hE0
  have hS : va_S (va_A [] s.heap.size) s.heap s.heap [] := va_S.rf
  have hP : va_P g.1 vwCl [] s.heap := q_Pnil
  have hD : va_D (va_A [] s.heap.size) [] := q_Dnil
  have hl : lv_has ls 5 [(0, .int (nI 16))] := hl
  refine lv_iload_n hx hb dX4_table_0 rfl (lv_at hl 0 rfl) ?_
  refine lv_iconst (v := nI 1) hx hb dX4_table_1 (by decide) ?_
  refine q_icmp_ne (tgt := 20) hx hb (by omega) (by omega) dX4_table_2 (by decide) (fun c_0 => ?_) (fun c_0 => ?_)
  · refine lv_iload_n hx hb dX4_table_20 rfl (lv_at hl 0 rfl) ?_
    refine lv_iconst (v := nI 2) hx hb dX4_table_21 (by decide) ?_
    refine q_idiv (v := nI 8) hx hb dX4_table_22 (by decide) (by decide) ?_
    refine q_nwS (wr := []) (As := [.int (nI 8)]) (rest := []) ⟨hx, hb, hml, hown, hts⟩ (c_tab8 ) (va_cwS 1 hts gX4_table_X4_table rfl rfl rfl (by decide +kernel) ⟨Nat.le_of_ble_eq_true rfl, Nat.le_of_ble_eq_true rfl⟩) hE hP hD hS hA trivial rfl hl.1 rfl (Nat.le_of_ble_eq_true rfl) dX4_table_23 ⟨Nat.le_of_ble_eq_true rfl, Nat.le_of_ble_eq_true rfl⟩ (fun u_ H locs hP hD hS hE => ?_)
    have hP : va_P g.1 vwCl ((u_.1, refs g 8 (rfF u_.2 8)) :: tRows g 8 u_.2 chip) H := hP
    have hD : va_D (va_A [] s.heap.size) ((u_.1, refs g 8 (rfF u_.2 8)) :: tRows g 8 u_.2 chip) := hD
    refine lv_astore_n (lv' := [(1, .ref u_.1), (0, .int (nI 16))]) hx hb dX4_table_26 rfl hl (by decide) rfl (fun ls hl => ?_)
    refine lv_iload_n hx hb dX4_table_27 rfl (lv_at hl 1 rfl) ?_
    refine lv_iload_n hx hb dX4_table_28 rfl (lv_at hl 1 rfl) ?_
    refine q_mna (N := 16) hx hb hown (hts _ (List.mem_of_getElem? (i := 3) rfl)) (hts _ (List.mem_of_getElem? (i := 2) rfl)) hE hP hD hS hA (by omega) (Nat.le_of_ble_eq_true rfl) (Nat.le_of_ble_eq_true rfl) dX4_table_29 (fun q r H hP hD hS => ?_)
    have hP : va_P g.1 vwCl (tW g 8 16 u_.1 q u_.2 r chip (tbF 0 0)) H := (fun h => tbF_0 ▸ h) hP
    have hD : va_D (va_A [] s.heap.size) (tW g 8 16 u_.1 q u_.2 r chip (tbF 0 0)) := (fun h => tbF_0 ▸ h) hD
    have hE := hE0.kept hS.2.1
    refine lv_astore_n (lv' := [(2, .ref q), (1, .ref u_.1), (0, .int (nI 16))]) hx hb dX4_table_33 rfl hl (by decide) rfl (fun ls hl => ?_)
    refine lv_iconst (v := nI 0) hx hb dX4_table_34 (by decide) ?_
    refine lv_istore_n (lv' := [(3, .int (nI 0)), (2, .ref q), (1, .ref u_.1), (0, .int (nI 16))]) hx hb dX4_table_35 rfl hl (by decide) rfl (fun ls hl => ?_)
    have lp_36 : ∀ (n_ i : Nat) , i ≤ 16 → 16 + 1 ≤ i + n_ → ∀ (H : Heap) (locs : List Loc), va_P g.1 vwCl (tW g 8 16 u_.1 q u_.2 r chip (tbF i 0)) H → va_D (va_A [] s.heap.size) (tW g 8 16 u_.1 q u_.2 r chip (tbF i 0)) → va_S (va_A [] s.heap.size) s.heap H locs → Ev g (va_A [] s.heap.size) s H → ∀ (ls : Array Slot), lv_has ls 5 [(3, .int (nI i)), (0, .int (nI 16)), (1, .ref u_.1), (2, .ref q)] → W p l e ({ frames := 4, cells := 36, slots := 372, locals := 96 } : Room) s m ([.int (nI 16)] : List Value).toArray below meth c H locs (0 + 19 + 1 + 16) (0 + 100 + 16 + 16 * 16) (MQ below (q_Qw (fun u : Nat × (Nat → Nat) => (u.1, refs g 16 (rfF u.2 16)) :: tRows g 16 u.2 chip) (fun u => some (.ref u.1)) g [] s.heap.size) ([.int (nI 16)] : List Value).toArray s 36 372 (va_A [] s.heap.size)) (F0 m 36 ls []) := by
      intro n_
      induction n_ with
      | zero => intro i  hi_ hn_; exact absurd hn_ (by omega)
      | succ n_ ih_36 =>
        intro i  hi_i hn_i  H locs hP hD hS hE ls hl
        refine lv_iload_n hx hb dX4_table_36 rfl (lv_at hl 0 rfl) ?_
        refine lv_iload_n hx hb dX4_table_37 rfl (lv_at hl 1 rfl) ?_
        refine q_icmp_ge (tgt := 99) hx hb (by omega) (by omega) dX4_table_38 (by decide) (fun c_1 => ?_) (fun c_1 => ?_)
        · have ei : i = 16 := by omega
          rw [ei] at hP hD
          have hP := tbF_end hP
          have hD := tbF_endD hD
          refine lv_aload_n hx hb dX4_table_99 rfl (lv_at hl 3 rfl) ?_
          exact q_waret ((q, r)) hx hb hr (Or.inr ⟨_, rfl⟩) hlocks hP hD hS dX4_table_100 rfl
        · refine lv_iconst (v := nI 0) hx hb dX4_table_41 (by decide) ?_
          refine lv_istore (lv' := [(4, .int (nI 0)), (3, .int (nI i)), (0, .int (nI 16)), (1, .ref u_.1), (2, .ref q)]) hx hb dX4_table_42 hl (by decide) rfl (fun ls hl => ?_)
          have lp_44 : ∀ (n_ j : Nat) , j ≤ 16 → 16 + 1 ≤ j + n_ → ∀ (H : Heap) (locs : List Loc), va_P g.1 vwCl (tW g 8 16 u_.1 q u_.2 r chip (tbF i j)) H → va_D (va_A [] s.heap.size) (tW g 8 16 u_.1 q u_.2 r chip (tbF i j)) → va_S (va_A [] s.heap.size) s.heap H locs → Ev g (va_A [] s.heap.size) s H → ∀ (ls : Array Slot), lv_has ls 5 [(4, .int (nI j)), (3, .int (nI i)), (0, .int (nI 16)), (1, .ref u_.1), (2, .ref q)] → W p l e ({ frames := 4, cells := 36, slots := 372, locals := 96 } : Room) s m ([.int (nI 16)] : List Value).toArray below meth c H locs (0 + 19 + 1 + 16) (0 + 100 + 16 + 16 * 16) (MQ below (q_Qw (fun u : Nat × (Nat → Nat) => (u.1, refs g 16 (rfF u.2 16)) :: tRows g 16 u.2 chip) (fun u => some (.ref u.1)) g [] s.heap.size) ([.int (nI 16)] : List Value).toArray s 36 372 (va_A [] s.heap.size)) (F0 m 44 ls []) := by
            intro n_
            induction n_ with
            | zero => intro j  hi_ hn_; exact absurd hn_ (by omega)
            | succ n_ ih_44 =>
              intro j  hi_j hn_j  H locs hP hD hS hE ls hl
              refine lv_iload hx hb dX4_table_44 (lv_at hl 0 rfl) ?_
              refine lv_iload_n hx hb dX4_table_46 rfl (lv_at hl 2 rfl) ?_
              refine q_icmp_ge (tgt := 93) hx hb (by omega) (by omega) dX4_table_47 (by decide) (fun c_2 => ?_) (fun c_2 => ?_)
              · have ej : j = 16 := by omega
                rw [ej] at hP hD
                have hP := tbF_next hP
                have hD := tbF_nextD hD
                refine lv_iinc (v := nI (i + 1)) (lv' := [(3, .int (nI (i + 1))), (4, .int (nI j)), (0, .int (nI 16)), (1, .ref u_.1), (2, .ref q)]) hx hb dX4_table_93 hl (k := 1) rfl (nI_1 _) (by decide) rfl (fun ls hl => ?_)
                refine lv_goto (tgt := 36) hx hb dX4_table_96 (by decide) ?_
                exact ih_36 (i + 1)  (by omega) (by omega)  _ _ hP hD hS hE _ (lv_sub hl [0, 2, 3, 4] rfl)
              · refine lv_aload_n hx hb dX4_table_50 rfl (lv_at hl 4 rfl) ?_
                refine lv_iload_n hx hb dX4_table_51 rfl (lv_at hl 1 rfl) ?_
                refine q_aldA (n := 16) (r := r i) hx hb hE (hP _ _ tW_o) (by omega) (by omega) dX4_table_52 (rfF_lt (by omega)) ?_
                refine lv_iload hx hb dX4_table_53 (lv_at hl 0 rfl) ?_
                refine lv_aload_n hx hb dX4_table_55 rfl (lv_at hl 3 rfl) ?_
                refine lv_iload_n hx hb dX4_table_56 rfl (lv_at hl 1 rfl) ?_
                refine lv_aload_n hx hb dX4_table_57 rfl (lv_at hl 3 rfl) ?_
                refine q_alenA (v := nI 8) hx hb hE (hP 0 _ rfl) dX4_table_58 rfl ?_
                refine q_irem (v := nI (i % 8)) hx hb dX4_table_59 (by decide) (q_rem (by omega) (by omega) (by omega)) ?_
                refine q_aldA (n := 8) (r := u_.2 (i % 8)) hx hb hE (hP 0 _ rfl) (by omega) (by omega) dX4_table_60 (rfF_lt (by omega)) ?_
                refine lv_iload hx hb dX4_table_61 (lv_at hl 0 rfl) ?_
                refine lv_aload_n hx hb dX4_table_63 rfl (lv_at hl 3 rfl) ?_
                refine q_alenA (v := nI 8) hx hb hE (hP 0 _ rfl) dX4_table_64 rfl ?_
                refine q_irem (v := nI (j % 8)) hx hb dX4_table_65 (by decide) (q_rem (by omega) (by omega) (by omega)) ?_
                refine q_iald (v := (chip (i % 8)) (j % 8)) hx hb hE (hP _ _ (tW_h (by omega))) (by omega) (by omega) dX4_table_66 rfl ?_
                refine lv_iload_n hx hb dX4_table_67 rfl (lv_at hl 1 rfl) ?_
                refine lv_aload_n hx hb dX4_table_68 rfl (lv_at hl 3 rfl) ?_
                refine q_alenA (v := nI 8) hx hb hE (hP 0 _ rfl) dX4_table_69 rfl ?_
                refine q_icmp_lt (tgt := 84) hx hb (by omega) (by omega) dX4_table_70 (by decide) (fun c_3 => ?_) (fun c_3 => ?_)
                · refine lv_iconst (v := nI 1) hx hb dX4_table_84 (by decide) ?_
                  refine q_imul (v := chip i j) hx hb dX4_table_85 (tab_p 8 (by decide) i (by omega) j (by omega) (by omega)) ?_
                  refine q_iast hx hb hE hP hD hS (q0 := (8 + 2 + i)) (tW_r (by omega)) (by omega) (by omega) dX4_table_86 (fun H locs hP hD hS => ?_)
                  have hP : va_P g.1 vwCl (tW g 8 16 u_.1 q u_.2 r chip (tbF i (j + 1))) H := (fun h => by rw [tW_set, tbF_s] at h; exact h) hP
                  have hD : va_D (va_A [] s.heap.size) (tW g 8 16 u_.1 q u_.2 r chip (tbF i (j + 1))) := (fun h => by rw [tW_set, tbF_s] at h; exact h) hD
                  have hE := hE0.kept hS.2.1
                  refine lv_iinc (v := nI (j + 1)) (lv' := [(4, .int (nI (j + 1))), (3, .int (nI i)), (0, .int (nI 16)), (1, .ref u_.1), (2, .ref q)]) hx hb dX4_table_87 hl (k := 0) rfl (nI_1 _) (by decide) rfl (fun ls hl => ?_)
                  refine lv_goto (tgt := 44) hx hb dX4_table_90 (by decide) ?_
                  exact ih_44 (j + 1)  (by omega) (by omega)  _ _ hP hD hS hE _ (lv_sub hl [0, 1, 2, 3, 4] rfl)
                · refine lv_iload hx hb dX4_table_73 (lv_at hl 0 rfl) ?_
                  refine lv_aload_n hx hb dX4_table_75 rfl (lv_at hl 3 rfl) ?_
                  refine q_alenA (v := nI 8) hx hb hE (hP 0 _ rfl) dX4_table_76 rfl ?_
                  refine q_icmp_lt (tgt := 84) hx hb (by omega) (by omega) dX4_table_77 (by decide) (fun c_4 => ?_) (fun c_4 => ?_)
                  · refine lv_iconst (v := nI 1) hx hb dX4_table_84 (by decide) ?_
                    refine q_imul (v := chip i j) hx hb dX4_table_85 (tab_p 8 (by decide) i (by omega) j (by omega) (by omega)) ?_
                    refine q_iast hx hb hE hP hD hS (q0 := (8 + 2 + i)) (tW_r (by omega)) (by omega) (by omega) dX4_table_86 (fun H locs hP hD hS => ?_)
                    have hP : va_P g.1 vwCl (tW g 8 16 u_.1 q u_.2 r chip (tbF i (j + 1))) H := (fun h => by rw [tW_set, tbF_s] at h; exact h) hP
                    have hD : va_D (va_A [] s.heap.size) (tW g 8 16 u_.1 q u_.2 r chip (tbF i (j + 1))) := (fun h => by rw [tW_set, tbF_s] at h; exact h) hD
                    have hE := hE0.kept hS.2.1
                    refine lv_iinc (v := nI (j + 1)) (lv' := [(4, .int (nI (j + 1))), (3, .int (nI i)), (0, .int (nI 16)), (1, .ref u_.1), (2, .ref q)]) hx hb dX4_table_87 hl (k := 0) rfl (nI_1 _) (by decide) rfl (fun ls hl => ?_)
                    refine lv_goto (tgt := 44) hx hb dX4_table_90 (by decide) ?_
                    exact ih_44 (j + 1)  (by omega) (by omega)  _ _ hP hD hS hE _ (lv_sub hl [0, 1, 2, 3, 4] rfl)
                  · refine lv_iconst (v := (-1 : Int32)) hx hb dX4_table_80 (by decide) ?_
                    refine lv_goto (tgt := 85) hx hb dX4_table_81 (by decide) ?_
                    refine q_imul (v := chip i j) hx hb dX4_table_85 (tab_n 8 (by decide) i (by omega) j (by omega) (by omega) (by omega)) ?_
                    refine q_iast hx hb hE hP hD hS (q0 := (8 + 2 + i)) (tW_r (by omega)) (by omega) (by omega) dX4_table_86 (fun H locs hP hD hS => ?_)
                    have hP : va_P g.1 vwCl (tW g 8 16 u_.1 q u_.2 r chip (tbF i (j + 1))) H := (fun h => by rw [tW_set, tbF_s] at h; exact h) hP
                    have hD : va_D (va_A [] s.heap.size) (tW g 8 16 u_.1 q u_.2 r chip (tbF i (j + 1))) := (fun h => by rw [tW_set, tbF_s] at h; exact h) hD
                    have hE := hE0.kept hS.2.1
                    refine lv_iinc (v := nI (j + 1)) (lv' := [(4, .int (nI (j + 1))), (3, .int (nI i)), (0, .int (nI 16)), (1, .ref u_.1), (2, .ref q)]) hx hb dX4_table_87 hl (k := 0) rfl (nI_1 _) (by decide) rfl (fun ls hl => ?_)
                    refine lv_goto (tgt := 44) hx hb dX4_table_90 (by decide) ?_
                    exact ih_44 (j + 1)  (by omega) (by omega)  _ _ hP hD hS hE _ (lv_sub hl [0, 1, 2, 3, 4] rfl)
          
          exact lp_44 (16 + 1) 0  (Nat.zero_le _) (by omega)  _ _ hP hD hS hE _ (lv_sub hl [0, 1, 2, 3, 4] rfl)
    
    exact lp_36 (16 + 1) 0  (Nat.zero_le _) (by omega)  _ _ hP hD hS hE _ (lv_sub hl [0, 3, 2, 1] rfl)
  · exact absurd c_0 (by decide)
set_option maxHeartbeats 4000000 in
set_option maxRecDepth 100000 in
theorem c_X4_more {l : Launch} {g : gT} {sz : Nat} {a r n kr : Nat} {ra ln : Nat → Nat} {fr : Nat → Int32} {fi : Nat → Nat → Int32} (hn : n ≤ 8) : NW (S := Nat) l yX4_more wsX4_more ({ frames := 0, cells := 1, slots := 9, locals := 0 } : Room) [.ref a, .ref r] g (fun H => va_at g.1 vwCl (a, refs g n (rfF ra n)) H ∧ va_at g.1 vwCl (r, ints g kr fr) H ∧ (∀ i, i < n → va_at g.1 vwCl (ra i, ints g (ln i) (fi i)) H)) sz (fun q : Nat => [(q, refs g (n + 1) (rfF (upN ra n r) (n + 1)))]) (fun q => some (.ref q)) 1 9 := by
  refine NW.of (cc := cX4_more) (maxL := 4) (ret := (some (.array (.array .int)))) (by decide) rfl (Nat.le_of_ble_eq_true rfl) ?_
  intro p e s m below meth c hx hb hml hr hlocks hown hin0 hts hsz hE0 hF ls hl
  subst hsz
  have hown : s.vm.findClass RX4 = some m.cls := hown
  have hA : ∀ q, s.heap.size ≤ q → va_A [] s.heap.size q := fun q h => Or.inr h
  have hE := hE0
  have hS : va_S (va_A [] s.heap.size) s.heap s.heap [] := va_S.rf
  have hP : va_P g.1 vwCl [] s.heap := q_Pnil
  have hD : va_D (va_A [] s.heap.size) [] := q_Dnil
  obtain ⟨h_a0, h_r0, h_s0⟩ := hF
  have h_a := h_a0
  have h_r := h_r0
  have h_s := h_s0
  have hl : lv_has ls 4 [(0, .ref a), (1, .ref r)] := hl
  refine lv_aload_n hx hb dX4_more_0 rfl (lv_at hl 0 rfl) ?_
  refine q_alenA (v := nI n) hx hb hE h_a dX4_more_1 rfl ?_
  refine lv_iconst (v := nI 1) hx hb dX4_more_2 (by decide) ?_
  refine q_iadd (v := nI (n + 1)) hx hb dX4_more_3 (nI_add _ _) ?_
  refine q_newA (n := n + 1) hx hb hown (hts _ (List.mem_of_getElem? (i := 1) rfl)) hE hP hD hS hA (by omega) (Nat.le_of_ble_eq_true rfl) (by show 0 + (n + 1) ≤ 9; omega) dX4_more_4 (fun q H hP hD hS => ?_)
  have hP : va_P g.1 vwCl ([(q, refs g (n + 1) (rfF ra 0))]) H := hP
  have hD : va_D (va_A [] s.heap.size) ([(q, refs g (n + 1) (rfF ra 0))]) := hD
  have hE := hE0.kept hS.2.1
  have h_a := q_keep1 h_a0 hS
  have h_r := q_keep1 h_r0 hS
  have h_s := fun i hi => q_keep1 (h_s0 i hi) hS
  have hP : va_P g.1 vwCl ([(q, refs g (n + 1) (rfF ra 0))]) H := rfF_0 (r := ra) ▸ hP
  have hD : va_D (va_A [] s.heap.size) ([(q, refs g (n + 1) (rfF ra 0))]) := rfF_0 (r := ra) ▸ hD
  refine lv_astore_n (lv' := [(2, .ref q), (0, .ref a), (1, .ref r)]) hx hb dX4_more_7 rfl hl (by decide) rfl (fun ls hl => ?_)
  refine lv_iconst (v := nI 0) hx hb dX4_more_8 (by decide) ?_
  refine lv_istore_n (lv' := [(3, .int (nI 0)), (2, .ref q), (0, .ref a), (1, .ref r)]) hx hb dX4_more_9 rfl hl (by decide) rfl (fun ls hl => ?_)
  have lp_10 : ∀ (n_ i : Nat) , i ≤ n → n + 1 ≤ i + n_ → ∀ (H : Heap) (locs : List Loc), va_P g.1 vwCl ([(q, refs g (n + 1) (rfF ra i))]) H → va_D (va_A [] s.heap.size) ([(q, refs g (n + 1) (rfF ra i))]) → va_S (va_A [] s.heap.size) s.heap H locs → Ev g (va_A [] s.heap.size) s H → ∀ (ls : Array Slot), lv_has ls 4 [(3, .int (nI i)), (0, .ref a), (1, .ref r), (2, .ref q)] → W p l e ({ frames := 0, cells := 1, slots := 9, locals := 0 } : Room) s m ([.ref a, .ref r] : List Value).toArray below meth c H locs (0 + 1) (0 + (n + 1)) (MQ below (q_Qw (fun q : Nat => [(q, refs g (n + 1) (rfF (upN ra n r) (n + 1)))]) (fun q => some (.ref q)) g [] s.heap.size) ([.ref a, .ref r] : List Value).toArray s 1 9 (va_A [] s.heap.size)) (F0 m 10 ls []) := by
    intro n_
    induction n_ with
    | zero => intro i  hi_ hn_; exact absurd hn_ (by omega)
    | succ n_ ih_10 =>
      intro i  hi_i hn_i  H locs hP hD hS hE ls hl
      have h_a := q_keep1 h_a0 hS
      have h_r := q_keep1 h_r0 hS
      have h_s := fun i hi => q_keep1 (h_s0 i hi) hS
      refine lv_iload_n hx hb dX4_more_10 rfl (lv_at hl 0 rfl) ?_
      refine lv_aload_n hx hb dX4_more_11 rfl (lv_at hl 1 rfl) ?_
      refine q_alenA (v := nI n) hx hb hE h_a dX4_more_12 rfl ?_
      refine q_icmp_ge (tgt := 28) hx hb (by omega) (by omega) dX4_more_13 (by decide) (fun c_1 => ?_) (fun c_1 => ?_)
      · have ei : i = n := by omega
        rw [ei] at hP hD
        refine lv_aload_n hx hb dX4_more_28 rfl (lv_at hl 3 rfl) ?_
        refine lv_aload_n hx hb dX4_more_29 rfl (lv_at hl 1 rfl) ?_
        refine q_alenA (v := nI n) hx hb hE h_a dX4_more_30 rfl ?_
        refine lv_aload_n hx hb dX4_more_31 rfl (lv_at hl 2 rfl) ?_
        refine q_aastA (q0 := 0) hx hb hE hP hD hS rfl h_r (by omega) (by omega) dX4_more_32 (fun H locs hP hD hS => ?_)
        have hP : va_P g.1 vwCl ([(q, refs g (n + 1) (rfF (upN ra n r) (n + 1)))]) H := (fun h => by rw [rfF_e (r := ra) (r' := upN ra n r) (fun i hi => (upN_n (by omega)).symm), rfF_s upN_s] at h; exact h) hP
        have hD : va_D (va_A [] s.heap.size) ([(q, refs g (n + 1) (rfF (upN ra n r) (n + 1)))]) := (fun h => by rw [rfF_e (r := ra) (r' := upN ra n r) (fun i hi => (upN_n (by omega)).symm), rfF_s upN_s] at h; exact h) hD
        have hE := hE0.kept hS.2.1
        have h_a := q_keep1 h_a0 hS
        have h_r := q_keep1 h_r0 hS
        have h_s := fun i hi => q_keep1 (h_s0 i hi) hS
        refine lv_aload_n hx hb dX4_more_33 rfl (lv_at hl 3 rfl) ?_
        refine W.widen (k := 1) (n := 9) (Nat.le_of_ble_eq_true rfl) (by show 0 + (n + 1) ≤ 9; omega) ?_
        exact q_waret (q) hx hb hr (Or.inr ⟨_, rfl⟩) hlocks hP hD hS dX4_more_34 rfl
      · refine lv_aload_n hx hb dX4_more_16 rfl (lv_at hl 3 rfl) ?_
        refine lv_iload_n hx hb dX4_more_17 rfl (lv_at hl 0 rfl) ?_
        refine lv_aload_n hx hb dX4_more_18 rfl (lv_at hl 1 rfl) ?_
        refine lv_iload_n hx hb dX4_more_19 rfl (lv_at hl 0 rfl) ?_
        refine q_aldA (n := n) (r := ra i) hx hb hE h_a (by omega) (by omega) dX4_more_20 (rfF_lt (by omega)) ?_
        refine q_aastA (q0 := 0) hx hb hE hP hD hS rfl (h_s i (by omega)) (by omega) (by omega) dX4_more_21 (fun H locs hP hD hS => ?_)
        have hP : va_P g.1 vwCl ([(q, refs g (n + 1) (rfF ra (i + 1)))]) H := (fun h => by rw [rfF_s rfl] at h; exact h) hP
        have hD : va_D (va_A [] s.heap.size) ([(q, refs g (n + 1) (rfF ra (i + 1)))]) := (fun h => by rw [rfF_s rfl] at h; exact h) hD
        have hE := hE0.kept hS.2.1
        have h_a := q_keep1 h_a0 hS
        have h_r := q_keep1 h_r0 hS
        have h_s := fun i hi => q_keep1 (h_s0 i hi) hS
        refine lv_iinc (v := nI (i + 1)) (lv' := [(3, .int (nI (i + 1))), (0, .ref a), (1, .ref r), (2, .ref q)]) hx hb dX4_more_22 hl (k := 0) rfl (nI_1 _) (by decide) rfl (fun ls hl => ?_)
        refine lv_goto (tgt := 10) hx hb dX4_more_25 (by decide) ?_
        exact ih_10 (i + 1)  (by omega) (by omega)  _ _ hP hD hS hE _ (lv_sub hl [0, 1, 2, 3] rfl)
  
  exact lp_10 (n + 1) 0  (Nat.zero_le _) (by omega)  _ _ hP hD hS hE _ (lv_sub hl [0, 2, 3, 1] rfl)
set_option maxHeartbeats 4000000 in
set_option maxRecDepth 100000 in
theorem c_X4_sky {l : Launch} {g : gT} {sz : Nat} {b : Nat → Nat} {z : sT} (hV : VS z) : NW (S := Nat) l yX4_sky wsX4_sky ({ frames := 0, cells := 1, slots := 1020, locals := 0 } : Room) [.ref (b 0)] g (fun H => va_P g.1 vwCl (wS g b z) H) sz (fun y : Nat => [(y, ints g 1020 (kM z))]) (fun y => some (.ref y)) 1 1020 := by
  refine NW.of (cc := cX4_sky) (maxL := 12) (ret := (some (.array .int))) (by decide) rfl (Nat.le_of_ble_eq_true rfl) ?_
  intro p e s m below meth c hx hb hml hr hlocks hown hin0 hts hsz hE0 hF ls hl
  subst hsz
  have hown : s.vm.findClass RX4 = some m.cls := hown
  have hA : ∀ q, s.heap.size ≤ q → va_A [] s.heap.size q := fun q h => Or.inr h
  have hE := hE0
  have hS : va_S (va_A [] s.heap.size) s.heap s.heap [] := va_S.rf
  have hP : va_P g.1 vwCl [] s.heap := q_Pnil
  have hD : va_D (va_A [] s.heap.size) [] := q_Dnil
  have hQ0 := hF
  have hQ := hF
  have hl : lv_has ls 12 [(0, .ref (b 0))] := hl
  have hL := hV.L
  have hn := hV.n
  refine lv_sipush (v := nI 1020) hx hb dX4_sky_0 (by decide) ?_
  refine q_newI (n := 1020) hx hb (hts _ (List.mem_of_getElem? (i := 1) rfl)) hE hP hD hS hA (by omega) (Nat.le_of_ble_eq_true rfl) (Nat.le_of_ble_eq_true rfl) dX4_sky_3 (fun y H hP hD hS => ?_)
  have hP : va_P g.1 vwCl ([(y, ints g 1020 (fun _ => 0))]) H := hP
  have hD : va_D (va_A [] s.heap.size) ([(y, ints g 1020 (fun _ => 0))]) := hD
  have hE := hE0.kept hS.2.1
  have hQ := q_keep hQ0 hS
  have hP := Eq.mp (congrArg (fun f => va_P g.1 vwCl [(y, ints g 1020 f)] H) (fillS_0 (z := z))) hP
  have hD := Eq.mp (congrArg (fun f => va_D (va_A [] s.heap.size) [(y, ints g 1020 f)]) (fillS_0 (z := z))) hD
  refine lv_astore_n (lv' := [(1, .ref y), (0, .ref (b 0))]) hx hb dX4_sky_5 rfl hl (by decide) rfl (fun ls hl => ?_)
  refine lv_iconst (v := nI 0) hx hb dX4_sky_6 (by decide) ?_
  refine lv_istore_n (lv' := [(2, .int (nI 0)), (1, .ref y), (0, .ref (b 0))]) hx hb dX4_sky_7 rfl hl (by decide) rfl (fun ls hl => ?_)
  have lp_8 : ∀ (n_ i : Nat) , i ≤ 1020 → 1020 + 1 ≤ i + n_ → ∀ (H : Heap) (locs : List Loc), va_P g.1 vwCl ([(y, ints g 1020 (fillS z i))]) H → va_D (va_A [] s.heap.size) ([(y, ints g 1020 (fillS z i))]) → va_S (va_A [] s.heap.size) s.heap H locs → Ev g (va_A [] s.heap.size) s H → ∀ (ls : Array Slot), lv_has ls 12 [(2, .int (nI i)), (0, .ref (b 0)), (1, .ref y)] → W p l e ({ frames := 0, cells := 1, slots := 1020, locals := 0 } : Room) s m ([.ref (b 0)] : List Value).toArray below meth c H locs (0 + 1) (0 + 1020) (MQ below (q_Qw (fun y : Nat => [(y, ints g 1020 (kM z))]) (fun y => some (.ref y)) g [] s.heap.size) ([.ref (b 0)] : List Value).toArray s 1 1020 (va_A [] s.heap.size)) (F0 m 8 ls []) := by
    intro n_
    induction n_ with
    | zero => intro i  hi_ hn_; exact absurd hn_ (by omega)
    | succ n_ ih_8 =>
      intro i  hi_i hn_i  H locs hP hD hS hE ls hl
      have hQ := q_keep hQ0 hS
      refine lv_iload_n hx hb dX4_sky_8 rfl (lv_at hl 0 rfl) ?_
      refine lv_aload_n hx hb dX4_sky_9 rfl (lv_at hl 2 rfl) ?_
      refine q_alen (v := nI 1020) hx hb hE (hP 0 _ rfl) dX4_sky_10 rfl ?_
      refine q_icmp_ge (tgt := 32) hx hb (by omega) (by omega) dX4_sky_11 (by decide) (fun c_1 => ?_) (fun c_1 => ?_)
      · have ei : i = 1020 := by omega
        rw [ei] at hP hD
        have hP := fillS_e hP
        have hD : va_D (va_A [] s.heap.size) ([(y, ints g 1020 (skS z 0))]) := q_D1 hD
        refine lv_iconst (v := nI 0) hx hb dX4_sky_32 (by decide) ?_
        refine lv_istore_n (lv' := [(2, .int (nI 0)), (0, .ref (b 0)), (1, .ref y)]) hx hb dX4_sky_33 rfl hl (by decide) rfl (fun ls hl => ?_)
        have lp_34 : ∀ (n_ i : Nat) , i ≤ sn z → sn z + 1 ≤ i + n_ → ∀ (H : Heap) (locs : List Loc), va_P g.1 vwCl ([(y, ints g 1020 (skS z i))]) H → va_D (va_A [] s.heap.size) ([(y, ints g 1020 (skS z i))]) → va_S (va_A [] s.heap.size) s.heap H locs → Ev g (va_A [] s.heap.size) s H → ∀ (ls : Array Slot), lv_has ls 12 [(2, .int (nI i)), (0, .ref (b 0)), (1, .ref y)] → W p l e ({ frames := 0, cells := 1, slots := 1020, locals := 0 } : Room) s m ([.ref (b 0)] : List Value).toArray below meth c H locs (0 + 1) (0 + 1020) (MQ below (q_Qw (fun y : Nat => [(y, ints g 1020 (kM z))]) (fun y => some (.ref y)) g [] s.heap.size) ([.ref (b 0)] : List Value).toArray s 1 1020 (va_A [] s.heap.size)) (F0 m 34 ls []) := by
          intro n_
          induction n_ with
          | zero => intro i  hi_ hn_; exact absurd hn_ (by omega)
          | succ n_ ih_34 =>
            intro i  hi_i hn_i  H locs hP hD hS hE ls hl
            have hQ := q_keep hQ0 hS
            refine lv_iload_n hx hb dX4_sky_34 rfl (lv_at hl 0 rfl) ?_
            refine lv_aload_n hx hb dX4_sky_35 rfl (lv_at hl 1 rfl) ?_
            refine va_get (v := .ref (b 3)) (C := RX4) (T := TX4) (N := 4) hx hb hts (q_sub wsX40 6 rfl) hown hE.K hQ 0 rfl rfl 1 (by decide) (hts _ (List.mem_of_getElem? (i := 3) rfl)) (fun _ h9 => h9) rfl dX4_sky_36 ?_
            refine q_alenA (v := nI (sn z)) hx hb hE (hQ 3 _ rfl) dX4_sky_39 rfl ?_
            refine q_icmp_ge (tgt := 160) hx hb (by omega) (by omega) dX4_sky_40 (by decide) (fun c_1 => ?_) (fun c_1 => ?_)
            · have ei : i = sn z := by omega
              rw [ei, skS_m hL.1] at hP hD
              refine lv_aload_n hx hb dX4_sky_160 rfl (lv_at hl 2 rfl) ?_
              exact q_waret (y) hx hb hr (Or.inr ⟨_, rfl⟩) hlocks hP hD hS dX4_sky_161 rfl
            · have hb_ := hV.h c_1
              have hd_ := hV.hL c_1
              refine lv_aload_n hx hb dX4_sky_43 rfl (lv_at hl 1 rfl) ?_
              refine va_get (v := .ref (b 3)) (C := RX4) (T := TX4) (N := 4) hx hb hts (q_sub wsX40 6 rfl) hown hE.K hQ 0 rfl rfl 1 (by decide) (hts _ (List.mem_of_getElem? (i := 3) rfl)) (fun _ h9 => h9) rfl dX4_sky_44 ?_
              refine lv_iload_n hx hb dX4_sky_47 rfl (lv_at hl 0 rfl) ?_
              refine q_aldA (n := sn z) (r := b (sL z + 2 * i + 5)) hx hb hE (hQ 3 _ rfl) (by omega) (by omega) dX4_sky_48 (rfF_lt (by omega)) ?_
              refine lv_iconst (v := nI 2) hx hb dX4_sky_49 (by decide) ?_
              refine q_iald (v := nI (sdl z i)) hx hb hE (hQ _ _ (wS_h (by omega))) (by omega) (by omega) dX4_sky_50 rfl ?_
              refine lv_istore_n (lv' := [(3, .int (nI (sdl z i))), (2, .int (nI i)), (0, .ref (b 0)), (1, .ref y)]) hx hb dX4_sky_51 rfl hl (by decide) rfl (fun ls hl => ?_)
              refine lv_aload_n hx hb dX4_sky_52 rfl (lv_at hl 2 rfl) ?_
              refine va_get (v := .ref (b 4)) (C := RX4) (T := TX4) (N := 4) hx hb hts (q_sub wsX40 6 rfl) hown hE.K hQ 0 rfl rfl 2 (by decide) (hts _ (List.mem_of_getElem? (i := 4) rfl)) (fun _ h9 => h9) rfl dX4_sky_53 ?_
              refine lv_iload_n hx hb dX4_sky_56 rfl (lv_at hl 1 rfl) ?_
              refine q_aldA (n := sn z) (r := b (sL z + 2 * i + 6)) hx hb hE (hQ 4 _ rfl) (by omega) (by omega) dX4_sky_57 (rfF_lt (by omega)) ?_
              refine lv_astore (lv' := [(4, .ref (b (sL z + 2 * i + 6))), (3, .int (nI (sdl z i))), (2, .int (nI i)), (0, .ref (b 0)), (1, .ref y)]) hx hb dX4_sky_58 hl (by decide) rfl (fun ls hl => ?_)
              refine lv_aload hx hb dX4_sky_60 (lv_at hl 0 rfl) ?_
              refine q_alen (v := nI (ssd z i)) hx hb hE (hQ _ _ (wS_w (by omega))) dX4_sky_62 rfl ?_
              refine lv_istore (lv' := [(5, .int (nI (ssd z i))), (4, .ref (b (sL z + 2 * i + 6))), (3, .int (nI (sdl z i))), (2, .int (nI i)), (0, .ref (b 0)), (1, .ref y)]) hx hb dX4_sky_63 hl (by decide) rfl (fun ls hl => ?_)
              have hP : va_P g.1 vwCl ([(y, ints g 1020 (adWs (skS z i) (nI (ssr z i)) z i 0))]) H := hP
              have hD : va_D (va_A [] s.heap.size) ([(y, ints g 1020 (adWs (skS z i) (nI (ssr z i)) z i 0))]) := hD
              refine lv_iconst (v := nI 0) hx hb dX4_sky_65 (by decide) ?_
              refine lv_istore (lv' := [(6, .int (nI 0)), (5, .int (nI (ssd z i))), (4, .ref (b (sL z + 2 * i + 6))), (3, .int (nI (sdl z i))), (2, .int (nI i)), (0, .ref (b 0)), (1, .ref y)]) hx hb dX4_sky_66 hl (by decide) rfl (fun ls hl => ?_)
              have lp_68 : ∀ (n_ j : Nat) , j ≤ ssd z i → ssd z i + 1 ≤ j + n_ → ∀ (H : Heap) (locs : List Loc), va_P g.1 vwCl ([(y, ints g 1020 (adWs (skS z i) (nI (ssr z i)) z i j))]) H → va_D (va_A [] s.heap.size) ([(y, ints g 1020 (adWs (skS z i) (nI (ssr z i)) z i j))]) → va_S (va_A [] s.heap.size) s.heap H locs → Ev g (va_A [] s.heap.size) s H → ∀ (ls : Array Slot), lv_has ls 12 [(6, .int (nI j)), (3, .int (nI (j * sL z + sdl z i))), (4, .ref (b (sL z + 2 * i + 6))), (5, .int (nI (ssd z i))), (2, .int (nI i)), (0, .ref (b 0)), (1, .ref y)] → W p l e ({ frames := 0, cells := 1, slots := 1020, locals := 0 } : Room) s m ([.ref (b 0)] : List Value).toArray below meth c H locs (0 + 1) (0 + 1020) (MQ below (q_Qw (fun y : Nat => [(y, ints g 1020 (kM z))]) (fun y => some (.ref y)) g [] s.heap.size) ([.ref (b 0)] : List Value).toArray s 1 1020 (va_A [] s.heap.size)) (F0 m 68 ls []) := by
                intro n_
                induction n_ with
                | zero => intro j  hi_ hn_; exact absurd hn_ (by omega)
                | succ n_ ih_68 =>
                  intro j  hi_j hn_j  H locs hP hD hS hE ls hl
                  have hQ := q_keep hQ0 hS
                  refine lv_iload hx hb dX4_sky_68 (lv_at hl 0 rfl) ?_
                  refine lv_iload hx hb dX4_sky_70 (lv_at hl 3 rfl) ?_
                  refine q_icmp_ge (tgt := 154) hx hb (by omega) (by omega) dX4_sky_72 (by decide) (fun c_2 => ?_) (fun c_2 => ?_)
                  · have ej : j = ssd z i := by omega
                    rw [ej] at hP hD
                    refine lv_iinc (v := nI (i + 1)) (lv' := [(2, .int (nI (i + 1))), (6, .int (nI j)), (3, .int (nI (j * sL z + sdl z i))), (4, .ref (b (sL z + 2 * i + 6))), (5, .int (nI (ssd z i))), (0, .ref (b 0)), (1, .ref y)]) hx hb dX4_sky_154 hl (k := 4) rfl (nI_1 _) (by decide) rfl (fun ls hl => ?_)
                    refine lv_goto (tgt := 34) hx hb dX4_sky_157 (by decide) ?_
                    exact ih_34 (i + 1)  (by omega) (by omega)  _ _ hP hD hS hE _ (lv_sub hl [0, 5, 6] rfl)
                  · refine lv_aload hx hb dX4_sky_75 (lv_at hl 2 rfl) ?_
                    refine lv_iload hx hb dX4_sky_77 (lv_at hl 0 rfl) ?_
                    refine q_iald (v := (swd z i) j) hx hb hE (hQ _ _ (wS_w (by omega))) (by omega) (by omega) dX4_sky_79 rfl ?_
                    refine lv_istore (lv' := [(7, .int ((swd z i) j)), (6, .int (nI j)), (3, .int (nI (j * sL z + sdl z i))), (4, .ref (b (sL z + 2 * i + 6))), (5, .int (nI (ssd z i))), (2, .int (nI i)), (0, .ref (b 0)), (1, .ref y)]) hx hb dX4_sky_80 hl (by decide) rfl (fun ls hl => ?_)
                    refine lv_aload_n hx hb dX4_sky_82 rfl (lv_at hl 6 rfl) ?_
                    refine va_get (v := .ref (b 2)) (C := RX4) (T := TX4) (N := 4) hx hb hts (q_sub wsX40 6 rfl) hown hE.K hQ 0 rfl rfl 0 (by decide) (hts _ (List.mem_of_getElem? (i := 5) rfl)) (fun _ h9 => h9) rfl dX4_sky_83 ?_
                    refine lv_aload_n hx hb dX4_sky_86 rfl (lv_at hl 6 rfl) ?_
                    refine va_get (v := .ref (b 3)) (C := RX4) (T := TX4) (N := 4) hx hb hts (q_sub wsX40 6 rfl) hown hE.K hQ 0 rfl rfl 1 (by decide) (hts _ (List.mem_of_getElem? (i := 3) rfl)) (fun _ h9 => h9) rfl dX4_sky_87 ?_
                    refine lv_iload_n hx hb dX4_sky_90 rfl (lv_at hl 5 rfl) ?_
                    refine q_aldA (n := sn z) (r := b (sL z + 2 * i + 5)) hx hb hE (hQ 3 _ rfl) (by omega) (by omega) dX4_sky_91 (rfF_lt (by omega)) ?_
                    refine lv_iconst (v := nI 0) hx hb dX4_sky_92 (by decide) ?_
                    refine q_iald (v := nI (scd z i)) hx hb hE (hQ _ _ (wS_h (by omega))) (by omega) (by omega) dX4_sky_93 rfl ?_
                    refine q_aldA (n := sL z) (r := b (scd z i + 5)) hx hb hE (hQ 2 _ rfl) (by omega) (by omega) dX4_sky_94 (rfF_lt (by omega)) ?_
                    refine lv_astore (lv' := [(8, .ref (b (scd z i + 5))), (7, .int ((swd z i) j)), (6, .int (nI j)), (3, .int (nI (j * sL z + sdl z i))), (4, .ref (b (sL z + 2 * i + 6))), (5, .int (nI (ssd z i))), (2, .int (nI i)), (0, .ref (b 0)), (1, .ref y)]) hx hb dX4_sky_95 hl (by decide) rfl (fun ls hl => ?_)
                    refine lv_aload hx hb dX4_sky_97 (lv_at hl 0 rfl) ?_
                    refine q_alen (v := nI (sL z)) hx hb hE (hQ _ _ (wS_c (by omega))) dX4_sky_99 rfl ?_
                    refine lv_istore (lv' := [(9, .int (nI (sL z))), (8, .ref (b (scd z i + 5))), (7, .int ((swd z i) j)), (6, .int (nI j)), (3, .int (nI (j * sL z + sdl z i))), (4, .ref (b (sL z + 2 * i + 6))), (5, .int (nI (ssd z i))), (2, .int (nI i)), (0, .ref (b 0)), (1, .ref y)]) hx hb dX4_sky_100 hl (by decide) rfl (fun ls hl => ?_)
                    have hP := Eq.mp (congrArg (fun f => va_P g.1 vwCl [(y, ints g 1020 f)] H) (adW_0 (sig := adWs (skS z i) (nI (ssr z i)) z i j) (d := nI (ssr z i)) (z := z) (k := i) (w := j))) hP
                    have hD := Eq.mp (congrArg (fun f => va_D (va_A [] s.heap.size) [(y, ints g 1020 f)]) (adW_0 (sig := adWs (skS z i) (nI (ssr z i)) z i j) (d := nI (ssr z i)) (z := z) (k := i) (w := j))) hD
                    refine lv_iconst (v := nI 0) hx hb dX4_sky_102 (by decide) ?_
                    refine lv_istore (lv' := [(10, .int (nI 0)), (9, .int (nI (sL z))), (8, .ref (b (scd z i + 5))), (7, .int ((swd z i) j)), (6, .int (nI j)), (3, .int (nI (j * sL z + sdl z i))), (4, .ref (b (sL z + 2 * i + 6))), (5, .int (nI (ssd z i))), (2, .int (nI i)), (0, .ref (b 0)), (1, .ref y)]) hx hb dX4_sky_103 hl (by decide) rfl (fun ls hl => ?_)
                    have lp_105 : ∀ (n_ k : Nat) , k ≤ sL z → sL z + 1 ≤ k + n_ → ∀ (H : Heap) (locs : List Loc), va_P g.1 vwCl ([(y, ints g 1020 (adW (adWs (skS z i) (nI (ssr z i)) z i j) (nI (ssr z i)) z i j k))]) H → va_D (va_A [] s.heap.size) ([(y, ints g 1020 (adW (adWs (skS z i) (nI (ssr z i)) z i j) (nI (ssr z i)) z i j k))]) → va_S (va_A [] s.heap.size) s.heap H locs → Ev g (va_A [] s.heap.size) s H → ∀ (ls : Array Slot), lv_has ls 12 [(10, .int (nI k)), (3, .int (nI (j * sL z + sdl z i + k))), (6, .int (nI j)), (4, .ref (b (sL z + 2 * i + 6))), (5, .int (nI (ssd z i))), (7, .int (swd z i j)), (8, .ref (b (scd z i + 5))), (9, .int (nI (sL z))), (2, .int (nI i)), (0, .ref (b 0)), (1, .ref y)] → W p l e ({ frames := 0, cells := 1, slots := 1020, locals := 0 } : Room) s m ([.ref (b 0)] : List Value).toArray below meth c H locs (0 + 1) (0 + 1020) (MQ below (q_Qw (fun y : Nat => [(y, ints g 1020 (kM z))]) (fun y => some (.ref y)) g [] s.heap.size) ([.ref (b 0)] : List Value).toArray s 1 1020 (va_A [] s.heap.size)) (F0 m 105 ls []) := by
                      intro n_
                      induction n_ with
                      | zero => intro k  hi_ hn_; exact absurd hn_ (by omega)
                      | succ n_ ih_105 =>
                        intro k  hi_k hn_k  H locs hP hD hS hE ls hl
                        have hQ := q_keep hQ0 hS
                        refine lv_iload hx hb dX4_sky_105 (lv_at hl 0 rfl) ?_
                        refine lv_iload hx hb dX4_sky_107 (lv_at hl 7 rfl) ?_
                        refine q_icmp_ge (tgt := 148) hx hb (by omega) (by omega) dX4_sky_109 (by decide) (fun c_3 => ?_) (fun c_3 => ?_)
                        · have ek : k = sL z := by omega
                          rw [ek] at hP hD hl
                          have hP : va_P g.1 vwCl ([(y, ints g 1020 (adWs (skS z i) (nI (ssr z i)) z i (j + 1)))]) H := hP
                          have hD : va_D (va_A [] s.heap.size) ([(y, ints g 1020 (adWs (skS z i) (nI (ssr z i)) z i (j + 1)))]) := hD
                          have el : j * sL z + sdl z i + sL z = (j + 1) * sL z + sdl z i := by rw [Nat.succ_mul]; omega
                          rw [el] at hl
                          refine lv_iinc (v := nI (j + 1)) (lv' := [(6, .int (nI (j + 1))), (10, .int (nI (sL z))), (3, .int (nI ((j + 1) * sL z + sdl z i))), (4, .ref (b (sL z + 2 * i + 6))), (5, .int (nI (ssd z i))), (7, .int (swd z i j)), (8, .ref (b (scd z i + 5))), (9, .int (nI (sL z))), (2, .int (nI i)), (0, .ref (b 0)), (1, .ref y)]) hx hb dX4_sky_148 hl (k := 2) rfl (nI_1 _) (by decide) rfl (fun ls hl => ?_)
                          refine lv_goto (tgt := 68) hx hb dX4_sky_151 (by decide) ?_
                          exact ih_68 (j + 1)  (by omega) (by omega)  _ _ hP hD hS hE _ (lv_sub hl [0, 2, 3, 4, 8, 9, 10] rfl)
                        · have hm := mul16 (a := j) hL.2
                          refine lv_aload hx hb dX4_sky_112 (lv_at hl 6 rfl) ?_
                          refine lv_iload hx hb dX4_sky_114 (lv_at hl 0 rfl) ?_
                          refine q_iald (v := (chip (scd z i)) k) hx hb hE (hQ _ _ (wS_c (by omega))) (by omega) (by omega) dX4_sky_116 rfl ?_
                          refine lv_istore (lv' := [(11, .int ((chip (scd z i)) k)), (10, .int (nI k)), (3, .int (nI (j * sL z + sdl z i + k))), (6, .int (nI j)), (4, .ref (b (sL z + 2 * i + 6))), (5, .int (nI (ssd z i))), (7, .int (swd z i j)), (8, .ref (b (scd z i + 5))), (9, .int (nI (sL z))), (2, .int (nI i)), (0, .ref (b 0)), (1, .ref y)]) hx hb dX4_sky_117 hl (by decide) rfl (fun ls hl => ?_)
                          refine lv_aload_n hx hb dX4_sky_119 rfl (lv_at hl 11 rfl) ?_
                          refine lv_iload_n hx hb dX4_sky_120 rfl (lv_at hl 2 rfl) ?_
                          refine lv_dup2_11 hx hb dX4_sky_121 rfl rfl ?_
                          refine q_iald (v := (adW (adWs (skS z i) (nI (ssr z i)) z i j) (nI (ssr z i)) z i j k) (j * sL z + sdl z i + k)) hx hb hE (hP 0 _ rfl) (by omega) (by omega) dX4_sky_122 rfl ?_
                          refine lv_aload_n hx hb dX4_sky_123 rfl (lv_at hl 10 rfl) ?_
                          refine va_get (v := .ref (b 3)) (C := RX4) (T := TX4) (N := 4) hx hb hts (q_sub wsX40 6 rfl) hown hE.K hQ 0 rfl rfl 1 (by decide) (hts _ (List.mem_of_getElem? (i := 3) rfl)) (fun _ h9 => h9) rfl dX4_sky_124 ?_
                          refine lv_iload_n hx hb dX4_sky_127 rfl (lv_at hl 9 rfl) ?_
                          refine q_aldA (n := sn z) (r := b (sL z + 2 * i + 5)) hx hb hE (hQ 3 _ rfl) (by omega) (by omega) dX4_sky_128 (rfF_lt (by omega)) ?_
                          refine lv_iconst (v := nI 1) hx hb dX4_sky_129 (by decide) ?_
                          refine q_iald (v := nI (ssr z i)) hx hb hE (hQ _ _ (wS_h (by omega))) (by omega) (by omega) dX4_sky_130 rfl ?_
                          refine lv_iload hx hb dX4_sky_131 (lv_at hl 6 rfl) ?_
                          refine q_imul (v := nI (ssr z i) * swd z i j) hx hb dX4_sky_133 rfl ?_
                          refine lv_iload hx hb dX4_sky_134 (lv_at hl 0 rfl) ?_
                          refine q_imul (v := nI (ssr z i) * swd z i j * chip (scd z i) k) hx hb dX4_sky_136 rfl ?_
                          refine q_iadd (v := ((adW (adWs (skS z i) (nI (ssr z i)) z i j) (nI (ssr z i)) z i j k) (j * sL z + sdl z i + k)) + (nI (ssr z i) * swd z i j * chip (scd z i) k)) hx hb dX4_sky_137 rfl ?_
                          refine q_iast hx hb hE hP hD hS (q0 := 0) rfl (by omega) (by omega) dX4_sky_138 (fun H locs hP hD hS => ?_)
                          have hP : va_P g.1 vwCl ([(y, ints g 1020 (adW (adWs (skS z i) (nI (ssr z i)) z i j) (nI (ssr z i)) z i j (k + 1)))]) H := (fun h => by rw [adW_s] at h; exact h) hP
                          have hD : va_D (va_A [] s.heap.size) ([(y, ints g 1020 (adW (adWs (skS z i) (nI (ssr z i)) z i j) (nI (ssr z i)) z i j (k + 1)))]) := (fun h => by rw [adW_s] at h; exact h) hD
                          have hE := hE0.kept hS.2.1
                          have hQ := q_keep hQ0 hS
                          refine lv_iinc (v := nI (j * sL z + sdl z i + k + 1)) (lv' := [(3, .int (nI (j * sL z + sdl z i + k + 1))), (11, .int ((chip (scd z i)) k)), (10, .int (nI k)), (6, .int (nI j)), (4, .ref (b (sL z + 2 * i + 6))), (5, .int (nI (ssd z i))), (7, .int (swd z i j)), (8, .ref (b (scd z i + 5))), (9, .int (nI (sL z))), (2, .int (nI i)), (0, .ref (b 0)), (1, .ref y)]) hx hb dX4_sky_139 hl (k := 2) rfl (nI_1 _) (by decide) rfl (fun ls hl => ?_)
                          refine lv_iinc (v := nI (k + 1)) (lv' := [(10, .int (nI (k + 1))), (3, .int (nI (j * sL z + sdl z i + k + 1))), (11, .int ((chip (scd z i)) k)), (6, .int (nI j)), (4, .ref (b (sL z + 2 * i + 6))), (5, .int (nI (ssd z i))), (7, .int (swd z i j)), (8, .ref (b (scd z i + 5))), (9, .int (nI (sL z))), (2, .int (nI i)), (0, .ref (b 0)), (1, .ref y)]) hx hb dX4_sky_142 hl (k := 2) rfl (nI_1 _) (by decide) rfl (fun ls hl => ?_)
                          refine lv_goto (tgt := 105) hx hb dX4_sky_145 (by decide) ?_
                          exact ih_105 (k + 1)  (by omega) (by omega)  _ _ hP hD hS hE _ (lv_sub hl [0, 1, 3, 4, 5, 6, 7, 8, 9, 10, 11] rfl)
                    
                    exact lp_105 (sL z + 1) 0  (Nat.zero_le _) (by omega)  _ _ hP hD hS hE _ (lv_sub hl [0, 5, 4, 6, 7, 3, 2, 1, 8, 9, 10] rfl)
              have hl3 : nI (sdl z i) = nI (0 * sL z + sdl z i) := by rw [Nat.zero_mul, Nat.zero_add]
              rw [hl3] at hl
              exact lp_68 (ssd z i + 1) 0  (Nat.zero_le _) (by omega)  _ _ hP hD hS hE _ (lv_sub hl [0, 3, 2, 1, 4, 5, 6] rfl)
        
        exact lp_34 (sn z + 1) 0  (Nat.zero_le _) (by omega)  _ _ hP hD hS hE _ (lv_sub hl [0, 1, 2] rfl)
      · refine lv_aload_n hx hb dX4_sky_14 rfl (lv_at hl 2 rfl) ?_
        refine lv_iload_n hx hb dX4_sky_15 rfl (lv_at hl 0 rfl) ?_
        refine lv_aload_n hx hb dX4_sky_16 rfl (lv_at hl 1 rfl) ?_
        refine va_get (v := .ref (b 1)) (C := RX4) (T := TX4) (N := 4) hx hb hts (q_sub wsX40 6 rfl) hown hE.K hQ 0 rfl rfl 3 (by decide) (hts _ (List.mem_of_getElem? (i := 2) rfl)) (fun _ h9 => h9) rfl dX4_sky_17 ?_
        refine lv_iload_n hx hb dX4_sky_20 rfl (lv_at hl 0 rfl) ?_
        refine lv_bipush (v := nI 20) hx hb dX4_sky_21 (by decide) ?_
        refine q_irem (v := nI (i % 20)) hx hb dX4_sky_23 (q_ne0 (by omega) (by omega)) (q_rem (by omega) (by omega) (by omega)) ?_
        refine q_iald (v := (sst z) (i % 20)) hx hb hE (hQ 1 _ rfl) (by omega) (by omega) dX4_sky_24 rfl ?_
        refine q_iast hx hb hE hP hD hS (q0 := 0) rfl (by omega) (by omega) dX4_sky_25 (fun H locs hP hD hS => ?_)
        have hP : va_P g.1 vwCl ([(y, ints g 1020 (fillS z (i + 1)))]) H := (fun h => by rw [fillS_s] at h; exact h) hP
        have hD : va_D (va_A [] s.heap.size) ([(y, ints g 1020 (fillS z (i + 1)))]) := (fun h => by rw [fillS_s] at h; exact h) hD
        have hE := hE0.kept hS.2.1
        have hQ := q_keep hQ0 hS
        refine lv_iinc (v := nI (i + 1)) (lv' := [(2, .int (nI (i + 1))), (0, .ref (b 0)), (1, .ref y)]) hx hb dX4_sky_26 hl (k := 0) rfl (nI_1 _) (by decide) rfl (fun ls hl => ?_)
        refine lv_goto (tgt := 8) hx hb dX4_sky_29 (by decide) ?_
        exact ih_8 (i + 1)  (by omega) (by omega)  _ _ hP hD hS hE _ (lv_sub hl [0, 1, 2] rfl)
  
  exact lp_8 (1020 + 1) 0  (Nat.zero_le _) (by omega)  _ _ hP hD hS hE _ (lv_sub hl [0, 2, 1] rfl)
set_option maxHeartbeats 4000000 in
set_option maxRecDepth 100000 in
theorem c_X4_wrong_ {l : Launch} {g : gT} {sz : Nat} {b : Nat → Nat} {z : sT} (hV : VS z) : NW (S := Unit) l yX4_wrong_ wsX4_wrong_ ({ frames := 4, cells := 1, slots := 1020, locals := 92 } : Room) [.ref (b 0)] g (fun H => va_P g.1 vwCl (wS g b z) H) sz (fun _ : Unit => []) (fun _ => some (.int (nI (allW z (kM z) (sn z))))) 1 1020 := by
  refine NW.of (cc := cX4_wrong_) (maxL := 4) (ret := (some .int)) (by decide) rfl (Nat.le_of_ble_eq_true rfl) ?_
  intro p e s m below meth c hx hb hml hr hlocks hown hin0 hts hsz hE0 hF ls hl
  subst hsz
  have hown : s.vm.findClass RX4 = some m.cls := hown
  have hA : ∀ q, s.heap.size ≤ q → va_A [] s.heap.size q := fun q h => Or.inr h
  have hE := hE0
  have hS : va_S (va_A [] s.heap.size) s.heap s.heap [] := va_S.rf
  have hP : va_P g.1 vwCl [] s.heap := q_Pnil
  have hD : va_D (va_A [] s.heap.size) [] := q_Dnil
  have hQ0 := hF
  have hQ := hF
  have hl : lv_has ls 4 [(0, .ref (b 0))] := hl
  have hL := hV.L
  have hn := hV.n
  refine lv_aload_n hx hb dX4_wrong__0 rfl (lv_at hl 0 rfl) ?_
  refine q_nwV (wr := []) (As := []) (rest := []) ⟨hx, hb, hml, hown, hts⟩ (c_X4_sky hV) (cwV 0 hts gX4_wrong__X4_sky rfl rfl rfl (by decide +kernel) ⟨Nat.le_of_ble_eq_true rfl, Nat.le_of_ble_eq_true rfl⟩) hE hP hD hS hA hQ (va_recv hE.K hQ (ci := 5) (q0 := 0) rfl rfl) rfl hl.1 rfl (Nat.le_of_ble_eq_true rfl) dX4_wrong__1 ⟨Nat.le_of_ble_eq_true rfl, Nat.le_of_ble_eq_true rfl⟩ (fun y H locs hP hD hS hE => ?_)
  have hP : va_P g.1 vwCl ([(y, ints g 1020 (kM z))]) H := hP
  have hD : va_D (va_A [] s.heap.size) ([(y, ints g 1020 (kM z))]) := hD
  have hQ := q_keep hQ0 hS
  refine lv_astore_n (lv' := [(1, .ref y), (0, .ref (b 0))]) hx hb dX4_wrong__4 rfl hl (by decide) rfl (fun ls hl => ?_)
  refine lv_iconst (v := nI 0) hx hb dX4_wrong__5 (by decide) ?_
  refine lv_istore_n (lv' := [(2, .int (nI 0)), (1, .ref y), (0, .ref (b 0))]) hx hb dX4_wrong__6 rfl hl (by decide) rfl (fun ls hl => ?_)
  refine lv_iconst (v := nI 0) hx hb dX4_wrong__7 (by decide) ?_
  refine lv_istore_n (lv' := [(3, .int (nI 0)), (2, .int (nI 0)), (1, .ref y), (0, .ref (b 0))]) hx hb dX4_wrong__8 rfl hl (by decide) rfl (fun ls hl => ?_)
  have lp_9 : ∀ (n_ i : Nat) , i ≤ sn z → sn z + 1 ≤ i + n_ → ∀ (H : Heap) (locs : List Loc), va_P g.1 vwCl ([(y, ints g 1020 (kM z))]) H → va_D (va_A [] s.heap.size) ([(y, ints g 1020 (kM z))]) → va_S (va_A [] s.heap.size) s.heap H locs → Ev g (va_A [] s.heap.size) s H → ∀ (ls : Array Slot), lv_has ls 4 [(3, .int (nI i)), (2, .int (nI (allW z (kM z) i))), (0, .ref (b 0)), (1, .ref y)] → W p l e ({ frames := 4, cells := 1, slots := 1020, locals := 92 } : Room) s m ([.ref (b 0)] : List Value).toArray below meth c H locs (0 + 1) (0 + 1020) (MQ below (q_Qw (fun _ : Unit => []) (fun _ => some (.int (nI (allW z (kM z) (sn z))))) g [] s.heap.size) ([.ref (b 0)] : List Value).toArray s 1 1020 (va_A [] s.heap.size)) (F0 m 9 ls []) := by
    intro n_
    induction n_ with
    | zero => intro i  hi_ hn_; exact absurd hn_ (by omega)
    | succ n_ ih_9 =>
      intro i  hi_i hn_i  H locs hP hD hS hE ls hl
      have hQ := q_keep hQ0 hS
      refine lv_iload_n hx hb dX4_wrong__9 rfl (lv_at hl 0 rfl) ?_
      refine lv_aload_n hx hb dX4_wrong__10 rfl (lv_at hl 2 rfl) ?_
      refine va_get (v := .ref (b 3)) (C := RX4) (T := TX4) (N := 4) hx hb hts (q_sub wsX40 27 rfl) hown hE.K hQ 0 rfl rfl 1 (by decide) (hts _ (List.mem_of_getElem? (i := 1) rfl)) (fun _ h9 => h9) rfl dX4_wrong__11 ?_
      refine q_alenA (v := nI (sn z)) hx hb hE (hQ 3 _ rfl) dX4_wrong__14 rfl ?_
      refine q_icmp_ge (tgt := 33) hx hb (by omega) (by omega) dX4_wrong__15 (by decide) (fun c_1 => ?_) (fun c_1 => ?_)
      · refine lv_iload_n hx hb dX4_wrong__33 rfl (lv_at hl 1 rfl) ?_
        have hP : va_P g.1 vwCl [] H := q_Pnil
        have hD : va_D (va_A [] s.heap.size) [] := q_Dnil
        exact q_wiret (()) hx hb hr hlocks hP hD hS dX4_wrong__34 (by rw [show i = sn z by omega])
      · refine lv_iload_n hx hb dX4_wrong__18 rfl (lv_at hl 1 rfl) ?_
        refine lv_aload_n hx hb dX4_wrong__19 rfl (lv_at hl 2 rfl) ?_
        refine lv_aload_n hx hb dX4_wrong__20 rfl (lv_at hl 3 rfl) ?_
        refine lv_iload_n hx hb dX4_wrong__21 rfl (lv_at hl 0 rfl) ?_
        refine q_roV (As := [.ref y, .int (nI i)]) (rest := [.int (nI (allW z (kM z) i))]) ⟨hx, hb, hml, hown, hts⟩ (c_X4_wrong hV (k := i) c_1 (y0 := y) (K := kM z)) (cwV 2 hts gX4_wrong__X4_wrong rfl rfl rfl (by decide +kernel) ⟨Nat.le_of_ble_eq_true rfl, Nat.le_of_ble_eq_true rfl⟩) hE (fun q h => hA q (Nat.le_trans hS.1 h)) ⟨hQ, hP 0 _ rfl⟩ (va_recv hE.K hQ (ci := 5) (q0 := 0) rfl rfl) rfl hl.1 rfl (Nat.le_of_ble_eq_true rfl) dX4_wrong__22 ⟨Nat.le_of_ble_eq_true rfl, Nat.le_of_ble_eq_true rfl⟩ ?_
        refine q_iadd (v := nI (allW z (kM z) (i + 1))) hx hb dX4_wrong__25 (nI_add _ _) ?_
        refine lv_istore_n (lv' := [(2, .int (nI (allW z (kM z) (i + 1)))), (3, .int (nI i)), (0, .ref (b 0)), (1, .ref y)]) hx hb dX4_wrong__26 rfl hl (by decide) rfl (fun ls hl => ?_)
        refine lv_iinc (v := nI (i + 1)) (lv' := [(3, .int (nI (i + 1))), (2, .int (nI (allW z (kM z) (i + 1)))), (0, .ref (b 0)), (1, .ref y)]) hx hb dX4_wrong__27 hl (k := 1) rfl (nI_1 _) (by decide) rfl (fun ls hl => ?_)
        refine lv_goto (tgt := 9) hx hb dX4_wrong__30 (by decide) ?_
        exact ih_9 (i + 1)  (by omega) (by omega)  _ _ hP hD hS hE _ (lv_sub hl [0, 1, 2, 3] rfl)
  
  exact lp_9 (sn z + 1) 0  (Nat.zero_le _) (by omega)  _ _ hP hD hS hE _ (lv_sub hl [0, 1, 3, 2] rfl)
set_option maxHeartbeats 4000000 in
set_option maxRecDepth 100000 in
theorem c_X4_init {l : Launch} {g : gT} {sz : Nat} {m0 : Nat} : WR (S := (Nat × (Nat → Nat)) × Nat × Nat × Nat) l yX4_init wsX4_init ({ frames := 4, cells := 22, slots := 120, locals := 96 } : Room) [.ref m0] g (([(m0, .inr (5, [.null, .null, .null, .null]))] : va_W)) sz (fun u : (Nat × (Nat → Nat)) × Nat × Nat × Nat => wS g (bB m0 u.2.2.2 u.1.1 u.2.1 u.2.2.1 u.1.2) z0) (fun _ => none) 22 120 := by
  refine WR.of (cc := cX4_init) (maxL := 1) (ret := none) (by decide) rfl (Nat.le_of_ble_eq_true rfl) ?_
  intro p e s m below meth c hx hb hml hr hlocks hown hin0 hts hsz hE0 hP hD ls hl
  subst hsz
  have hown : s.vm.findClass RX4 = some m.cls := hown
  have hin : meth.name = "<init>" := hin0 rfl
  have hA : ∀ q, s.heap.size ≤ q → va_A (([(m0, .inr (5, [.null, .null, .null, .null]))] : va_W)) s.heap.size q := fun q h => Or.inr h
  have hE := hE0
  have hS : va_S (va_A (([(m0, .inr (5, [.null, .null, .null, .null]))] : va_W)) s.heap.size) s.heap s.heap [] := va_S.rf
  have hl : lv_has ls 1 [(0, .ref m0)] := hl
  refine lv_aload_n hx hb dX4_init_0 rfl (lv_at hl 0 rfl) ?_
  refine W.objInit hx hb hown (hts _ (List.mem_of_getElem? (i := 1) rfl)) (hts _ (List.mem_of_getElem? (i := 2) rfl)) (hts _ (List.mem_of_getElem? (i := 3) rfl)) rfl (by rw [hml]; exact hl.1) rfl dX4_init_1 (Nat.le_of_ble_eq_true rfl) (Nat.le_of_ble_eq_true rfl) ?_
  refine W.eq (g2 := F0 m 4 ls []) rfl ?_
  refine lv_aload_n hx hb dX4_init_4 rfl (lv_at hl 0 rfl) ?_
  refine lv_bipush (v := nI 8) hx hb dX4_init_5 (by decide) ?_
  refine q_nwS (wr := ([(m0, .inr (5, [.null, .null, .null, .null]))] : va_W)) (As := [.int (nI 8)]) (rest := [.ref m0]) ⟨hx, hb, hml, hown, hts⟩ (c_tab8 ) (va_cwS 1 hts gX4_init_X4_table rfl rfl rfl (by decide +kernel) ⟨Nat.le_of_ble_eq_true rfl, Nat.le_of_ble_eq_true rfl⟩) hE hP hD hS hA trivial rfl hl.1 rfl (Nat.le_of_ble_eq_true rfl) dX4_init_7 ⟨Nat.le_of_ble_eq_true rfl, Nat.le_of_ble_eq_true rfl⟩ (fun u_ H locs hP hD hS hE => ?_)
  have hP : va_P g.1 vwCl ((m0, .inr (5, [.null, .null, .null, .null])) :: (u_.1, refs g 8 (rfF u_.2 8)) :: tRows g 8 u_.2 chip) H := hP
  have hD : va_D (va_A (([(m0, .inr (5, [.null, .null, .null, .null]))] : va_W)) s.heap.size) ((m0, .inr (5, [.null, .null, .null, .null])) :: (u_.1, refs g 8 (rfF u_.2 8)) :: tRows g 8 u_.2 chip) := hD
  refine va_put (D := g.1) (ci := 5) (v := .ref u_.1) (ty := .array (.array .int)) (C := RX4) (T := TX4) (N := 4) hx hb hts (q_sub wsX40 15 rfl) tyX4 tyX4_ok nmX4 hown hE.K hP hD hS 0 rfl rfl 0 (by decide) (hts _ (List.mem_of_getElem? (i := 4) rfl)) (fun _ h9 => h9) rfl (by decide +kernel) rfl rfl (Nat.le_of_ble_eq_true rfl) dX4_init_10 (fun H locs hP hD hS => ?_)
  have hP : va_P g.1 vwCl ((m0, .inr (5, [.ref u_.1, .null, .null, .null])) :: (u_.1, refs g 8 (rfF u_.2 8)) :: tRows g 8 u_.2 chip) H := hP
  have hD : va_D (va_A (([(m0, .inr (5, [.null, .null, .null, .null]))] : va_W)) s.heap.size) ((m0, .inr (5, [.ref u_.1, .null, .null, .null])) :: (u_.1, refs g 8 (rfF u_.2 8)) :: tRows g 8 u_.2 chip) := hD
  have hE := hE0.kept hS.2.1
  refine lv_aload_n hx hb dX4_init_13 rfl (lv_at hl 0 rfl) ?_
  refine lv_iconst (v := nI 0) hx hb dX4_init_14 (by decide) ?_
  refine q_newA (n := 0) hx hb hown (hts _ (List.mem_of_getElem? (i := 5) rfl)) hE hP hD hS hA (by omega) (Nat.le_of_ble_eq_true rfl) (Nat.le_of_ble_eq_true rfl) dX4_init_15 (fun h H hP hD hS => ?_)
  have hP : va_P g.1 vwCl ((m0, .inr (5, [.ref u_.1, .null, .null, .null])) :: (u_.1, refs g 8 (rfF u_.2 8)) :: (tRows g 8 u_.2 chip ++ [(h, refs g 0 (fun _ => none))])) H := hP
  have hD : va_D (va_A (([(m0, .inr (5, [.null, .null, .null, .null]))] : va_W)) s.heap.size) ((m0, .inr (5, [.ref u_.1, .null, .null, .null])) :: (u_.1, refs g 8 (rfF u_.2 8)) :: (tRows g 8 u_.2 chip ++ [(h, refs g 0 (fun _ => none))])) := hD
  have hE := hE0.kept hS.2.1
  refine va_put (D := g.1) (ci := 5) (v := .ref h) (ty := .array (.array .int)) (C := RX4) (T := TX4) (N := 4) hx hb hts (q_sub wsX40 15 rfl) tyX4 tyX4_ok nmX4 hown hE.K hP hD hS 0 rfl rfl 1 (by decide) (hts _ (List.mem_of_getElem? (i := 6) rfl)) (fun _ h9 => h9) rfl (by decide +kernel) rfl rfl (Nat.le_of_ble_eq_true rfl) dX4_init_18 (fun H locs hP hD hS => ?_)
  have hP : va_P g.1 vwCl ((m0, .inr (5, [.ref u_.1, .ref h, .null, .null])) :: (u_.1, refs g 8 (rfF u_.2 8)) :: (tRows g 8 u_.2 chip ++ [(h, refs g 0 (fun _ => none))])) H := hP
  have hD : va_D (va_A (([(m0, .inr (5, [.null, .null, .null, .null]))] : va_W)) s.heap.size) ((m0, .inr (5, [.ref u_.1, .ref h, .null, .null])) :: (u_.1, refs g 8 (rfF u_.2 8)) :: (tRows g 8 u_.2 chip ++ [(h, refs g 0 (fun _ => none))])) := hD
  have hE := hE0.kept hS.2.1
  refine lv_aload_n hx hb dX4_init_21 rfl (lv_at hl 0 rfl) ?_
  refine lv_iconst (v := nI 0) hx hb dX4_init_22 (by decide) ?_
  refine q_newA (n := 0) hx hb hown (hts _ (List.mem_of_getElem? (i := 5) rfl)) hE hP hD hS hA (by omega) (Nat.le_of_ble_eq_true rfl) (Nat.le_of_ble_eq_true rfl) dX4_init_23 (fun w H hP hD hS => ?_)
  have hP : va_P g.1 vwCl ((m0, .inr (5, [.ref u_.1, .ref h, .null, .null])) :: (u_.1, refs g 8 (rfF u_.2 8)) :: ((tRows g 8 u_.2 chip ++ [(h, refs g 0 (fun _ => none))]) ++ [(w, refs g 0 (fun _ => none))])) H := hP
  have hD : va_D (va_A (([(m0, .inr (5, [.null, .null, .null, .null]))] : va_W)) s.heap.size) ((m0, .inr (5, [.ref u_.1, .ref h, .null, .null])) :: (u_.1, refs g 8 (rfF u_.2 8)) :: ((tRows g 8 u_.2 chip ++ [(h, refs g 0 (fun _ => none))]) ++ [(w, refs g 0 (fun _ => none))])) := hD
  have hE := hE0.kept hS.2.1
  refine va_put (D := g.1) (ci := 5) (v := .ref w) (ty := .array (.array .int)) (C := RX4) (T := TX4) (N := 4) hx hb hts (q_sub wsX40 15 rfl) tyX4 tyX4_ok nmX4 hown hE.K hP hD hS 0 rfl rfl 2 (by decide) (hts _ (List.mem_of_getElem? (i := 7) rfl)) (fun _ h9 => h9) rfl (by decide +kernel) rfl rfl (Nat.le_of_ble_eq_true rfl) dX4_init_26 (fun H locs hP hD hS => ?_)
  have hP : va_P g.1 vwCl ((m0, .inr (5, [.ref u_.1, .ref h, .ref w, .null])) :: (u_.1, refs g 8 (rfF u_.2 8)) :: ((tRows g 8 u_.2 chip ++ [(h, refs g 0 (fun _ => none))]) ++ [(w, refs g 0 (fun _ => none))])) H := hP
  have hD : va_D (va_A (([(m0, .inr (5, [.null, .null, .null, .null]))] : va_W)) s.heap.size) ((m0, .inr (5, [.ref u_.1, .ref h, .ref w, .null])) :: (u_.1, refs g 8 (rfF u_.2 8)) :: ((tRows g 8 u_.2 chip ++ [(h, refs g 0 (fun _ => none))]) ++ [(w, refs g 0 (fun _ => none))])) := hD
  have hE := hE0.kept hS.2.1
  refine lv_aload_n hx hb dX4_init_29 rfl (lv_at hl 0 rfl) ?_
  refine lv_bipush (v := nI 20) hx hb dX4_init_30 (by decide) ?_
  refine q_newI (n := 20) hx hb (hts _ (List.mem_of_getElem? (i := 8) rfl)) hE hP hD hS hA (by omega) (Nat.le_of_ble_eq_true rfl) (Nat.le_of_ble_eq_true rfl) dX4_init_32 (fun s_ H hP hD hS => ?_)
  have hP : va_P g.1 vwCl ((m0, .inr (5, [.ref u_.1, .ref h, .ref w, .null])) :: (u_.1, refs g 8 (rfF u_.2 8)) :: (((tRows g 8 u_.2 chip ++ [(h, refs g 0 (fun _ => none))]) ++ [(w, refs g 0 (fun _ => none))]) ++ [(s_, ints g 20 (fun _ => 0))])) H := hP
  have hD : va_D (va_A (([(m0, .inr (5, [.null, .null, .null, .null]))] : va_W)) s.heap.size) ((m0, .inr (5, [.ref u_.1, .ref h, .ref w, .null])) :: (u_.1, refs g 8 (rfF u_.2 8)) :: (((tRows g 8 u_.2 chip ++ [(h, refs g 0 (fun _ => none))]) ++ [(w, refs g 0 (fun _ => none))]) ++ [(s_, ints g 20 (fun _ => 0))])) := hD
  have hE := hE0.kept hS.2.1
  refine va_put (D := g.1) (ci := 5) (v := .ref s_) (ty := .array .int) (C := RX4) (T := TX4) (N := 4) hx hb hts (q_sub wsX40 15 rfl) tyX4 tyX4_ok nmX4 hown hE.K hP hD hS 0 rfl rfl 3 (by decide) (hts _ (List.mem_of_getElem? (i := 9) rfl)) (fun _ h9 => h9) rfl (by decide +kernel) rfl rfl (Nat.le_of_ble_eq_true rfl) dX4_init_34 (fun H locs hP hD hS => ?_)
  have hP : va_P g.1 vwCl ((m0, .inr (5, [.ref u_.1, .ref h, .ref w, .ref s_])) :: (u_.1, refs g 8 (rfF u_.2 8)) :: (((tRows g 8 u_.2 chip ++ [(h, refs g 0 (fun _ => none))]) ++ [(w, refs g 0 (fun _ => none))]) ++ [(s_, ints g 20 (fun _ => 0))])) H := hP
  have hD : va_D (va_A (([(m0, .inr (5, [.null, .null, .null, .null]))] : va_W)) s.heap.size) ((m0, .inr (5, [.ref u_.1, .ref h, .ref w, .ref s_])) :: (u_.1, refs g 8 (rfF u_.2 8)) :: (((tRows g 8 u_.2 chip ++ [(h, refs g 0 (fun _ => none))]) ++ [(w, refs g 0 (fun _ => none))]) ++ [(s_, ints g 20 (fun _ => 0))])) := hD
  have hE := hE0.kept hS.2.1
  have hP : va_P g.1 vwCl (wS g (bB m0 s_ u_.1 h w u_.2) z0) H := by rw [wS_new rfl]; exact q_spP (q_pe pm_new) hP
  have hD : va_D (va_A ([(m0, .inr (5, [.null, .null, .null, .null]))] : va_W) s.heap.size) (wS g (bB m0 s_ u_.1 h w u_.2) z0) := by rw [wS_new rfl]; exact q_spD (q_pe pm_new) hD
  exact q_wvret ((u_, h, w, s_)) hx hb hr hlocks hP hD hS dX4_init_37 rfl
