/-! ===== the law's loop ===== -/
set_option maxHeartbeats 4000000 in
set_option maxRecDepth 100000 in
/-- one turn: from the switch to the loop's foot -/
theorem lw_turn {p : Program} {l : Launch} {e : Env} {s : State} {m : MethodId} {below : List Frame} {meth : Method} {c : Code} {H : Heap} {locs : List Loc} {Q : State → Prop} {ls : Array Slot} {g : gT} {am ad : Nat → Nat} {oa : Nat} {th mc : Int32} {M : Nat} {sig sa : Nat → Int32} {z : sT} {f : Nat → Int64} {b L i cells slots : Nat} {xs : Nat → Int32} (C : LC p l s m c b L xs) (D : LD g s am ad oa th mc M sig sa z f H locs) (hi : 4 * i + 4 ≤ L) (hc : cells + 3 ≤ 601024) (hs : slots + 27 ≤ 7293034) (hl : lv_has ls 9 (lL (4 * i) b (ad 0) (am 0) oa)) (kk : LK p l e s m below meth c g b am oa (ad 0) (4 * i) cells slots Q) {k : Nat} (hk : k < 32) : W p l e room_1 s m #[Value.ref b] below meth c H locs cells slots Q (F0 m 39 ls [.int (nI k)]) := by
  have hx := C.1
  have hb := C.2.1
  have hV := D.1.1
  have hL := hV.L
  have hn := hV.n
  by_cases h20 : 20 ≤ k
  · refine lv_tableOut (tgt := 1379) hx hb dL_law_39 (by rw [nI_toInt (by omega)]; omega) (by decide) ?_
    exact W.widen (k := cells + 3) (n := slots + 27) (by omega) (by omega) (kk ad th mc M sig sa z f H locs _ rfl D hl)
  rcases (show k = 0 ∨ k = 1 ∨ k = 2 ∨ k = 3 ∨ k = 4 ∨ k = 5 ∨ k = 6 ∨ k = 7 ∨ k = 8 ∨ k = 9 ∨ k = 10 ∨ k = 11 ∨ k = 12 ∨ k = 13 ∨ k = 14 ∨ k = 15 ∨ k = 16 ∨ k = 17 ∨ k = 18 ∨ k = 19 by omega) with rfl | rfl | rfl | rfl | rfl | rfl | rfl | rfl | rfl | rfl | rfl | rfl | rfl | rfl | rfl | rfl | rfl | rfl | rfl | rfl
  · refine lv_tableIn (tgt := 132) hx hb dL_law_39 (by decide) (by decide) rfl (by decide) ?_
    by_cases h0_ : inB (xs (4 * i + 1)) 0 4
    · obtain ⟨q_, a0_, b0_, e0_⟩ := inB_of (a := 0) (b := 4) h0_ (by omega)
      exact lw_c0 C D hi hc hs hl kk b0_ e0_
    · exact lw_c0_1 C D hi hc hs hl kk h0_
  · refine lv_tableIn (tgt := 188) hx hb dL_law_39 (by decide) (by decide) rfl (by decide) ?_
    by_cases h0_ : inR (xs (4 * i + 1)) (sL z)
    · obtain ⟨a_, b0_, e0_⟩ := inR_of h0_ (by omega)
      by_cases h1_ : inB (xs (4 * i + 2)) 1 9
      · obtain ⟨s_, a1_, b1_, e1_⟩ := inB_of (a := 1) (b := 9) h1_ (by omega)
        by_cases h2_ : sn z < 8
        · exact lw_c1 C D hi hc hs hl kk b0_ a1_ b1_ h2_ e0_ e1_
        · exact lw_c1_3 C D hi hc hs hl kk b0_ a1_ b1_ (by omega) e0_ e1_
      · exact lw_c1_2 C D hi hc hs hl kk b0_ h1_ e0_
    · exact lw_c1_1 C D hi hc hs hl kk h0_
  · refine lv_tableIn (tgt := 256) hx hb dL_law_39 (by decide) (by decide) rfl (by decide) ?_
    by_cases h0_ : inR (xs (4 * i + 1)) (sn z)
    · obtain ⟨k_, b0_, e0_⟩ := inR_of h0_ (by omega)
      by_cases h1_ : ssd z k_ < 12
      · exact lw_c2 C D hi hc hs hl kk b0_ h1_ e0_
      · have b9_ := (hV.h b0_).2.2.2
        exact lw_c2_2 C D hi hc hs hl kk b0_ (by omega) e0_
    · exact lw_c2_1 C D hi hc hs hl kk h0_
  · refine lv_tableIn (tgt := 340) hx hb dL_law_39 (by decide) (by decide) rfl (by decide) ?_
    by_cases h0_ : inR (xs (4 * i + 1)) (sn z)
    · obtain ⟨k_, b0_, e0_⟩ := inR_of h0_ (by omega)
      exact lw_c3 C D hi hc hs hl kk b0_ e0_
    · exact lw_c3_1 C D hi hc hs hl kk h0_
  · refine lv_tableIn (tgt := 396) hx hb dL_law_39 (by decide) (by decide) rfl (by decide) ?_
    by_cases h0_ : inR (xs (4 * i + 1)) (sn z)
    · obtain ⟨k_, b0_, e0_⟩ := inR_of h0_ (by omega)
      by_cases h1_ : inR (xs (4 * i + 2)) (sL z)
      · obtain ⟨d_, b1_, e1_⟩ := inR_of h1_ (by omega)
        exact lw_c4 C D hi hc hs hl kk b0_ b1_ e0_ e1_
      · exact lw_c4_2 C D hi hc hs hl kk b0_ h1_ e0_
    · exact lw_c4_1 C D hi hc hs hl kk h0_
  · refine lv_tableIn (tgt := 464) hx hb dL_law_39 (by decide) (by decide) rfl (by decide) ?_
    by_cases h0_ : inR (xs (4 * i + 1)) (sn z)
    · obtain ⟨k_, b0_, e0_⟩ := inR_of h0_ (by omega)
      by_cases h1_ : inB (xs (4 * i + 2)) 1 9
      · obtain ⟨s_, a1_, b1_, e1_⟩ := inB_of (a := 1) (b := 9) h1_ (by omega)
        exact lw_c5 C D hi hc hs hl kk b0_ a1_ b1_ e0_ e1_
      · exact lw_c5_2 C D hi hc hs hl kk b0_ h1_ e0_
    · exact lw_c5_1 C D hi hc hs hl kk h0_
  · refine lv_tableIn (tgt := 532) hx hb dL_law_39 (by decide) (by decide) rfl (by decide) ?_
    by_cases h0_ : inR (xs (4 * i + 1)) (20)
    · obtain ⟨p_, b0_, e0_⟩ := inR_of h0_ (by omega)
      by_cases h1_ : inB (xs (4 * i + 2)) (-99) 99
      · exact lw_c6 C D hi hc hs hl kk b0_ h1_ e0_
      · exact lw_c6_2 C D hi hc hs hl kk b0_ h1_ e0_
    · exact lw_c6_1 C D hi hc hs hl kk h0_
  · refine lv_tableIn (tgt := 600) hx hb dL_law_39 (by decide) (by decide) rfl (by decide) ?_
    by_cases h0_ : inR (xs (4 * i + 1)) (sL z)
    · obtain ⟨a_, b0_, e0_⟩ := inR_of h0_ (by omega)
      by_cases h1_ : inR (xs (4 * i + 2)) (sL z)
      · obtain ⟨b_, b1_, e1_⟩ := inR_of h1_ (by omega)
        exact lw_c7 C D hi hc hs hl kk b0_ b1_ e0_ e1_
      · exact lw_c7_2 C D hi hc hs hl kk b0_ h1_ e0_
    · exact lw_c7_1 C D hi hc hs hl kk h0_
  · refine lv_tableIn (tgt := 668) hx hb dL_law_39 (by decide) (by decide) rfl (by decide) ?_
    by_cases h0_ : inR (xs (4 * i + 1)) (1000)
    · obtain ⟨t_, b0_, e0_⟩ := inR_of h0_ (by omega)
      exact lw_c8 C D hi hc hs hl kk b0_ e0_
    · exact lw_c8_1 C D hi hc hs hl kk h0_
  · refine lv_tableIn (tgt := 724) hx hb dL_law_39 (by decide) (by decide) rfl (by decide) ?_
    by_cases h0_ : inR (xs (4 * i + 1)) (sL z)
    · obtain ⟨a_, b0_, e0_⟩ := inR_of h0_ (by omega)
      by_cases h1_ : inR (xs (4 * i + 2)) (1000)
      · obtain ⟨t_, b1_, e1_⟩ := inR_of h1_ (by omega)
        exact lw_c9 C D hi hc hs hl kk b0_ b1_ e0_ e1_
      · exact lw_c9_2 C D hi hc hs hl kk b0_ h1_ e0_
    · exact lw_c9_1 C D hi hc hs hl kk h0_
  · refine lv_tableIn (tgt := 792) hx hb dL_law_39 (by decide) (by decide) rfl (by decide) ?_
    by_cases h0_ : inR (xs (4 * i + 1)) (sn z)
    · obtain ⟨k_, b0_, e0_⟩ := inR_of h0_ (by omega)
      by_cases h1_ : inR (xs (4 * i + 2)) (ssd z k_)
      · obtain ⟨w_, b1_, e1_⟩ := inR_of h1_ (by have := (hV.h b0_).2.2.2; omega)
        by_cases h2_ : inR (xs (4 * i + 3)) (3)
        · obtain ⟨q_, b2_, e2_⟩ := inR_of h2_ (by omega)
          exact lw_c10 C D hi hc hs hl kk b0_ b1_ b2_ e0_ e1_ e2_
        · exact lw_c10_3 C D hi hc hs hl kk b0_ b1_ h2_ e0_ e1_
      · exact lw_c10_2 C D hi hc hs hl kk b0_ h1_ e0_
    · exact lw_c10_1 C D hi hc hs hl kk h0_
  · refine lv_tableIn (tgt := 872) hx hb dL_law_39 (by decide) (by decide) rfl (by decide) ?_
    by_cases h0_ : inR (xs (4 * i + 1)) (sn z)
    · obtain ⟨k_, b0_, e0_⟩ := inR_of h0_ (by omega)
      by_cases h1_ : inR (xs (4 * i + 2)) (7)
      · obtain ⟨q_, b1_, e1_⟩ := inR_of h1_ (by omega)
        exact lw_c11 C D hi hc hs hl kk b0_ b1_ e0_ e1_
      · exact lw_c11_2 C D hi hc hs hl kk b0_ h1_ e0_
    · exact lw_c11_1 C D hi hc hs hl kk h0_
  · refine lv_tableIn (tgt := 940) hx hb dL_law_39 (by decide) (by decide) rfl (by decide) ?_
    by_cases h0_ : inR (xs (4 * i + 1)) (7)
    · obtain ⟨q_, b0_, e0_⟩ := inR_of h0_ (by omega)
      exact lw_c12 C D hi hc hs hl kk b0_ e0_
    · exact lw_c12_1 C D hi hc hs hl kk h0_
  · refine lv_tableIn (tgt := 996) hx hb dL_law_39 (by decide) (by decide) rfl (by decide) ?_
    by_cases h0_ : inR (xs (4 * i + 1)) (sL z)
    · obtain ⟨a_, b0_, e0_⟩ := inR_of h0_ (by omega)
      by_cases h1_ : inR (xs (4 * i + 2)) (sL z)
      · obtain ⟨b_, b1_, e1_⟩ := inR_of h1_ (by omega)
        by_cases h2_ : inR (xs (4 * i + 3)) (sL z)
        · obtain ⟨s_, b2_, e2_⟩ := inR_of h2_ (by omega)
          exact lw_c13 C D hi hc hs hl kk b0_ b1_ b2_ e0_ e1_ e2_
        · exact lw_c13_3 C D hi hc hs hl kk b0_ b1_ h2_ e0_ e1_
      · exact lw_c13_2 C D hi hc hs hl kk b0_ h1_ e0_
    · exact lw_c13_1 C D hi hc hs hl kk h0_
  · refine lv_tableIn (tgt := 1076) hx hb dL_law_39 (by decide) (by decide) rfl (by decide) ?_
    by_cases h0_ : inR (xs (4 * i + 1)) (sL z)
    · obtain ⟨a_, b0_, e0_⟩ := inR_of h0_ (by omega)
      by_cases h1_ : inR (xs (4 * i + 2)) (sL z)
      · obtain ⟨b_, b1_, e1_⟩ := inR_of h1_ (by omega)
        exact lw_c14 C D hi hc hs hl kk b0_ b1_ e0_ e1_
      · exact lw_c14_2 C D hi hc hs hl kk b0_ h1_ e0_
    · exact lw_c14_1 C D hi hc hs hl kk h0_
  · refine lv_tableIn (tgt := 1144) hx hb dL_law_39 (by decide) (by decide) rfl (by decide) ?_
    by_cases h0_ : inR (xs (4 * i + 1)) (sL z)
    · obtain ⟨b_, b0_, e0_⟩ := inR_of h0_ (by omega)
      exact lw_c15 C D hi hc hs hl kk b0_ e0_
    · exact lw_c15_1 C D hi hc hs hl kk h0_
  · refine lv_tableIn (tgt := 1200) hx hb dL_law_39 (by decide) (by decide) rfl (by decide) ?_
    by_cases h0_ : inR (xs (4 * i + 1)) (sn z)
    · obtain ⟨k_, b0_, e0_⟩ := inR_of h0_ (by omega)
      by_cases h1_ : inB (xs (4 * i + 2)) 1 9
      · obtain ⟨s_, a1_, b1_, e1_⟩ := inB_of (a := 1) (b := 9) h1_ (by omega)
        exact lw_c16 C D hi hc hs hl kk b0_ a1_ b1_ e0_ e1_
      · exact lw_c16_2 C D hi hc hs hl kk b0_ h1_ e0_
    · exact lw_c16_1 C D hi hc hs hl kk h0_
  · refine lv_tableIn (tgt := 1268) hx hb dL_law_39 (by decide) (by decide) rfl (by decide) ?_
    by_cases h0_ : inR (xs (4 * i + 1)) (sn z)
    · obtain ⟨k_, b0_, e0_⟩ := inR_of h0_ (by omega)
      exact lw_c17 C D hi hc hs hl kk b0_ e0_
    · exact lw_c17_1 C D hi hc hs hl kk h0_
  · refine lv_tableIn (tgt := 1324) hx hb dL_law_39 (by decide) (by decide) rfl (by decide) ?_
    exact lw_c18 C D hi hc hs hl kk 
  · refine lv_tableIn (tgt := 1365) hx hb dL_law_39 (by decide) (by decide) rfl (by decide) ?_
    exact lw_c19 C D hi hc hs hl kk 
set_option maxHeartbeats 4000000 in
set_option maxRecDepth 100000 in
theorem lw_loop {p : Program} {l : Launch} {e : Env} {s : State} {m : MethodId} {below : List Frame} {meth : Method} {c : Code} {g : gT} {am : Nat → Nat} {oa b L : Nat} {xs : Nat → Int32} (C : LC p l s m c b L xs) (hr : meth.sig.returnType = ret) (hlocks : meth.locks = false) : ∀ (n_ i : Nat), i ≤ 512 → L + 4 ≤ 4 * i + 4 * n_ → ∀ (x0 : Nat) (ad : Nat → Nat) (th mc : Int32) (M : Nat) (sig sa : Nat → Int32) (z : sT) (f : Nat → Int64) (H : Heap) (locs : List Loc) (ls : Array Slot), ad 0 = x0 → LD g s am ad oa th mc M sig sa z f H locs → lv_has ls 9 (lL (4 * i) b x0 (am 0) oa) → W p l e room_1 s m #[Value.ref b] below meth c H locs (14 + 3 * i) (395 + 27 * i) (lw_Z below #[Value.ref b] s) (F0 m 23 ls []) := by
  intro n_
  induction n_ using Nat.strongRecOn with
  | ind n_ ih =>
    intro i hi5 hn_ x0 ad th mc M sig sa z f H locs ls h0 D hl
    subst h0
    obtain ⟨hx, hb, hml, hown, hts, hl0, hX, hbl, hL⟩ := id C
    obtain ⟨hIV, hP, hD, hS, hE⟩ := id D
    have hbA : ¬ q_n s.heap b := Nat.not_le.mpr hbl
    refine lv_iload hx hb dL_law_23 (lv_at hl 0 rfl) ?_
    refine lv_aload_n hx hb dL_law_25 rfl (lv_at hl 1 rfl) ?_
    refine va_slen hx hb hX hbl hbA hS dL_law_26 ?_
    refine lv_iconst (v := nI 4) hx hb dL_law_27 (by decide) ?_
    refine q_isub (v := nI L - nI 4) hx hb dL_law_28 rfl ?_
    have e9 : (nI L - nI 4).toInt = (L : Int) - 4 := pk_sub_toInt (by omega) (by omega)
    have e8 : (nI (4 * i)).toInt = ((4 * i : Nat) : Int) := nI_toInt (by omega)
    refine lv_icmp_gt (tgt := 1385) hx hb dL_law_29 (by decide) (fun c_ => ?_) (fun c_ => ?_)
    · refine lv_iconst (v := 1) hx hb dL_law_1385 (by decide) ?_
      refine va_forget (fun q hq => hS.2.2 q hq) ?_
      refine W.widen (k := 601024) (n := 7293034) (by omega) (by omega) ?_
      exact lw_ret (Drawn.sameBut.refl s.drawn lw_cs) hx hb hr hlocks dL_law_1386
    · have c_ := mt Int32.lt_iff_toInt_lt.mpr c_
      rw [e9, e8] at c_
      have hi4 : 4 * i + 4 ≤ L := by omega
      refine lv_aload_n hx hb dL_law_32 rfl (lv_at hl 1 rfl) ?_
      refine lv_iload hx hb dL_law_33 (lv_at hl 0 rfl) ?_
      refine q_sld (v := xs (4 * i)) hx hb hX hbl hbA hS (by omega) hL dL_law_35 rfl ?_
      refine lv_bipush (v := nI 31) hx hb dL_law_36 (by decide) ?_
      obtain ⟨k, hk, ek⟩ := q_and31 (xs (4 * i))
      refine q_iand (v := nI k) hx hb dL_law_38 ek ?_
      refine lw_turn C D hi4 (by omega) (by omega) hl ?_ hk
      intro ad1 th1 mc1 M1 sig1 sa1 z1 f1 H1 locs1 ls1 h1 D1 hl1
      refine lv_iinc (v := nI (4 * (i + 1))) (lv' := lL (4 * (i + 1)) b (ad 0) (am 0) oa) hx hb dL_law_1379 hl1 (k := 0) rfl (q_4 i) (by decide) rfl (fun ls2 hl2 => ?_)
      refine lv_goto (tgt := 23) hx hb dL_law_1382 (by decide) ?_
      refine W.widen (k := 14 + 3 * (i + 1)) (n := 395 + 27 * (i + 1)) (by omega) (by omega) ?_
      exact ih (n_ - 1) (by omega) (i + 1) (by omega) (by omega) (ad 0) ad1 th1 mc1 M1 sig1 sa1 z1 f1 H1 locs1 ls2 h1 D1 hl2
section QJ
variable {p : Program} {l : Launch} {e : Env} {R : Room} {s : State} {m : MethodId} {args : Array Value} {below : List Frame} {meth : Method} {c : Code} {H : Heap} {locs : List Loc} {cells slots : Nat} {Q : State → Prop}
variable {cc : ByteArray} {pc : Nat} {ls : Array Slot} {rest : List Value} {g : gT} {A : Nat → Prop} {H0 : Heap} {ws : va_W}
theorem q_newJ (hx : p.tables.exec = Jvm.exec) (hb : c.code = cc) (harr : (Cond.arrayClass .long).before args s = true) (hE : Ev g A s H) (hP : va_P g.1 vwCl ws H) (hD : va_D A ws) (hS : va_S A H0 H locs) (hA : ∀ q, H0.size ≤ q → A q) (hcells : cells + 1 ≤ R.cells) (hslots : slots + 1 ≤ R.slots) (d : decode cc pc = .ok (.newarray .long, 2))
    (kk : ∀ (q : Nat) (H1 : Heap), va_P g.1 vwCl (ws ++ [oW g q (fun _ => 0)]) H1 → va_D A (ws ++ [oW g q (fun _ => 0)]) → va_S A H0 H1 locs → W p l e R s m args below meth c H1 locs (cells + 1) (slots + 1) Q (F0 m (pc + 2) ls (.ref q :: rest))) : W p l e R s m args below meth c H locs cells slots Q (F0 m pc ls (.int (nI 1) :: rest)) := by
  refine va_newa (atype := .long) (ty := .long) (N' := 1) (a0 := (1, .inr (.inl (fun _ => 0)))) hx hb harr rfl hE.K hP hD hS hA (fun cA => rfl) (nI_pos (by omega)) (nI_clamp (by omega)) (by decide) hcells hslots d (fun q cA H1 hK1 hP1 hD1 hS1 => ?_)
  have h1 := (hE.K.2 2 _ rfl).2
  have h2 := (hK1.2 3 (cA, .long) rfl).2
  have h3 : some (gJ g) = some cA := Eq.trans (Eq.symm h1) h2
  cases Option.some.inj h3
  exact kk q H1 hP1 hD1 hS1
end QJ

set_option maxHeartbeats 4000000 in
set_option maxRecDepth 100000 in
theorem whole_start {p : Program} {e : Env} {s : State} {m : MethodId} {below : List Frame} {meth : Method} {c : Code} (l : Launch) (hflags : l.flags = flags0) {b L : Nat} {xs : Nat → Int32} (hL : L ≤ 2048) (C0 : lw_At p s m meth c b L xs) : W p l e room_1 s m #[Value.ref b] below meth c s.heap [] 0 0 (lw_Z below #[Value.ref b] s) (entryFrame m ([Value.ref b] : List Value).toArray 9) := by
  obtain ⟨g, hE0⟩ := q_entry C0
  obtain ⟨hx, hb, hr, hml, hown, hts, hX, hbl, hlocks, hgv⟩ := C0
  have hl0 := q_flags hflags
  have hown : s.vm.findClass RL = some m.cls := hown
  have hb : c.code = cL_law := hb
  have hts : ∀ w ∈ wsL_law, w.before #[Value.ref b] s = true := fun w h => hts w (wsL_law_in w h)
  have hA : ∀ q, s.heap.size ≤ q → q_n s.heap q := fun _ h => h
  have hE := hE0
  have hS : va_S (q_n s.heap) s.heap s.heap [] := va_S.rf
  have hP : va_P g.1 vwCl [] s.heap := fun k q h => by simp at h
  have hD : va_D (q_n s.heap) [] := ⟨fun i j p q h => by simp at h, fun k q h => by simp at h⟩
  have hl := lv_entry ([.ref b]) (n := 9) (Nat.le_of_ble_eq_true rfl)
  rw [lg_entry_eq]
  generalize (lg_sl ([.ref b]) ++ List.replicate (9 - (lg_sl ([.ref b])).length) Slot.unset).toArray = ls at hl ⊢
  have hl : lv_has ls 9 [(0, .ref b)] := hl
  refine va_new (ci := 4) (fs := [.null, .null, .null]) (C := RX3) (T := TX3) (N := 3) hx hb hts (q_sub wsX30 661 rfl) tyX3 tyX3_ok hown (hts _ (List.mem_of_getElem? (i := 0) rfl)) (hts _ (List.mem_of_getElem? (i := 1) rfl)) (hts _ (List.mem_of_getElem? (i := 2) rfl)) hE.K hP hD hS hA rfl (fun j hj => by rcases (show j = 0 ∨ j = 1 ∨ j = 2 by omega) with rfl | rfl | rfl <;> rfl) (Nat.le_of_ble_eq_true rfl) (Nat.le_of_ble_eq_true rfl) dL_law_0 (fun x_ H hP hD hS => ?_)
  have hP : va_P g.1 vwCl (([(x_, .inr (4, [.null, .null, .null]))] : va_W)) H := hP
  have hD : va_D (q_n s.heap) (([(x_, .inr (4, [.null, .null, .null]))] : va_W)) := hD
  have hE := hE0.kept hS.2.1
  have hE := hE0.kept hS.2.1
  refine lv_dup hx hb dL_law_3 rfl ?_
  refine q_wrI (wr := []) (As := []) (rest := [.ref x_]) ⟨hx, hb, hml, hown, hts⟩ (c_X3_init (x0 := x_)) (cwI 0 hts gL_law_X3_init rfl rfl rfl (hts _ (List.mem_of_getElem? (i := 2) rfl)) (hts _ (List.mem_of_getElem? (i := 7) rfl)) (hts _ (List.mem_of_getElem? (i := 8) rfl)) rfl (by decide +kernel) ⟨Nat.le_of_ble_eq_true rfl, Nat.le_of_ble_eq_true rfl⟩) hE hP hD hS hA rfl hl.1 rfl (Nat.le_of_ble_eq_true rfl) dL_law_4 ⟨Nat.le_of_ble_eq_true rfl, Nat.le_of_ble_eq_true rfl⟩ (fun u_ H locs hP hD hS hE => ?_)
  have hP : va_P g.1 vwCl ((wC g (adI x_ u_.1 u_.2.1 u_.2.2.1 u_.2.2.2.1 u_.2.2.2.2) (nI 0) 0 (fun _ => 0) z0)) H := hP
  have hD : va_D (q_n s.heap) ((wC g (adI x_ u_.1 u_.2.1 u_.2.2.1 u_.2.2.2.1 u_.2.2.2.2) (nI 0) 0 (fun _ => 0) z0)) := hD
  refine lv_astore_n (lv' := [(1, .ref x_), (0, .ref b)]) hx hb dL_law_7 rfl hl (by decide) rfl (fun ls hl => ?_)
  refine va_new (ci := 5) (fs := [.int 0, .int 0, .int 0, .null, .null, .null, .null, .null, .null]) (C := RX4) (T := TX4) (N := 9) hx hb hts (q_sub wsX40 664 rfl) tyX4 tyX4_ok hown (hts _ (List.mem_of_getElem? (i := 3) rfl)) (hts _ (List.mem_of_getElem? (i := 4) rfl)) (hts _ (List.mem_of_getElem? (i := 5) rfl)) hE.K hP hD hS hA rfl (fun j hj => by rcases (show j = 0 ∨ j = 1 ∨ j = 2 ∨ j = 3 ∨ j = 4 ∨ j = 5 ∨ j = 6 ∨ j = 7 ∨ j = 8 by omega) with rfl | rfl | rfl | rfl | rfl | rfl | rfl | rfl | rfl <;> rfl) (Nat.le_of_ble_eq_true rfl) (Nat.le_of_ble_eq_true rfl) dL_law_8 (fun m_ H hP hD hS => ?_)
  have hP : va_P g.1 vwCl ((wC g (adI x_ u_.1 u_.2.1 u_.2.2.1 u_.2.2.2.1 u_.2.2.2.2) (nI 0) 0 (fun _ => 0) z0) ++ ([(m_, .inr (5, [.int 0, .int 0, .int 0, .null, .null, .null, .null, .null, .null]))] : va_W)) H := hP
  have hD : va_D (q_n s.heap) ((wC g (adI x_ u_.1 u_.2.1 u_.2.2.1 u_.2.2.2.1 u_.2.2.2.2) (nI 0) 0 (fun _ => 0) z0) ++ ([(m_, .inr (5, [.int 0, .int 0, .int 0, .null, .null, .null, .null, .null, .null]))] : va_W)) := hD
  have hE := hE0.kept hS.2.1
  refine lv_dup hx hb dL_law_11 rfl ?_
  refine q_wrI (wr := (wC g (adI x_ u_.1 u_.2.1 u_.2.2.1 u_.2.2.2.1 u_.2.2.2.2) (nI 0) 0 (fun _ => 0) z0)) (As := []) (rest := [.ref m_]) ⟨hx, hb, hml, hown, hts⟩ (c_X4_init (m0 := m_)) (cwI 0 hts gL_law_X4_init rfl rfl rfl (hts _ (List.mem_of_getElem? (i := 5) rfl)) (hts _ (List.mem_of_getElem? (i := 52) rfl)) (hts _ (List.mem_of_getElem? (i := 53) rfl)) rfl (by decide +kernel) ⟨Nat.le_of_ble_eq_true rfl, Nat.le_of_ble_eq_true rfl⟩) hE hP hD hS hA rfl hl.1 rfl (Nat.le_of_ble_eq_true rfl) dL_law_12 ⟨Nat.le_of_ble_eq_true rfl, Nat.le_of_ble_eq_true rfl⟩ (fun v_ H locs hP hD hS hE => ?_)
  have hP : va_P g.1 vwCl ((wC g (adI x_ u_.1 u_.2.1 u_.2.2.1 u_.2.2.2.1 u_.2.2.2.2) (nI 0) 0 (fun _ => 0) z0) ++ (wMo g (amI m_ v_.1 v_.2.1 v_.2.2.1 v_.2.2.2.1 v_.2.2.2.2.1 v_.2.2.2.2.2) (nI 0) (fun _ => 0) z0)) H := hP
  have hD : va_D (q_n s.heap) ((wC g (adI x_ u_.1 u_.2.1 u_.2.2.1 u_.2.2.2.1 u_.2.2.2.2) (nI 0) 0 (fun _ => 0) z0) ++ (wMo g (amI m_ v_.1 v_.2.1 v_.2.2.1 v_.2.2.2.1 v_.2.2.2.2.1 v_.2.2.2.2.2) (nI 0) (fun _ => 0) z0)) := hD
  refine lv_astore_n (lv' := [(2, .ref m_), (1, .ref x_), (0, .ref b)]) hx hb dL_law_15 rfl hl (by decide) rfl (fun ls hl => ?_)
  refine lv_iconst (v := nI 1) hx hb dL_law_16 (by decide) ?_
  refine q_newJ hx hb (hts _ (List.mem_of_getElem? (i := 6) rfl)) hE hP hD hS hA (Nat.le_of_ble_eq_true rfl) (Nat.le_of_ble_eq_true rfl) dL_law_17 (fun oa H hP hD hS => ?_)
  have hP : va_P g.1 vwCl ((wC g (adI x_ u_.1 u_.2.1 u_.2.2.1 u_.2.2.2.1 u_.2.2.2.2) (nI 0) 0 (fun _ => 0) z0) ++ (wMo g (amI m_ v_.1 v_.2.1 v_.2.2.1 v_.2.2.2.1 v_.2.2.2.2.1 v_.2.2.2.2.2) (nI 0) (fun _ => 0) z0) ++ [oW g oa (fun _ => 0)]) H := hP
  have hD : va_D (q_n s.heap) ((wC g (adI x_ u_.1 u_.2.1 u_.2.2.1 u_.2.2.2.1 u_.2.2.2.2) (nI 0) 0 (fun _ => 0) z0) ++ (wMo g (amI m_ v_.1 v_.2.1 v_.2.2.1 v_.2.2.2.1 v_.2.2.2.2.1 v_.2.2.2.2.2) (nI 0) (fun _ => 0) z0) ++ [oW g oa (fun _ => 0)]) := hD
  have hE := hE0.kept hS.2.1
  refine lv_astore_n (lv' := [(3, .ref oa), (2, .ref m_), (1, .ref x_), (0, .ref b)]) hx hb dL_law_19 rfl hl (by decide) rfl (fun ls hl => ?_)
  refine lv_iconst (v := nI 0) hx hb dL_law_20 (by decide) ?_
  refine lv_istore (lv' := [(4, .int (nI 0)), (3, .ref oa), (2, .ref m_), (1, .ref x_), (0, .ref b)]) hx hb dL_law_21 hl (by decide) rfl (fun ls hl => ?_)
  have e1_ : (wC g (adI x_ u_.1 u_.2.1 u_.2.2.1 u_.2.2.2.1 u_.2.2.2.2) (nI 0) 0 (fun _ => 0) z0) ++ (wMo g (amI m_ v_.1 v_.2.1 v_.2.2.1 v_.2.2.2.1 v_.2.2.2.2.1 v_.2.2.2.2.2) (nI 0) (fun _ => 0) z0) ++ [oW g oa (fun _ => 0)] = (wC g (adI x_ u_.1 u_.2.1 u_.2.2.1 u_.2.2.2.1 u_.2.2.2.2) (nI 0) 0 (fun _ => 0) z0) ++ ((wMo g (amI m_ v_.1 v_.2.1 v_.2.2.1 v_.2.2.2.1 v_.2.2.2.2.1 v_.2.2.2.2.2) (nI 0) (fun _ => 0) z0) ++ [oW g oa (fun _ => 0)]) := List.append_assoc _ _ _
  have e2_ : ((wMo g (amI m_ v_.1 v_.2.1 v_.2.2.1 v_.2.2.2.1 v_.2.2.2.2.1 v_.2.2.2.2.2) (nI 0) (fun _ => 0) z0) ++ [oW g oa (fun _ => 0)]) ++ (wC g (adI x_ u_.1 u_.2.1 u_.2.2.1 u_.2.2.2.1 u_.2.2.2.2) (nI 0) 0 (fun _ => 0) z0) = wL g (amI m_ v_.1 v_.2.1 v_.2.2.1 v_.2.2.2.1 v_.2.2.2.2.1 v_.2.2.2.2.2) (adI x_ u_.1 u_.2.1 u_.2.2.1 u_.2.2.2.1 u_.2.2.2.2) oa (nI 0) (nI 0) 0 (fun _ => 0) (fun _ => 0) z0 (fun _ => 0) := List.append_assoc _ _ _
  have hP := q_eqP e2_ (q_swP (q_eqP e1_ hP))
  have hD := q_eqD e2_ (q_swD (q_eqD e1_ hD))
  exact lw_loop (am := amI m_ v_.1 v_.2.1 v_.2.2.1 v_.2.2.2.1 v_.2.2.2.2.1 v_.2.2.2.2.2) ⟨hx, hb, hml, hown, hts, hl0, hX, hbl, hL⟩ hr hlocks (L + 4) 0 (by omega) (by omega) _ (adI x_ u_.1 u_.2.1 u_.2.2.1 u_.2.2.2.1 u_.2.2.2.2) (nI 0) (nI 0) 0 (fun _ => 0) (fun _ => 0) z0 (fun _ => 0) H locs _ rfl ⟨IV.init, hP, hD, hS, hE⟩ (lv_sub hl [0, 4, 3, 2, 1] rfl)
