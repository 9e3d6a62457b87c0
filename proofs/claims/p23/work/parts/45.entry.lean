/-! ===== the law's entry: the surroundings, from the tables' words and the given of the start ===== -/
theorem q_arr {args : Array Value} {s : State} {ty : FieldType} (h : (Cond.arrayClass ty).before args s = true) (hp : ∀ C, ty ≠ .object C) : ∃ cA, ArrOfT s cA ty ∧ va_RA s cA ty := by
  obtain ⟨cA, kA, comp, h1, h2, h3⟩ := Cond.arrayClass_spec h
  refine ⟨cA, fun n z => ⟨fun k h => (by cases h), kA, h2, comp, h3⟩, ?_⟩
  cases ty <;> first | exact h1 | exact absurd rfl (hp _)
theorem q_arrO {args : Array Value} {s : State} {C : String} (h : (Cond.arrayOver (.object C)).before args s = true) : ∃ cA, ArrOfT s cA (.object C) ∧ va_RA s cA (.object C) := by
  obtain ⟨comp, cA, kA, h1, -, h3, h4, h5⟩ := Cond.arrayOver_spec h
  exact ⟨cA, fun n z => ⟨fun k h => (by cases h), kA, h3, comp, h4⟩, kA, comp, h3, h4, h1, h5⟩
theorem q_self {args : Array Value} {s : State} {C : String} {cC : ClassId} (h : s.vm.findClass C = some cC) : (Cond.castable C C).before args s = true := by
  have e : s.vm.assignable cC cC = true := by
    show s.vm.assignableAux 256 cC cC = true
    unfold Vm.assignableAux; simp
  simp [Cond.before, Cond.holds, Cond.value, h, e]
abbrev q_gv : List Cond := flatC (Jvm.Cond.and given_1 narrow_1)
theorem q_strs_in : ∀ q ∈ q_strs, Cond.stringRef RX3 q.1 q.2 ∈ lw_tbl := by decide +kernel
theorem q_strs_ex : ∀ q ∈ q_strs, Cond.exactly (.string RX3 q.1) "java/lang/String" ∈ q_gv := by decide +kernel
theorem q_ncs_in : ∀ q ∈ q_ncs, Cond.not (.castable q.1 q.2) ∈ q_gv := fun _ h => nomatch h
theorem q_nws_in : ∀ w ∈ q_nws, w = .castable RX1 RX1 ∨ w ∈ lw_tbl := by decide +kernel
theorem q_nest_in : Cond.methodLinkNest RX3 11 yX0_init RX3 ∈ lw_tbl := by decide +kernel
theorem q_nest_in2 : Cond.methodLinkNest RL 71 yX4_init RL ∈ lw_tbl := by decide +kernel
theorem q_arrA {args : Array Value} {s : State} {t : FieldType} (h : (Cond.arrayOver (.array t)).before args s = true) : ∃ cA, ArrOfT s cA (.array t) ∧ va_RA s cA (.array t) := by
  obtain ⟨comp, cA, kA, h1, -, h3, h4, h5⟩ := arrayOverA_spec h
  exact ⟨cA, fun n z => ⟨fun k h => (by cases h), kA, h3, comp, h4⟩, h5⟩
abbrev q_dcap : Term := .static "java/util/ArrayList" "DEFAULTCAPACITY_EMPTY_ELEMENTDATA" "[Ljava/lang/Object;"
theorem q_entry {p : Program} {s : State} {m : MethodId} {meth : Method} {c : Code} {b L : Nat} {xs : Nat → Int32} (C0 : lw_At p s m meth c b L xs) : ∃ g : gT, Ev g (q_n s.heap) s s.heap ∧ gB g = b ∧ gL g = L := by
  obtain ⟨-, -, -, -, -, hts, hX, hbl, -, hgv⟩ := C0
  have hg := flat_of_before _ hgv
  have hw : ∀ w ∈ wsL_law, w.before #[Value.ref b] s = true := fun w h => hts w (wsL_law_in w h)
  have hA : ∀ a : Nat, a < s.heap.size → ¬ q_n s.heap a := fun a h => Nat.not_le.mpr h
  obtain ⟨c0, i0, k0⟩ := u_known (C := RJx4a65c) (T := TJx4a65c) (N := 3) (n := 3) hw inlJx4a65c (hts (.instantiable RJx4a65c 3) (by decide +kernel))
  obtain ⟨c1, i1, k1⟩ := u_known (C := RX0) (T := TX0) (N := 1) (n := 1) hw inlX0 (hts (.instantiable RX0 1) (by decide +kernel))
  obtain ⟨c2, i2, k2⟩ := u_known (C := RX1) (T := TX1) (N := 5) (n := 5) hw inlX1 (hts (.instantiable RX1 5) (by decide +kernel))
  obtain ⟨c3, i3, k3⟩ := u_known (C := RX2) (T := TX2) (N := 3) (n := 3) hw inlX2 (hts (.instantiable RX2 3) (by decide +kernel))
  obtain ⟨c4, i4, k4⟩ := u_known (C := RX3) (T := TX3) (N := 3) (n := 3) hw inlX3 (hts (.instantiable RX3 3) (by decide +kernel))
  obtain ⟨c5, i5, k5⟩ := u_known (C := RX4) (T := TX4) (N := 4) (n := 4) hw inlX4 (hts (.instantiable RX4 4) (by decide +kernel))
  obtain ⟨dC, dI, hKc⟩ : ∃ (dC : Nat → ClassId) (dI : Nat → Nat → Nat), ∀ (k : Nat) (q : vw_C), vwCl[k]? = some q → u_Kn s q.1 q.2.1 q.2.2 (dC k) (dI k) := by
    refine ⟨fun k => if k = 0 then c0 else if k = 1 then c1 else if k = 2 then c2 else if k = 3 then c3 else if k = 4 then c4 else c5, fun k => if k = 0 then i0 else if k = 1 then i1 else if k = 2 then i2 else if k = 3 then i3 else if k = 4 then i4 else i5, ?_⟩
    intro k q hq
    match k, hq with
    | 0, hq => cases hq; exact k0
    | 1, hq => cases hq; exact k1
    | 2, hq => cases hq; exact k2
    | 3, hq => cases hq; exact k3
    | 4, hq => cases hq; exact k4
    | 5, hq => cases hq; exact k5
    | k + 6, hq => exact nomatch hq
  obtain ⟨cI, aI, rI⟩ := q_arr (hts (.arrayClass .int) (by decide +kernel)) (fun C h => nomatch h)
  have hovA := hts (.arrayOver (.array .int)) (by decide +kernel)
  obtain ⟨cJ, aJ, rJ⟩ := q_arrA hovA
  obtain ⟨scr, hcb, hof, hkn, hsz, hval⟩ := hX
  have hov := hts (.arrayOver (.object "java/lang/Object")) (by decide +kernel)
  obtain ⟨cO, aO, rO⟩ := q_arrO hov
  have hlen : (Term.length q_dcap).eval #[Value.ref b] s none [] s = some (.int (Int32.ofNat 0)) := va_eqv (hg (.eq (.length q_dcap) (.int 0)) (by decide +kernel)) rfl
  obtain ⟨gE_, hE1, hE2⟩ := va_Tof (tm := q_dcap) (ty := .object "java/lang/Object") (N := 0) (f := fun _ => .null) (A := q_n s.heap) (by decide) (hg (.arrayOf q_dcap (.object "java/lang/Object")) (by decide +kernel)) hlen (fun j hj => absurd hj (Nat.not_lt_zero j)) hA
  refine ⟨((dC, dI), cI, cO, cJ, gE_, b, L, xs), ⟨⟨⟨hKc, ?_⟩, va_AO.of hov, ?_, ?_, ?_, va_Nw.of rfl (hts _ q_nest_in), va_Nw.of rfl (hts _ q_nest_in2), va_AOA.of hovA⟩, ?_, ?_, ?_, hE2, ⟨scr, hcb, hof, hkn, by rw [hsz]; exact Nat.le_refl _, by rw [hsz], hval, hA b hbl⟩⟩, rfl, rfl⟩
  · intro k q hk
    match k, hk with
    | 0, hk => cases hk; exact ⟨aI, rI⟩
    | 1, hk => cases hk; exact ⟨aO, rO⟩
    | 2, hk => cases hk; exact ⟨aJ, rJ⟩
    | k + 3, hk => exact nomatch hk
  · intro q hq
    obtain ⟨a, -, -, -, h1, -⟩ := Cond.exactly_spec (hg _ (q_strs_ex q hq))
    exact ⟨a, vk_R.of (hts _ (q_strs_in q hq)) h1⟩
  · intro w hw9
    have ok := q_nws_ok w hw9
    rw [Bool.and_eq_true] at ok
    refine va_Nw.of ok.2 (A := #[Value.ref b]) ?_
    rcases q_nws_in w hw9 with rfl | h
    · exact q_self k2.2.1
    · exact hts w h
  · exact fun q hq => va_Nc.of (hg _ (q_ncs_in q hq))
  · exact vx_Zqof (hts _ (by decide +kernel)) (hts _ (by decide +kernel)) (hg (.isRef (.static Bundle.tN "UNASSIGNED_STACK" Bundle.steD)) (by decide +kernel)) hA
  · exact vx_Zqof (hts _ (by decide +kernel)) (hts _ (by decide +kernel)) (hg (.isRef (.static Bundle.tN "SUPPRESSED_SENTINEL" Bundle.listD)) (by decide +kernel)) hA
  · exact va_Zof (hts _ (by decide +kernel)) (hts _ (by decide +kernel)) hE1 hA
theorem q_flags {l : Launch} (h : l.flags = flags0) : l.stackTraces = false := by
  unfold Launch.stackTraces
  rw [h]
  decide
