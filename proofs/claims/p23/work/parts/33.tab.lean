/-! ===== rows of ints in an array of arrays; the codes' table ===== -/
def tRows (g : gT) (N : Nat) (r : Nat → Nat) (F : Nat → Nat → Int32) : va_W := (List.range N).map (fun i => (r i, ints g N (F i)))
theorem tR_get {g : gT} {N i : Nat} {r : Nat → Nat} {F : Nat → Nat → Int32} (h : i < N) : (tRows g N r F)[i]? = some (r i, ints g N (F i)) := by
  rw [tRows, List.getElem?_map, List.getElem?_range h]; rfl
theorem tR_len {g : gT} {N : Nat} {r : Nat → Nat} {F : Nat → Nat → Int32} : (tRows g N r F).length = N := by simp [tRows]
def updF (F : Nat → Nat → Int32) (i : Nat) (f : Nat → Int32) : Nat → Nat → Int32 := fun j => if j = i then f else F j
theorem q_mset {α : Type} {n i : Nat} {f f' : Nat → α} {x : α} (h1 : f' i = x) (h2 : ∀ j, j ≠ i → f' j = f j) : ((List.range n).map f).set i x = (List.range n).map f' := by
  apply List.ext_getElem?
  intro j
  rw [List.getElem?_set]
  by_cases e : i = j
  · subst e
    rw [if_pos rfl]
    by_cases hl : i < n
    · rw [if_pos (by simp [hl]), List.getElem?_map, List.getElem?_range hl]
      exact congrArg some h1.symm
    · rw [if_neg (by simp [hl]), List.getElem?_eq_none (by simp; omega)]
  · rw [if_neg e, List.getElem?_map, List.getElem?_map]
    by_cases hl : j < n
    · rw [List.getElem?_range hl]
      exact congrArg some (h2 j (fun q => e q.symm)).symm
    · rw [List.getElem?_eq_none (by simp; omega)]; rfl
theorem tR_set {g : gT} {N i : Nat} {r : Nat → Nat} {F : Nat → Nat → Int32} {f : Nat → Int32} : (tRows g N r F).set i (r i, ints g N f) = tRows g N r (updF F i f) :=
  q_mset (by simp [updF]) (fun j hj => by simp [updF, hj])
/-- an outer array and its rows, behind another such -/
abbrev tW (g : gT) (M N q1 q : Nat) (r1 r : Nat → Nat) (F1 F : Nat → Nat → Int32) : va_W := ((q1, refs g M (rfF r1 M)) :: tRows g M r1 F1) ++ ((q, refs g N (rfF r N)) :: tRows g N r F)
section TW
variable {g : gT} {M N q1 q : Nat} {r1 r : Nat → Nat} {F1 F : Nat → Nat → Int32}
theorem tW_h {i : Nat} (h : i < M) : (tW g M N q1 q r1 r F1 F)[i + 1]? = some (r1 i, ints g M (F1 i)) := by
  show (tRows g M r1 F1 ++ _)[i]? = _
  rw [List.getElem?_append_left (by rw [tR_len]; exact h), tR_get h]
theorem tW_o : (tW g M N q1 q r1 r F1 F)[M + 1]? = some (q, refs g N (rfF r N)) := by
  show (tRows g M r1 F1 ++ _)[M]? = _
  rw [List.getElem?_append_right (by rw [tR_len]; exact Nat.le_refl _), tR_len, Nat.sub_self]; rfl
theorem tW_r {i : Nat} (h : i < N) : (tW g M N q1 q r1 r F1 F)[M + 2 + i]? = some (r i, ints g N (F i)) := by
  rw [show M + 2 + i = (M + 1 + i) + 1 by omega]
  show (tRows g M r1 F1 ++ _)[M + 1 + i]? = _
  rw [List.getElem?_append_right (by rw [tR_len]; omega), tR_len, show M + 1 + i - M = i + 1 by omega]
  exact tR_get h
theorem tW_set {i : Nat} {f : Nat → Int32} : (tW g M N q1 q r1 r F1 F).set (M + 2 + i) (r i, ints g N f) = tW g M N q1 q r1 r F1 (updF F i f) := by
  rw [show M + 2 + i = (M + 1 + i) + 1 by omega]
  show (q1, _) :: ((tRows g M r1 F1 ++ ((q, refs g N (rfF r N)) :: tRows g N r F)).set (M + 1 + i) (r i, ints g N f)) = (q1, _) :: (tRows g M r1 F1 ++ ((q, refs g N (rfF r N)) :: tRows g N r (updF F i f)))
  rw [List.set_append_right _ _ (by rw [tR_len]; omega), tR_len, show M + 1 + i - M = i + 1 by omega]
  exact congrArg (fun t => (q1, _) :: (tRows g M r1 F1 ++ ((q, _) :: t))) tR_set
end TW
/-- what stands in the table while it is filled -/
def tbF (c k : Nat) : Nat → Nat → Int32 := fun i t => if i < c ∨ (i = c ∧ t < k) then chip i t else 0
theorem tbF_0 : (fun _ _ => (0 : Int32)) = tbF 0 0 := by
  funext i t
  unfold tbF; rw [if_neg (by omega)]
theorem tbF_s {c k : Nat} : updF (tbF c k) c (upd (tbF c k c) k (chip c k)) = tbF c (k + 1) := by
  funext i t
  show (if i = c then upd (tbF c k c) k (chip c k) else tbF c k i) t = _
  by_cases e : i = c
  · subst e
    rw [if_pos rfl]
    show (if t = k then chip i k else tbF i k i t) = _
    unfold tbF
    by_cases e2 : t = k
    · subst e2
      rw [if_pos rfl, if_pos (by omega)]
    · rw [if_neg e2]
      by_cases h : t < k
      · rw [if_pos (by omega), if_pos (by omega)]
      · rw [if_neg (by omega), if_neg (by omega)]
  · rw [if_neg e]
    unfold tbF
    by_cases h : i < c
    · rw [if_pos (by omega), if_pos (by omega)]
    · rw [if_neg (by omega), if_neg (by omega)]
/-- int arrays are the same if they hold the same within their lengths -/
theorem q_ext {g : gT} {n : Nat} {f f' : Nat → Int32} {a : Nat} {D : va_G} {cl : List vw_C} {H : Heap} (h : ∀ j, j < n → f j = f' j) (hat : va_at D cl (a, ints g n f) H) : va_at D cl (a, ints g n f') H := by
  have e : vp_cell (gI g) (n, .inl f) = vp_cell (gI g) (n, .inl f') := by
    rw [vp_cell_i, vp_cell_i]
    unfold arrV
    congr 1
    apply Array.ext
    · simp
    · intro i h1 h2
      simp at h1
      simp [h i h1]
  show H[a]? = some (vp_cell (gI g) (n, .inl f'))
  rw [← e]; exact hat
theorem tbF_next {g : gT} {M N q1 q c : Nat} {r1 r : Nat → Nat} {F1 : Nat → Nat → Int32} {D : va_G} {cl : List vw_C} {H : Heap} (hP : va_P D cl (tW g M N q1 q r1 r F1 (tbF c N)) H) : va_P D cl (tW g M N q1 q r1 r F1 (tbF (c + 1) 0)) H := by
  rw [q_Pi] at hP ⊢
  intro x hx
  rcases List.mem_append.mp hx with hx | hx
  · exact hP x (List.mem_append_left _ hx)
  · rcases List.mem_cons.mp hx with rfl | hx
    · exact hP _ (List.mem_append_right _ List.mem_cons_self)
    · obtain ⟨i, hi, rfl⟩ := List.mem_map.mp hx
      have h2 := hP (r i, ints g N (tbF c N i)) (List.mem_append_right _ (List.mem_cons_of_mem _ (List.mem_map.mpr ⟨i, hi, rfl⟩)))
      refine q_ext (fun j hj => ?_) h2
      unfold tbF
      by_cases h : i < c + 1
      · rw [if_pos (by omega), if_pos (by omega)]
      · rw [if_neg (by omega), if_neg (by omega)]
theorem q_Dmap {A : Nat → Prop} {w w' : va_W} (e : w'.map (fun q => q.1) = w.map (fun q => q.1)) (hD : va_D A w) : va_D A w' := by
  obtain ⟨h1, h2⟩ := q_Di.mp hD
  refine q_Di.mpr ⟨e ▸ h1, fun q hq => ?_⟩
  have h3 : q.1 ∈ w.map (fun q => q.1) := e ▸ List.mem_map.mpr ⟨q, hq, rfl⟩
  obtain ⟨q', h4, h5⟩ := List.mem_map.mp h3
  exact h5 ▸ h2 q' h4
theorem tbF_nextD {g : gT} {M N q1 q c : Nat} {r1 r : Nat → Nat} {F1 : Nat → Nat → Int32} {A : Nat → Prop} (hD : va_D A (tW g M N q1 q r1 r F1 (tbF c N))) : va_D A (tW g M N q1 q r1 r F1 (tbF (c + 1) 0)) := by
  refine q_Dmap ?_ hD
  simp [tW, tRows, List.map_append]
theorem tbF_end {g : gT} {M N q1 q : Nat} {r1 r : Nat → Nat} {F1 : Nat → Nat → Int32} {D : va_G} {cl : List vw_C} {H : Heap} (hP : va_P D cl (tW g M N q1 q r1 r F1 (tbF N 0)) H) : va_P D cl ((q, refs g N (rfF r N)) :: tRows g N r chip) H := by
  have hP := q_snd hP
  rw [q_Pi] at hP ⊢
  intro x hx
  rcases List.mem_cons.mp hx with rfl | hx
  · exact hP _ List.mem_cons_self
  · obtain ⟨i, hi, rfl⟩ := List.mem_map.mp hx
    refine q_ext (f := tbF N 0 i) (fun j hj => ?_) (hP _ (List.mem_cons_of_mem _ (List.mem_map.mpr ⟨i, hi, rfl⟩)))
    unfold tbF
    rw [if_pos (by have := List.mem_range.mp hi; omega)]
theorem tbF_endD {g : gT} {M N q1 q : Nat} {r1 r : Nat → Nat} {F1 : Nat → Nat → Int32} {A : Nat → Prop} (hD : va_D A (tW g M N q1 q r1 r F1 (tbF N 0))) : va_D A ((q, refs g N (rfF r N)) :: tRows g N r chip) := by
  have h2 : va_D A ((q, refs g N (rfF r N)) :: tRows g N r (tbF N 0)) := q_spD (q_sl (List.sublist_append_right _ _)) hD
  refine q_Dmap ?_ h2
  simp [tRows]
/-- a table of twice as many codes by the one of so many -/
theorem tab_p : ∀ H ∈ [1, 2, 4, 8], ∀ c, c < 2 * H → ∀ k, k < 2 * H → (c < H ∨ k < H) → chip (c % H) (k % H) * nI 1 = chip c k := by decide +kernel
theorem tab_n : ∀ H ∈ [1, 2, 4, 8], ∀ c, c < 2 * H → ∀ k, k < 2 * H → H ≤ c → H ≤ k → chip (c % H) (k % H) * (-1) = chip c k := by decide +kernel
theorem chip00 : nI 1 = chip 0 0 := by decide +kernel
/-! a row more -/
theorem rfF_0 {r : Nat → Nat} : (fun _ => none) = rfF r 0 := by
  funext i; unfold rfF; rw [if_neg (by omega)]
theorem rfF_s {r : Nat → Nat} {i x : Nat} (h : r i = x) : va_up (rfF r i) i (some x) = rfF r (i + 1) := by
  funext j
  show (if j = i then some x else rfF r i j) = _
  unfold rfF
  by_cases e : j = i
  · rw [if_pos e, if_pos (by omega), e, h]
  · rw [if_neg e]
    by_cases h2 : j < i
    · rw [if_pos h2, if_pos (by omega)]
    · rw [if_neg h2, if_neg (by omega)]
theorem rfF_e {r r' : Nat → Nat} {n : Nat} (h : ∀ i, i < n → r i = r' i) : rfF r n = rfF r' n := by
  funext j
  unfold rfF
  by_cases e : j < n
  · rw [if_pos e, if_pos e, h j e]
  · rw [if_neg e, if_neg e]
/-! a table is made: its rows behind it -/
section QMN
variable {p : Program} {l : Launch} {e : Env} {R : Room} {s : State} {m : MethodId} {args : Array Value} {below : List Frame} {meth : Method} {c : Code} {H : Heap} {locs : List Loc} {cells slots : Nat} {Q : State → Prop}
variable {cc : ByteArray} {pc index : Nat} {ls : Array Slot} {rest : List Value} {own : String} {g : gT} {A : Nat → Prop} {H0 : Heap}
theorem q_mna {wd : va_W} {N : Nat} (hx : p.tables.exec = Jvm.exec) (hb : c.code = cc) (hown : s.vm.findClass own = some m.cls) (hlink : (Cond.classLink own index "[[I").before args s = true) (harr : (Cond.arrayClass .int).before args s = true) (hE : Ev g A s H) (hP : va_P g.1 vwCl wd H) (hD : va_D A wd) (hS : va_S A H0 H locs) (hA : ∀ q, H0.size ≤ q → A q) (hN : N ≤ 16) (hcells : cells + (1 + N) ≤ R.cells) (hslots : slots + (N + N * N) ≤ R.slots) (d : decode cc pc = .ok (.multianewarray index 2, 4))
    (kk : ∀ (q : Nat) (r : Nat → Nat) (H1 : Heap), va_P g.1 vwCl (wd ++ ((q, refs g N (rfF r N)) :: tRows g N r (fun _ _ => 0))) H1 → va_D A (wd ++ ((q, refs g N (rfF r N)) :: tRows g N r (fun _ _ => 0))) → va_S A H0 H1 locs → W p l e R s m args below meth c H1 locs (cells + 1 + N) (slots + N + N * N) Q (F0 m (pc + 4) ls (.ref q :: rest))) : W p l e R s m args below meth c H locs cells slots Q (F0 m pc ls (.int (nI N) :: .int (nI N) :: rest)) := by
  have hc : (nI N).toNatClampNeg = N := nI_clamp (by omega)
  have hNN : N * N ≤ 16 * 16 := Nat.mul_le_mul hN hN
  have e0 : wd ++ va_pl [] (fun _ => ints g 0 (fun _ => 0)) = wd := List.append_nil wd
  refine va_mna (X := wd) (L := []) (f := fun _ => ints g 0 (fun _ => 0)) (ty := .int) (cy := gI g) (z := (N, .inl (fun _ => 0))) hx hb hown hlink hE.1.2.2.2.2.2.2.2 harr (hE.K.2 0 _ rfl).2 hE.K (by rw [e0]; exact hP) (by rw [e0]; exact hD) hS hA (nI_pos (by omega)) (nI_pos (by omega)) hc hc (by omega) (by show N * 4 ≤ _; omega) (by omega) rfl rfl hcells hslots (fun cA => arrV_new cA N (.int 0)) d (fun q r cA H1 hr1 _ hK1 hP1 hD1 hS1 => ?_)
  have e1 : some (gA g) = some cA := Eq.trans (Eq.symm (show s.vm.findClass ("[" ++ (FieldType.array .int).toString) = some (gA g) from (hE.K.2 2 _ rfl).2)) (hK1.2 3 _ rfl).2
  cases Option.some.inj e1
  have e2 : (wd ++ [(q, refs g N (rfF r N))]) ++ va_pl ([] ++ (List.range N).map r) (vr_up (fun _ => ints g 0 (fun _ => 0)) ((List.range N).map r) (ints g N (fun _ => 0))) = wd ++ ((q, refs g N (rfF r N)) :: tRows g N r (fun _ _ => 0)) := by
    rw [List.append_assoc]
    refine congrArg (fun t => wd ++ ((q, refs g N (rfF r N)) :: t)) ?_
    show ((List.range N).map r).map _ = (List.range N).map _
    rw [List.map_map]
    refine List.map_congr_left (fun i hi => ?_)
    show (r i, vr_up _ _ _ (r i)) = _
    rw [vr_up_in (List.mem_map.mpr ⟨i, hi, rfl⟩)]
  exact kk q r H1 (e2 ▸ hP1) (e2 ▸ hD1) hS1
end QMN
/-! the sky, as the check adds it up -/
def fillS (z : sT) (n : Nat) : Nat → Int32 := fun t => if t < n then sst z (t % 20) else 0
theorem fillS_0 {z : sT} : (fun _ => (0 : Int32)) = fillS z 0 := by
  funext t; unfold fillS; rw [if_neg (by omega)]
theorem fillS_s {z : sT} {n : Nat} : upd (fillS z n) n (sst z (n % 20)) = fillS z (n + 1) := by
  funext t
  show (if t = n then _ else _) = _
  unfold fillS
  by_cases e : t = n
  · rw [if_pos e, if_pos (by omega), e]
  · rw [if_neg e]
    by_cases h : t < n
    · rw [if_pos h, if_pos (by omega)]
    · rw [if_neg h, if_neg (by omega)]
def skS (z : sT) : Nat → Nat → Int32
  | 0 => fun t => sst z (t % 20)
  | n + 1 => adWs (skS z n) (nI (ssr z n)) z n (ssd z n)
theorem fillS_e {g : gT} {z : sT} {y : Nat} {D : va_G} {cl : List vw_C} {H : Heap} (hP : va_P D cl [(y, ints g 1020 (fillS z 1020))] H) : va_P D cl [(y, ints g 1020 (skS z 0))] H :=
  q_P1 (q_ext (fun j hj => by show fillS z 1020 j = sst z (j % 20); unfold fillS; rw [if_pos hj]) (hP 0 _ rfl))
theorem q_D1 {A : Nat → Prop} {y : Nat} {e e' : va_E} (hD : va_D A [(y, e)]) : va_D A [(y, e')] := q_Dmap (w := [(y, e)]) rfl hD
theorem skS_k {z : sT} (hL : 0 < sL z) : ∀ n, skS z n = fun t => skM z t n
  | 0 => rfl
  | n + 1 => by
    funext t
    show adWs (skS z n) (nI (ssr z n)) z n (ssd z n) t = skM z t n + sgl z n t
    rw [adWs_c, skS_k hL n, sgl_c hL]
theorem skS_m {z : sT} (hL : 0 < sL z) : skS z (sn z) = kM z := skS_k hL (sn z)
/-! a new picture -/
def bB (m s c h w : Nat) (r : Nat → Nat) : Nat → Nat := fun i => if i = 0 then m else if i = 1 then s else if i = 2 then c else if i = 3 then h else if i = 4 then w else r (i - 5)
theorem bB_5 {m s c h w : Nat} {r : Nat → Nat} {i : Nat} : bB m s c h w r (i + 5) = r i := by
  unfold bB
  rw [if_neg (by omega), if_neg (by omega), if_neg (by omega), if_neg (by omega), if_neg (by omega), Nat.add_sub_cancel]
theorem sp_new {g : gT} {b : Nat → Nat} {z : sT} {r : Nat → Nat} (hn : sn z = 0) (hb : ∀ i, b (i + 5) = r i) : spool g b z = tRows g (sL z) r chip := by
  unfold spool tRows
  rw [hn]
  refine List.map_congr_left (fun i hi => ?_)
  rw [sc_c (List.mem_range.mp hi), hb]
theorem wS_new {g : gT} {z : sT} {m s c h w : Nat} {r : Nat → Nat} (hn : sn z = 0) : wS g (bB m s c h w r) z = (m, .inr (5, [.ref c, .ref h, .ref w, .ref s])) :: (s, ints g 20 (sst z)) :: (c, refs g (sL z) (rfF r (sL z))) :: (h, refs g 0 (fun _ => none)) :: (w, refs g 0 (fun _ => none)) :: tRows g (sL z) r chip := by
  rw [← sp_new (g := g) (b := bB m s c h w r) hn (fun i => bB_5)]
  unfold wS
  rw [hn, ← rfF_0, ← rfF_0, rfF_e (r := cOf (bB m s c h w r)) (r' := r) (fun i _ => bB_5)]
  rfl
theorem pm_new {o s c h w : Nat × va_E} {rows : va_W} : (o :: s :: c :: h :: w :: rows).Perm (o :: c :: (((rows ++ [h]) ++ [w]) ++ [s])) := by
  refine List.Perm.cons _ ?_
  have e : ((rows ++ [h]) ++ [w]) ++ [s] = rows ++ [h, w, s] := by simp
  rw [e]
  have h1 : (c :: (rows ++ [h, w, s])).Perm (c :: ([h, w, s] ++ rows)) := List.Perm.cons _ List.perm_append_comm
  exact List.Perm.trans (List.perm_middle (a := s) (l₁ := [c, h, w]) (l₂ := rows)).symm h1.symm
