/-! ===== the picture changes ===== -/
abbrev aT : Type := (Nat → Nat) × (Nat → Nat) × Int32 × Nat × (Nat → Int32) × sT
abbrev wA (g : gT) (u : aT) : va_W := wS g u.1 u.2.2.2.2.2 ++ wC g u.2.1 u.2.2.1 u.2.2.2.1 u.2.2.2.2.1 u.2.2.2.2.2
def IW (z : sT) (M : Nat) (sig : Nat → Int32) : Prop := ∃ sa : Nat → Int32, IV z M sig sa
def aO (b0 a0 : Nat) (u : aT) : Prop := u.1 0 = b0 ∧ u.2.1 0 = a0 ∧ IW u.2.2.2.2.2 u.2.2.2.1 u.2.2.2.2.1
theorem IW.V {z : sT} {M : Nat} {sig : Nat → Int32} (h : IW z M sig) : VS z := by obtain ⟨sa, h⟩ := h; exact h.1
theorem IW.M {z : sT} {M : Nat} {sig : Nat → Int32} (h : IW z M sig) : wM M (sn z) := by obtain ⟨sa, h⟩ := h; exact h.2.1
theorem IW.K {z : sT} {M : Nat} {sig : Nat → Int32} (h : IW z M sig) : atF (sst z) sig = kM z := by obtain ⟨sa, h⟩ := h; exact h.K
theorem q_setL {l : va_W} {x y : Nat × va_E} : (l ++ [x]).set l.length y = l ++ [y] := by
  rw [List.set_append_right _ _ (Nat.le_refl _), Nat.sub_self]; rfl
theorem q_lastP {g : gT} {l : va_W} {q n : Nat} {f f' : Nat → Int32} {D : va_G} {cl : List vw_C} {H : Heap} (h : ∀ j, j < n → f j = f' j) (hP : va_P D cl (l ++ [(q, ints g n f)]) H) : va_P D cl (l ++ [(q, ints g n f')]) H := by
  rw [q_Pi] at hP ⊢
  intro x hx
  rcases List.mem_append.mp hx with hx | hx
  · exact hP x (List.mem_append_left _ hx)
  · rw [List.mem_singleton.mp hx]
    exact q_ext h (hP _ (List.mem_append_right _ List.mem_cons_self))
theorem q_lastD {g : gT} {l : va_W} {q n n' : Nat} {f f' : Nat → Int32} {A : Nat → Prop} (hD : va_D A (l ++ [(q, ints g n f)])) : va_D A (l ++ [(q, ints g n' f')]) := q_Dmap (w := l ++ [(q, ints g n f)]) (by simp) hD
/-- the last cell takes the place i -/
def swI (i n k : Nat) : Nat := if k = i then n else if k = n then i else k
theorem swI_i (i n : Nat) : ∀ k j, swI i n k = swI i n j → k = j := by
  intro k j h
  unfold swI at h
  by_cases a : k = i <;> by_cases b : j = i <;> by_cases c : k = n <;> by_cases d : j = n <;> simp_all
theorem swI_g {l : va_W} {x : Nat × va_E} {i : Nat} (hi : i < l.length) : ∀ (k : Nat) (q : Nat × va_E), (l.set i x)[k]? = some q → (l ++ [x])[swI i l.length k]? = some q := by
  intro k q h
  have hk : k < l.length := by have := (List.getElem?_eq_some_iff.mp h).1; rw [List.length_set] at this; exact this
  rw [List.getElem?_set] at h
  unfold swI
  by_cases e : i = k
  · subst e
    rw [if_pos rfl, if_pos hi] at h
    rw [if_pos rfl, List.getElem?_append_right (Nat.le_refl _), Nat.sub_self]
    exact h
  · rw [if_neg e] at h
    rw [if_neg (fun q => e q.symm), if_neg (Nat.ne_of_lt hk), List.getElem?_append_left hk]
    exact h
theorem q_inP {l : va_W} {x : Nat × va_E} {i : Nat} {D : va_G} {cl : List vw_C} {H : Heap} (hi : i < l.length) (hP : va_P D cl (l ++ [x]) H) : va_P D cl (l.set i x) H := q_pmP _ (swI_g hi) hP
theorem q_inD {l : va_W} {x : Nat × va_E} {i : Nat} {A : Nat → Prop} (hi : i < l.length) (hD : va_D A (l ++ [x])) : va_D A (l.set i x) := q_pmD _ (swI_i i l.length) (swI_g hi) hD
theorem sp_len {g : gT} {b : Nat → Nat} {z : sT} : (spool g b z).length = sL z + 2 * sn z := by simp [spool]
theorem wS_len {g : gT} {b : Nat → Nat} {z : sT} : (wS g b z).length = sL z + 2 * sn z + 5 := by
  show (spool g b z).length + 5 = _
  rw [sp_len]
theorem wA_i {g : gT} {b : Nat → Nat} {z : sT} {R : va_W} {i : Nat} (h : i < sL z + 2 * sn z) : i + 5 < (wS g b z ++ R).length := by
  rw [List.length_append, wS_len]; omega
/-- a cell of the pool is written -/
theorem sp_set {g : gT} {b b' : Nat → Nat} {z z' : sT} {i : Nat} {x : Nat × va_E} (hL : sL z' = sL z) (hn : sn z' = sn z) (hi : i < sL z + 2 * sn z) (h1 : scell g b' z' i = x) (h2 : ∀ j, j ≠ i → scell g b' z' j = scell g b z j) : (spool g b z).set i x = spool g b' z' := by
  unfold spool
  rw [hL, hn]
  exact q_mset h1 h2
theorem scell_e {g : gT} {b b' : Nat → Nat} {z z' : sT} {j : Nat} (hL : sL z' = sL z) (hb : b' (j + 5) = b (j + 5)) (h1 : ∀ k, j = sL z + 2 * k → hrw z' k = hrw z k) (h2 : ∀ k, j = sL z + 2 * k + 1 → ssd z' k = ssd z k ∧ swd z' k = swd z k) : scell g b' z' j = scell g b z j := by
  unfold scell
  rw [hL, hb]
  by_cases c : j < sL z
  · rw [if_pos c, if_pos c]
  · rw [if_neg c, if_neg c]
    by_cases d : (j - sL z) % 2 = 0
    · rw [if_pos d, if_pos d, h1 ((j - sL z) / 2) (by omega)]
    · rw [if_neg d, if_neg d]
      obtain ⟨e1, e2⟩ := h2 ((j - sL z) / 2) (by omega)
      rw [e1, e2]
theorem hrw_e {z z' : sT} {k : Nat} (h1 : scd z' k = scd z k) (h2 : ssr z' k = ssr z k) (h3 : sdl z' k = sdl z k) : hrw z' k = hrw z k := by
  unfold hrw; rw [h1, h2, h3]
/-- a hill's row there is written -/
theorem wS_row {g : gT} {b : Nat → Nat} {z z' : sT} {k : Nat} {R : va_W} {f : Nat → Int32} (hk : k < sn z) (hL : sL z' = sL z) (hn : sn z' = sn z) (hs : sst z' = sst z) (hsd : ssd z' = ssd z) (hsw : swd z' = swd z) (hf : f = hrw z' k) (ho : ∀ j, j ≠ k → hrw z' j = hrw z j) : (wS g b z ++ R).set (sL z + 2 * k + 5) (b (sL z + 2 * k + 5), ints g 3 f) = wS g b z' ++ R := by
  rw [List.set_append_left _ _ (by rw [wS_len]; omega)]
  refine congrArg (fun t => t ++ R) ?_
  have e : (spool g b z).set (sL z + 2 * k) (b (sL z + 2 * k + 5), ints g 3 f) = spool g b z' := by
    refine sp_set hL hn (by omega) ?_ (fun j hj => scell_e hL rfl (fun k2 h => ho k2 (fun q => hj (by rw [h, q]))) (fun k2 _ => by rw [hsd, hsw]; exact ⟨rfl, rfl⟩))
    rw [← hL, sc_h, hf]
  show (b 0, _) :: (b 1, _) :: (b 2, _) :: (b 3, _) :: (b 4, _) :: ((spool g b z).set (sL z + 2 * k) _) = _
  rw [e]
  unfold wS
  rw [hL, hn, hs]
theorem hrw_d {z : sT} {k d : Nat} : upd (hrw z k) 2 (nI d) = hrw (zdl z k d) k := by
  funext i
  show (if i = 2 then nI d else hrw z k i) = _
  have e : sdl (zdl z k d) k = d := upN_s
  unfold hrw
  rw [e]
  by_cases h0 : i = 0
  · subst h0; rfl
  · by_cases h1 : i = 1
    · subst h1; rfl
    · by_cases h2 : i = 2
      · subst h2; rfl
      · rw [if_neg h2, if_neg h0, if_neg h1, if_neg h2, if_neg h0, if_neg h1, if_neg h2]
theorem hrw_s {z : sT} {k d : Nat} : upd (hrw z k) 1 (nI d) = hrw (zsr z k d) k := by
  funext i
  show (if i = 1 then nI d else hrw z k i) = _
  have e : ssr (zsr z k d) k = d := upN_s
  unfold hrw
  rw [e]
  by_cases h0 : i = 0
  · subst h0; rfl
  · by_cases h1 : i = 1
    · subst h1; rfl
    · by_cases h2 : i = 2
      · subst h2; rfl
      · simp [h0, h1, h2]
theorem wS_dl {g : gT} {b : Nat → Nat} {z : sT} {k d : Nat} {R : va_W} (hk : k < sn z) : (wS g b z ++ R).set (sL z + 2 * k + 5) (b (sL z + 2 * k + 5), ints g 3 (upd (hrw z k) 2 (nI d))) = wS g b (zdl z k d) ++ R :=
  wS_row hk rfl rfl rfl rfl rfl hrw_d (fun j hj => hrw_e rfl rfl (upN_n hj))
theorem wS_sr {g : gT} {b : Nat → Nat} {z : sT} {k d : Nat} {R : va_W} (hk : k < sn z) : (wS g b z ++ R).set (sL z + 2 * k + 5) (b (sL z + 2 * k + 5), ints g 3 (upd (hrw z k) 1 (nI d))) = wS g b (zsr z k d) ++ R :=
  wS_row hk rfl rfl rfl rfl rfl hrw_s (fun j hj => hrw_e rfl (upN_n hj) rfl)
theorem wS_st {g : gT} {b : Nat → Nat} {z : sT} {p : Nat} {v : Int32} {R : va_W} : (wS g b z ++ R).set 1 (b 1, ints g 20 (upd (sst z) p v)) = wS g b (zst z p v) ++ R := rfl
/-- a hill's words there are others -/
def bU (b : Nat → Nat) (i q : Nat) : Nat → Nat := fun j => if j = i then q else b j
theorem bU_s {b : Nat → Nat} {i q : Nat} : bU b i q i = q := by simp [bU]
theorem bU_n {b : Nat → Nat} {i q j : Nat} (h : j ≠ i) : bU b i q j = b j := by simp [bU, h]
theorem rfF_u {r : Nat → Nat} {n k q : Nat} (hk : k < n) : va_up (rfF r n) k (some q) = rfF (upN r k q) n := by
  funext j
  show (if j = k then some q else rfF r n j) = _
  unfold rfF
  by_cases e : j = k
  · subst e; rw [if_pos rfl, if_pos hk, upN_s]
  · rw [if_neg e]
    by_cases h : j < n
    · rw [if_pos h, if_pos h, upN_n e]
    · rw [if_neg h, if_neg h]
theorem wS_wd {g : gT} {b : Nat → Nat} {z z' : sT} {k q : Nat} {R : va_W} (hk : k < sn z) (hL : sL z' = sL z) (hn : sn z' = sn z) (hs : sst z' = sst z) (hc : scd z' = scd z) (hr : ssr z' = ssr z) (hd : sdl z' = sdl z) (ho : ∀ j, j ≠ k → ssd z' j = ssd z j ∧ swd z' j = swd z j) : (((wS g b z ++ R).set 4 (b 4, refs g (sn z) (va_up (rfF (wOf b (sL z)) (sn z)) k (some q)))).set (sL z + 2 * k + 6) (q, ints g (ssd z' k) (swd z' k))) = wS g (bU b (sL z + 2 * k + 6) q) z' ++ R := by
  have e : (spool g b z).set (sL z + 2 * k + 1) (q, ints g (ssd z' k) (swd z' k)) = spool g (bU b (sL z + 2 * k + 6) q) z' := by
    refine sp_set hL hn (by omega) ?_ (fun j hj => scell_e hL (bU_n (by omega)) (fun k2 _ => hrw_e (by rw [hc]) (by rw [hr]) (by rw [hd])) (fun k2 h => ho k2 (fun q => hj (by rw [h, q]))))
    rw [← hL, sc_w, hL, bU_s]
  have e1 : rfF (wOf (bU b (sL z + 2 * k + 6) q) (sL z')) (sn z') = va_up (rfF (wOf b (sL z)) (sn z)) k (some q) := by
    rw [rfF_u hk, hL, hn]
    refine rfF_e (fun i hi => ?_)
    by_cases c : i = k
    · subst c; exact bU_s.trans upN_s.symm
    · exact (bU_n (by omega)).trans (upN_n (f := wOf b (sL z)) c).symm
  have e2 : rfF (hOf (bU b (sL z + 2 * k + 6) q) (sL z')) (sn z') = rfF (hOf b (sL z)) (sn z) := by
    rw [hL, hn]
    exact rfF_e (fun i hi => bU_n (by omega))
  have e3 : rfF (cOf (bU b (sL z + 2 * k + 6) q)) (sL z') = rfF (cOf b) (sL z) := by
    rw [hL]
    exact rfF_e (fun i hi => bU_n (by omega))
  have h0 : ∀ j, j < 5 → bU b (sL z + 2 * k + 6) q j = b j := fun j hj => bU_n (by omega)
  unfold wS
  rw [e1, e2, e3, h0 0 (by omega), h0 1 (by omega), h0 2 (by omega), h0 3 (by omega), h0 4 (by omega), hL, hn, hs, ← e]
  show (_ :: _ :: _ :: _ :: _ :: ((spool g b z ++ R).set (sL z + 2 * k + 1) _)) = _
  rw [List.set_append_left _ _ (by rw [sp_len]; omega)]
  rfl
/-- a hill more there -/
theorem pm_hill {o s c h w h' w' r1 r2 : Nat × va_E} {pool C : va_W} : q_SP ((o :: s :: c :: h' :: w' :: (pool ++ [r1, r2])) ++ C) (((((o :: s :: c :: h :: w :: pool) ++ C) ++ [r1]) ++ [h']) ++ [r2] ++ [w']) := by
  refine ⟨o :: s :: c :: (pool ++ (C ++ [r1, h', r2, w'])), ?_, ?_⟩
  · refine List.Perm.cons _ (List.Perm.cons _ (List.Perm.cons _ ?_))
    show ([h', w'] ++ ((pool ++ [r1, r2]) ++ C)).Perm _
    refine List.Perm.trans List.perm_append_comm ?_
    rw [List.append_assoc, List.append_assoc]
    refine List.Perm.append_left pool ?_
    rw [← List.append_assoc]
    refine List.Perm.trans (List.Perm.append_right _ List.perm_append_comm) ?_
    rw [List.append_assoc]
    refine List.Perm.append_left C ?_
    exact List.Perm.cons _ (List.Perm.swap _ _ _)
  · have e : (((((o :: s :: c :: h :: w :: pool) ++ C) ++ [r1]) ++ [h']) ++ [r2] ++ [w']) = [o, s, c] ++ ([h, w] ++ (pool ++ (C ++ [r1, h', r2, w']))) := by simp
    rw [e]
    exact List.Sublist.append_left (List.sublist_append_right _ _) [o, s, c]
def bH (b : Nat → Nat) (p h w r1 r2 : Nat) : Nat → Nat := fun i => if i = 3 then h else if i = 4 then w else if i = p then r1 else if i = p + 1 then r2 else b i
theorem wS_hl {g : gT} {b : Nat → Nat} {z : sT} {a s_ h w r1 r2 : Nat} : wS g (bH b (sL z + 2 * sn z + 5) h w r1 r2) (zhl z a s_) = (b 0, .inr (5, [.ref (b 2), .ref h, .ref w, .ref (b 1)])) :: (b 1, ints g 20 (sst z)) :: (b 2, refs g (sL z) (rfF (cOf b) (sL z))) :: (h, refs g (sn z + 1) (rfF (upN (hOf b (sL z)) (sn z) r1) (sn z + 1))) :: (w, refs g (sn z + 1) (rfF (upN (wOf b (sL z)) (sn z) r2) (sn z + 1))) :: (spool g b z ++ [(r1, ints g 3 (hrw (zhl z a s_) (sn z))), (r2, ints g 0 (fun _ => 0))]) := by
  have hb : ∀ i, i ≠ 3 → i ≠ 4 → i ≠ sL z + 2 * sn z + 5 → i ≠ sL z + 2 * sn z + 6 → bH b (sL z + 2 * sn z + 5) h w r1 r2 i = b i := by
    intro i h1 h2 h3 h4
    unfold bH
    rw [if_neg h1, if_neg h2, if_neg h3, if_neg (by omega)]
  have hr1 : bH b (sL z + 2 * sn z + 5) h w r1 r2 (sL z + 2 * sn z + 5) = r1 := by
    unfold bH; rw [if_neg (by omega), if_neg (by omega), if_pos rfl]
  have hr2 : bH b (sL z + 2 * sn z + 5) h w r1 r2 (sL z + 2 * sn z + 6) = r2 := by
    unfold bH; rw [if_neg (by omega), if_neg (by omega), if_neg (by omega), if_pos (by omega)]
  have e1 : rfF (cOf (bH b (sL z + 2 * sn z + 5) h w r1 r2)) (sL z) = rfF (cOf b) (sL z) := rfF_e (fun i hi => hb _ (by omega) (by omega) (by omega) (by omega))
  have e2 : rfF (hOf (bH b (sL z + 2 * sn z + 5) h w r1 r2) (sL z)) (sn z + 1) = rfF (upN (hOf b (sL z)) (sn z) r1) (sn z + 1) := rfF_e (fun i hi => by
    by_cases c : i = sn z
    · subst c; exact hr1.trans upN_s.symm
    · exact (hb _ (by omega) (by omega) (by omega) (by omega)).trans (upN_n (f := hOf b (sL z)) c).symm)
  have e3 : rfF (wOf (bH b (sL z + 2 * sn z + 5) h w r1 r2) (sL z)) (sn z + 1) = rfF (upN (wOf b (sL z)) (sn z) r2) (sn z + 1) := rfF_e (fun i hi => by
    by_cases c : i = sn z
    · subst c; exact hr2.trans upN_s.symm
    · exact (hb _ (by omega) (by omega) (by omega) (by omega)).trans (upN_n (f := wOf b (sL z)) c).symm)
  have e4 : spool g (bH b (sL z + 2 * sn z + 5) h w r1 r2) (zhl z a s_) = spool g b z ++ [(r1, ints g 3 (hrw (zhl z a s_) (sn z))), (r2, ints g 0 (fun _ => 0))] := by
    unfold spool
    show (List.range (sL z + 2 * (sn z + 1))).map _ = _
    rw [show sL z + 2 * (sn z + 1) = sL z + 2 * sn z + 1 + 1 by omega, List.range_succ, List.range_succ, List.map_append, List.map_append, List.append_assoc]
    have p1 : scell g (bH b (sL z + 2 * sn z + 5) h w r1 r2) (zhl z a s_) (sL z + 2 * sn z) = (r1, ints g 3 (hrw (zhl z a s_) (sn z))) := by
      rw [show sL z + 2 * sn z = sL (zhl z a s_) + 2 * sn z from rfl, sc_h]
      exact congrArg (fun t => (t, _)) hr1
    have p2 : scell g (bH b (sL z + 2 * sn z + 5) h w r1 r2) (zhl z a s_) (sL z + 2 * sn z + 1) = (r2, ints g 0 (fun _ => 0)) := by
      rw [show sL z + 2 * sn z + 1 = sL (zhl z a s_) + 2 * sn z + 1 from rfl, sc_w]
      have q1 : ssd (zhl z a s_) (sn z) = 0 := upN_s
      have q2 : swd (zhl z a s_) (sn z) = fun _ => 0 := if_pos rfl
      rw [q1, q2]
      exact congrArg (fun t => (t, _)) hr2
    show List.map _ _ ++ ([scell g _ _ (sL z + 2 * sn z)] ++ [scell g _ _ (sL z + 2 * sn z + 1)]) = _
    rw [p1, p2]
    refine congrArg (fun t => t ++ _) (List.map_congr_left (fun i hi => ?_))
    have hi := List.mem_range.mp hi
    refine scell_e (z := z) (z' := zhl z a s_) rfl (hb _ (by omega) (by omega) (by omega) (by omega)) (fun k hk => hrw_e (upN_n (by omega)) (upN_n (by omega)) (upN_n (by omega))) (fun k hk => ⟨upN_n (by omega), if_neg (by omega)⟩)
  unfold wS
  show (bH b (sL z + 2 * sn z + 5) h w r1 r2 0, _) :: (bH b (sL z + 2 * sn z + 5) h w r1 r2 1, ints g 20 (sst z)) :: (bH b (sL z + 2 * sn z + 5) h w r1 r2 2, refs g (sL z) (rfF (cOf (bH b (sL z + 2 * sn z + 5) h w r1 r2)) (sL z))) :: (bH b (sL z + 2 * sn z + 5) h w r1 r2 3, refs g (sn z + 1) (rfF (hOf (bH b (sL z + 2 * sn z + 5) h w r1 r2) (sL z)) (sn z + 1))) :: (bH b (sL z + 2 * sn z + 5) h w r1 r2 4, refs g (sn z + 1) (rfF (wOf (bH b (sL z + 2 * sn z + 5) h w r1 r2) (sL z)) (sn z + 1))) :: _ = _
  rw [e1, e2, e3, e4, hb 0 (by omega) (by omega) (by omega) (by omega), hb 1 (by omega) (by omega) (by omega) (by omega), hb 2 (by omega) (by omega) (by omega) (by omega)]
  rfl
theorem hrw_n {z : sT} {a s_ : Nat} : upd (upd (upd (fun _ => 0) 0 (nI a)) 1 (nI s_)) 2 (nI 0) = hrw (zhl z a s_) (sn z) := by
  funext i
  have q1 : scd (zhl z a s_) (sn z) = a := upN_s
  have q2 : ssr (zhl z a s_) (sn z) = s_ := upN_s
  have q3 : sdl (zhl z a s_) (sn z) = 0 := upN_s
  show (if i = 2 then nI 0 else if i = 1 then nI s_ else if i = 0 then nI a else 0) = _
  unfold hrw
  rw [q1, q2, q3]
  by_cases h0 : i = 0
  · subst h0; rfl
  · by_cases h1 : i = 1
    · subst h1; rfl
    · by_cases h2 : i = 2
      · subst h2; rfl
      · rw [if_neg h2, if_neg h1, if_neg h0, if_neg h0, if_neg h1, if_neg h2]
/-- all codes and hills there are others -/
theorem pm_codes {o s c h w c' h' w' : Nat × va_E} {pool rows C : va_W} : q_SP ((o :: s :: c' :: h' :: w' :: rows) ++ C) ((((o :: s :: c :: h :: w :: pool) ++ C) ++ (c' :: rows)) ++ [h'] ++ [w']) := by
  refine ⟨o :: s :: (C ++ (c' :: (rows ++ [h', w']))), ?_, ?_⟩
  · refine List.Perm.cons _ (List.Perm.cons _ ?_)
    have h1 : ((c' :: h' :: w' :: rows) ++ C).Perm ((c' :: (rows ++ [h', w'])) ++ C) := by
      refine List.Perm.append_right C (List.Perm.cons _ ?_)
      exact List.perm_append_comm (l₁ := [h', w']) (l₂ := rows)
    exact h1.trans List.perm_append_comm
  · have e : ((((o :: s :: c :: h :: w :: pool) ++ C) ++ (c' :: rows)) ++ [h'] ++ [w']) = [o, s] ++ ((c :: h :: w :: pool) ++ (C ++ (c' :: (rows ++ [h', w'])))) := by simp
    rw [e]
    exact List.Sublist.append_left (List.sublist_append_right _ _) [o, s]
