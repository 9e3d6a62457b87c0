/-! ===== what the checks ask, of the numbers alone ===== -/
theorem wr_a {x w : Int32} (hx : bd x 100000) (hw : w = 1 ∨ w = -1) (h3 : wrC x w ≠ 1) (h : x = 0) : False := h3 ((wr_iff hx hw).mpr (Or.inl h))
theorem wr_b {x w : Int32} (hx : bd x 100000) (hw : w = 1 ∨ w = -1) (h3 : wrC x w ≠ 1) (hp : ¬ x ≤ 0) (hq : w ≤ 0) : False :=
  h3 ((wr_iff hx hw).mpr (Or.inr (fun q => absurd (q.mp (Int32.not_le.mp hp)) (Int32.not_lt.mpr hq))))
theorem wr_c {x w : Int32} (hx : bd x 100000) (hw : w = 1 ∨ w = -1) (h3 : wrC x w ≠ 1) (hp : x ≤ 0) (hq : ¬ w ≤ 0) : False :=
  h3 ((wr_iff hx hw).mpr (Or.inr (fun q => absurd (q.mpr (Int32.not_le.mp hq)) (Int32.not_lt.mpr hp))))
theorem wr_d {x w : Int32} (hx : bd x 100000) (hw : w = 1 ∨ w = -1) (h3 : wrC x w = 1) (h0 : ¬ x = 0) (hp : ¬ x ≤ 0) (hq : ¬ w ≤ 0) : False :=
  ((wr_iff hx hw).mp h3).elim h0 (fun h => h ⟨fun _ => Int32.not_le.mp hq, fun _ => Int32.not_le.mp hp⟩)
theorem wr_e {x w : Int32} (hx : bd x 100000) (hw : w = 1 ∨ w = -1) (h3 : wrC x w = 1) (h0 : ¬ x = 0) (hp : x ≤ 0) (hq : w ≤ 0) : False :=
  ((wr_iff hx hw).mp h3).elim h0 (fun h => h ⟨fun q => absurd q (Int32.not_lt.mpr hp), fun q => absurd q (Int32.not_lt.mpr hq)⟩)
theorem allW_s {z : sT} {K : Nat → Int32} (n : Nat) : allW z K n ≤ sumN (ssd z) n := sumN_mono (fun _ => wrF_le _ _ _ _ _ _) n
theorem ssd_le {z : sT} (hV : VS z) : ∀ {n : Nat}, n ≤ sn z → sumN (ssd z) n ≤ n * 12
  | 0, _ => Nat.zero_le _
  | n + 1, h => by
    have h1 := ssd_le hV (n := n) (by omega)
    have h2 := (hV.h (show n < sn z by omega)).2.2.2
    show sumN (ssd z) n + ssd z n ≤ _
    omega
theorem allW_lt {z : sT} (hV : VS z) {K : Nat → Int32} : allW z K (sn z) ≤ 96 := by
  have h1 := allW_s (z := z) (K := K) (sn z)
  have h2 := ssd_le hV (Nat.le_refl (sn z))
  have h3 := hV.n
  omega
theorem wwM_lt {z : sT} (hV : VS z) {k s_ : Nat} : wwM z k s_ ≤ 96 := by
  have h1 := allW_s (z := zsr z k s_) (K := kM (zsr z k s_)) (sn z)
  have h2 := ssd_le hV (Nat.le_refl (sn z))
  have h3 := hV.n
  show allW (zsr z k s_) (kM (zsr z k s_)) (sn z) ≤ 96
  exact Nat.le_trans h1 (Nat.le_trans h2 (by omega))
theorem wwM_own {z : sT} {k : Nat} : wwM z k (ssr z k) = allW z (kM z) (sn z) := by
  show allW (zsr z k (ssr z k)) (kM (zsr z k (ssr z k))) (sn z) = _
  rw [zsr_self]
theorem wwM_tu {z : sT} (hV : VS z) {k : Nat} (hk : k < sn z) : wwM z k (tuS (wwM z k) 8) ≤ allW z (kM z) (sn z) := by
  rw [← wwM_own (k := k)]
  have h := (hV.2.2.1 k hk).2.1
  exact tuS_le h.1 (by omega)
theorem fr_ok {z : sT} (hV : VS z) : nI (sL z) - nI (sn z) ≤ nI (freeN z) := by
  have h1 := free_ge (z := z)
  have h2 := free_le (z := z)
  have h3 := hV.L
  have h4 := hV.n
  rw [rle_nI (by omega), pk_sub_toInt (by omega) (by omega)]
  omega
theorem lg_self {x : Int64} : lg_cmp x x = 0 := by
  unfold lg_cmp
  rw [if_neg, if_pos rfl]
  intro h
  rw [gt_iff_lt, Int64.lt_iff_toInt_lt] at h
  omega
theorem lg_sq {z : sT} (hV : VS z) {t : Nat} : lg_cmp (sumJ (fun k => (nI (sL z)).toInt64 * (kM z (t + k)).toInt64 * (kM z (t + k)).toInt64) (sL z) - sumJ (fun c => (hearF (sL z) (kM z) c t).toInt64 * (hearF (sL z) (kM z) c t).toInt64) (sL z)) 0 = 0 := by
  rw [squares hV t, Int64.sub_self]
  exact lg_self
theorem endF_e {L sd dl : Nat} (h : 0 < sd) : nI dl + nI (L * sd) = nI (endF L sd dl) := by
  rw [nI_add]
  refine congrArg nI ?_
  unfold endF
  rw [if_neg (by omega), Nat.add_comm, Nat.mul_comm]
