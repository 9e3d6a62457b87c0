/-! ===== what the property says, of the numbers alone ===== -/
theorem ab_toInt {x : Int32} (h : -2147483648 < x.toInt) : (ab x).toInt = x.toInt.natAbs := by
  have hr := q_rng x
  unfold ab
  have z0 : (0 : Int32).toInt = 0 := rfl
  by_cases c : 0 ≤ x
  · rw [if_pos c]
    have := r0_le.mp c
    omega
  · rw [if_neg c]
    have h1 : ¬ 0 ≤ x.toInt := fun q => c (r0_le.mpr q)
    rw [Int32.toInt_sub, z0, q_bmod (by omega) (by omega)]
    omega
theorem bd_ab {x : Int32} {B : Nat} (h : bd x B) (hB : B < 2147483648) : ab x ≤ nI B := by
  obtain ⟨h1, h2⟩ := h
  rw [rle_nI hB, ab_toInt (by omega)]
  omega
/-! the least number heard -/
theorem fnF_le {x : Nat → Int32} : ∀ {n k : Nat}, k < n → fnF x n ≤ ab (x k)
  | 0, _, h => absurd h (Nat.not_lt_zero _)
  | n + 1, k, h => by
    rw [fnF]
    by_cases c : n = 0 ∨ ab (x n) < fnF x n
    · rw [if_pos c]
      by_cases e : k = n
      · rw [e]; exact Int32.le_refl _
      · rcases c with c | c
        · omega
        · exact Int32.le_trans (Int32.le_of_lt c) (fnF_le (by omega))
    · rw [if_neg c]
      by_cases e : k = n
      · rw [e]; exact Int32.not_lt.mp (fun q => c (Or.inr q))
      · exact fnF_le (by omega)
theorem fnF_ex {x : Nat → Int32} : ∀ {n : Nat}, 0 < n → ∃ k, k < n ∧ ab (x k) = fnF x n
  | 0, h => absurd h (Nat.lt_irrefl 0)
  | n + 1, _ => by
    rw [fnF]
    by_cases c : n = 0 ∨ ab (x n) < fnF x n
    · rw [if_pos c]; exact ⟨n, by omega, rfl⟩
    · rw [if_neg c]
      obtain ⟨k, h1, h2⟩ := fnF_ex (x := x) (n := n) (by omega)
      exact ⟨k, by omega, h2⟩
/-- one of so many words is heard like that -/
def lsB (x : Nat → Int32) (y : Int32) (n0 : Nat) : Nat → Bool
  | 0 => decide (n0 = 0)
  | n + 1 => lsB x y n0 n || decide (ab (x n) = y)
theorem lsB_in {x : Nat → Int32} {y : Int32} {n0 k : Nat} : ∀ {n : Nat}, k < n → ab (x k) = y → lsB x y n0 n = true
  | 0, h, _ => absurd h (Nat.not_lt_zero _)
  | n + 1, h, e => by
    rw [lsB, Bool.or_eq_true]
    by_cases c : k = n
    · subst c; exact Or.inr (decide_eq_true e)
    · exact Or.inl (lsB_in (by omega) e)
theorem lsB_all {x : Nat → Int32} {n : Nat} : lsB x (fnF x n) n n = true := by
  by_cases c : n = 0
  · subst c; rfl
  · obtain ⟨k, h1, h2⟩ := fnF_ex (x := x) (n := n) (by omega)
    exact lsB_in h1 h2
theorem bI_or {p q : Prop} [Decidable p] [Decidable q] : bI p ||| bI q = bI (p ∨ q) := by
  unfold bI
  by_cases h1 : p <;> by_cases h2 : q
  · rw [if_pos h1, if_pos h2, if_pos (Or.inl h1)]; decide
  · rw [if_pos h1, if_neg h2, if_pos (Or.inl h1)]; decide
  · rw [if_neg h1, if_pos h2, if_pos (Or.inr h2)]; decide
  · rw [if_neg h1, if_neg h2, if_neg (fun q => q.elim h1 h2)]; decide
theorem lsB_s {x : Nat → Int32} {y : Int32} {n0 n : Nat} : bI (lsB x y n0 n = true) ||| bI (ab (x n) = y) = bI (lsB x y n0 (n + 1) = true) := by
  rw [bI_or]
  have e : (lsB x y n0 n = true ∨ ab (x n) = y) ↔ lsB x y n0 (n + 1) = true := by
    rw [lsB, Bool.or_eq_true, decide_eq_true_iff]
  unfold bI
  by_cases h : lsB x y n0 (n + 1) = true
  · rw [if_pos (e.mpr h), if_pos h]
  · rw [if_neg (fun q => h (e.mp q)), if_neg h]
/-- a word is heard wrongly when the number has not its sign -/
theorem wr_iff {x w : Int32} (hx : bd x 100000) (hw : w = 1 ∨ w = -1) : (wrC x w = 1) ↔ (x = 0 ∨ ¬ (0 < x ↔ 0 < w)) := by
  obtain ⟨h1, h2⟩ := hx
  have z0 : (0 : Int32).toInt = 0 := rfl
  have e0 : x = 0 ↔ x.toInt = 0 := ⟨fun h => by rw [h]; rfl, fun h => Int32.toInt_inj.mp (by rw [h]; rfl)⟩
  have hd : (x * w ≤ 0) ↔ (x * w).toInt ≤ 0 := rle_0
  rcases hw with rfl | rfl
  · have o : (0 : Int32) < 1 := by decide
    have e1 : (x * 1).toInt = x.toInt := by rw [Int32.mul_one]
    rw [e1] at hd
    by_cases c : x * 1 ≤ 0
    · rw [wrC_t c]
      have h3 := hd.mp c
      refine ⟨fun _ => ?_, fun _ => rfl⟩
      by_cases h4 : x = 0
      · exact Or.inl h4
      · refine Or.inr (fun q => ?_)
        have := r0_lt.mp (q.mpr o)
        omega
    · rw [wrC_f c]
      have h3 : ¬ x.toInt ≤ 0 := fun q => c (hd.mpr q)
      refine ⟨fun h => absurd h (by decide), fun h => ?_⟩
      rcases h with h | h
      · exact absurd (e0.mp h) (by omega)
      · exact absurd ⟨fun _ => o, fun _ => r0_lt.mpr (by omega)⟩ h
  · have o : ¬ (0 : Int32) < -1 := by decide
    have e1 : (x * (-1)).toInt = -x.toInt := by
      rw [q_mulI (by rw [show (-1 : Int32).toInt = -1 from rfl]; omega) (by rw [show (-1 : Int32).toInt = -1 from rfl]; omega), show (-1 : Int32).toInt = -1 from rfl]; omega
    rw [e1] at hd
    by_cases c : x * (-1) ≤ 0
    · rw [wrC_t c]
      have h3 := hd.mp c
      refine ⟨fun _ => ?_, fun _ => rfl⟩
      by_cases h4 : x = 0
      · exact Or.inl h4
      · refine Or.inr (fun q => o (q.mp (r0_lt.mpr ?_)))
        have : ¬ x.toInt = 0 := fun q => h4 (e0.mpr q)
        omega
    · rw [wrC_f c]
      have h3 : ¬ -x.toInt ≤ 0 := fun q => c (hd.mpr q)
      refine ⟨fun h => absurd h (by decide), fun h => ?_⟩
      rcases h with h | h
      · exact absurd (e0.mp h) (by omega)
      · exact absurd ⟨fun q => absurd (r0_lt.mp q) (by omega), fun q => absurd q o⟩ h
/-! codes that no hill has -/
theorem sumN_add {f f1 : Nat → Nat} : ∀ n, sumN (fun k => f k + f1 k) n = sumN f n + sumN f1 n
  | 0 => rfl
  | n + 1 => by
    show sumN (fun k => f k + f1 k) n + (f n + f1 n) = sumN f n + f n + (sumN f1 n + f1 n)
    rw [sumN_add n]; omega
theorem sumN_mono {f f1 : Nat → Nat} (h : ∀ k, f k ≤ f1 k) : ∀ n, sumN f n ≤ sumN f1 n
  | 0 => Nat.le_refl _
  | n + 1 => Nat.add_le_add (sumN_mono h n) (h n)
theorem sumN_one {a : Nat} : ∀ n, sumN (fun c => if a = c then 1 else 0) n = if a < n then 1 else 0
  | 0 => rfl
  | n + 1 => by
    show sumN _ n + (if a = n then 1 else 0) = _
    rw [sumN_one n]
    by_cases h : a = n
    · subst h; rw [if_neg (Nat.lt_irrefl a), if_pos rfl, if_pos (by omega)]
    · by_cases h2 : a < n
      · rw [if_pos h2, if_neg h, if_pos (by omega)]
      · rw [if_neg h2, if_neg h, if_neg (by omega)]
theorem tak_le {z : sT} {L : Nat} : ∀ m, sumN (fun c => if takB z c m = true then 1 else 0) L ≤ m
  | 0 => by
    have := sumN_le (f := fun c => if takB z c 0 = true then 1 else 0) (c := 0) (fun k => by simp [takB]) L
    omega
  | m + 1 => by
    have h1 := tak_le (z := z) (L := L) m
    have h2 := sumN_one (a := scd z m) L
    have h3 := sumN_mono (f := fun c => if takB z c (m + 1) = true then 1 else 0) (f1 := fun c => (if takB z c m = true then 1 else 0) + (if scd z m = c then 1 else 0)) (fun c => by
      show (if takB z c (m + 1) = true then 1 else 0) ≤ (if takB z c m = true then 1 else 0) + (if scd z m = c then 1 else 0)
      by_cases a : takB z c m = true
      · rw [if_pos a]; split <;> omega
      · by_cases b : scd z m = c
        · rw [if_pos b]; split <;> omega
        · rw [if_neg a, if_neg b, if_neg]
          · omega
          · rw [takB, Bool.or_eq_true]
            rintro (q | q)
            · exact a q
            · exact b (beq_iff_eq.mp q)) L
    rw [sumN_add] at h3
    have : (if scd z m < L then 1 else 0) ≤ 1 := by split <;> omega
    omega
theorem fr_sum {z : sT} {m : Nat} : ∀ L, sumN (fun c => if takB z c m = true then 0 else 1) L + sumN (fun c => if takB z c m = true then 1 else 0) L = L
  | 0 => rfl
  | L + 1 => by
    have h := fr_sum (z := z) (m := m) L
    show sumN (fun c => if takB z c m = true then 0 else 1) L + (if takB z L m = true then 0 else 1) + (sumN (fun c => if takB z c m = true then 1 else 0) L + (if takB z L m = true then 1 else 0)) = L + 1
    split <;> omega
theorem free_le {z : sT} : freeN z ≤ sL z := by
  have := fr_sum (z := z) (m := sn z) (sL z)
  unfold freeN; omega
theorem free_ge {z : sT} : sL z ≤ freeN z + sn z := by
  have h1 := fr_sum (z := z) (m := sn z) (sL z)
  have h2 := tak_le (z := z) (L := sL z) (sn z)
  unfold freeN; omega
theorem nI_neg {k : Nat} (h : k < 2147483648) : ¬ nI k < 0 := nI_pos h
theorem adv_all {z : sT} {b : Nat} : ∀ n, n < 2147483648 → ((advS z b n).1 < 0 ↔ sumN (fun c => if takB z c (sn z) = true then 0 else 1) n = 0) ∧ (¬ (advS z b n).1 < 0 → ∃ c, c < n ∧ (advS z b n).1 = nI c ∧ ¬ takB z c (sn z) = true)
  | 0, _ => ⟨⟨fun _ => rfl, fun _ => (show (-1 : Int32) < 0 by decide)⟩, fun h => absurd (show (-1 : Int32) < 0 by decide) h⟩
  | n + 1, hn => by
    obtain ⟨h1, h2⟩ := adv_all (z := z) (b := b) n (by omega)
    rw [advS]
    show (_ ↔ sumN (fun c => if takB z c (sn z) = true then 0 else 1) n + (if takB z n (sn z) = true then 0 else 1) = 0) ∧ _
    by_cases c : takB z n (sn z) = true
    · rw [if_pos c, if_pos c]
      refine ⟨h1, fun h => ?_⟩
      obtain ⟨k, a1, a2, a3⟩ := h2 h
      exact ⟨k, by omega, a2, a3⟩
    · rw [if_neg c, if_neg c]
      by_cases c2 : (advS z b n).1 < 0 ∨ disF z n b < (advS z b n).2
      · rw [if_pos c2]
        exact ⟨⟨fun h => absurd h (nI_neg (by omega)), fun h => by omega⟩, fun _ => ⟨n, by omega, rfl, c⟩⟩
      · rw [if_neg c2]
        have c3 : ¬ (advS z b n).1 < 0 := fun q => c2 (Or.inl q)
        refine ⟨⟨fun h => absurd h c3, fun h => by omega⟩, fun _ => ?_⟩
        obtain ⟨k, a1, a2, a3⟩ := h2 c3
        exact ⟨k, by omega, a2, a3⟩
/-! the sky, and how far it is from the storm -/
theorem bd_sgs {z : sT} (hV : VS z) {h t : Nat} (hh : h < sn z) : bd (sgl z h t) (ssr z h) := by
  have h1 := hV.h hh
  unfold sgl
  split
  · next c =>
    exact bd_mul1 (bd_mul1 (bd_nI (by omega) (by omega)) (by omega) ((hV.2.2.1 h hh).2.2.2.2 _ (sgl_w c.2))) (by omega) (chip_pm _ _)
  · exact bd_nI (by omega) (by omega)
theorem sky_far {z : sT} (hV : VS z) {t : Nat} : ∀ {n : Nat}, n ≤ sn z → (skM z t n).toInt - (sst z (t % 20)).toInt ≤ sumN (ssr z) n ∧ -(sumN (ssr z) n : Int) ≤ (skM z t n).toInt - (sst z (t % 20)).toInt
  | 0, _ => by
    show (sst z (t % 20)).toInt - _ ≤ ((0 : Nat) : Int) ∧ -((0 : Nat) : Int) ≤ (sst z (t % 20)).toInt - _
    omega
  | n + 1, h => by
    have hn := hV.n
    obtain ⟨h1, h2⟩ := sky_far hV (t := t) (n := n) (by omega)
    obtain ⟨h3, h4⟩ := bd_skM hV (t := t) (n := n) (by omega)
    obtain ⟨h5, h6⟩ := bd_sgs hV (t := t) (show n < sn z by omega)
    have h7 := (hV.h (show n < sn z by omega)).2.1
    have e : (skM z t (n + 1)).toInt = (skM z t n).toInt + (sgl z n t).toInt := q_addI (by omega) (by omega)
    have e2 : sumN (ssr z) (n + 1) = sumN (ssr z) n + ssr z n := rfl
    rw [e, e2]
    omega
theorem str_le {z : sT} (hV : VS z) : ∀ {n : Nat}, n ≤ sn z → sumN (ssr z) n ≤ n * 9
  | 0, _ => Nat.zero_le _
  | n + 1, h => by
    have h1 := str_le hV (n := n) (by omega)
    have h2 := (hV.h (show n < sn z by omega)).2.1
    show sumN (ssr z) n + ssr z n ≤ _
    omega
theorem far_ab {z : sT} (hV : VS z) {t : Nat} : ab (kM z t - sst z (t % 20)) ≤ nI (sumN (ssr z) (sn z)) := by
  have hn := hV.n
  have h0 := str_le hV (Nat.le_refl (sn z))
  obtain ⟨h1, h2⟩ := sky_far hV (t := t) (Nat.le_refl (sn z))
  obtain ⟨h3, h4⟩ := bd_kM hV t
  obtain ⟨h5, h6⟩ := hV.2.2.2 (t % 20) (by omega)
  refine bd_ab (B := sumN (ssr z) (sn z)) ?_ (by omega)
  unfold bd
  rw [Int32.toInt_sub, q_bmod (by omega) (by omega)]
  exact ⟨h2, h1⟩
theorem endA_ge {z : sT} {k : Nat} : ∀ {n : Nat}, k < n → endF (sL z) (ssd z k) (sdl z k) ≤ endA z n
  | 0, h => absurd h (Nat.not_lt_zero _)
  | n + 1, h => by
    rw [endA]
    by_cases c : k = n
    · subst c; exact Nat.le_max_right _ _
    · exact Nat.le_trans (endA_ge (by omega)) (Nat.le_max_left _ _)
theorem sky_end {z : sT} {t : Nat} (ht : endA z (sn z) ≤ t) : ∀ {n : Nat}, n ≤ sn z → skM z t n = sst z (t % 20)
  | 0, _ => rfl
  | n + 1, h => by
    show skM z t n + sgl z n t = _
    rw [sky_end ht (n := n) (by omega)]
    have h1 : endF (sL z) (ssd z n) (sdl z n) ≤ t := Nat.le_trans (endA_ge (by omega)) ht
    have e : sgl z n t = nI 0 := by
      rw [sgl, if_neg]
      rintro ⟨h2, h3⟩
      unfold endF at h1
      by_cases c : ssd z n = 0
      · rw [c, Nat.mul_zero] at h3; omega
      · rw [if_neg c] at h1
        have := Nat.mul_comm (sL z) (ssd z n)
        omega
    rw [e, show nI 0 = (0 : Int32) from rfl]; grind
theorem kM_end {z : sT} {t : Nat} (ht : endA z (sn z) ≤ t) : kM z t = sst z (t % 20) := sky_end ht (Nat.le_refl _)
/-! with other strengths -/
theorem zsr_self {z : sT} {k : Nat} : zsr z k (ssr z k) = z := by
  have e : upN (ssr z) k (ssr z k) = ssr z := by
    funext j
    by_cases c : j = k
    · subst c; exact upN_s
    · exact upN_n c
  show (sL z, sn z, scd z, upN (ssr z) k (ssr z k), sdl z, ssd z, swd z, sst z) = z
  rw [e]
theorem tuS_le {f : Nat → Nat} {s_ : Nat} : ∀ {n : Nat}, 1 ≤ s_ → s_ ≤ n + 1 → f (tuS f n) ≤ f s_
  | 0, h1, h2 => by
    obtain rfl : s_ = 1 := by omega
    exact Nat.le_refl _
  | n + 1, h1, h2 => by
    by_cases c : f (n + 2) < f (tuS f n)
    · rw [tuS_t c]
      by_cases e : s_ = n + 2
      · rw [e]; exact Nat.le_refl _
      · exact Nat.le_trans (Nat.le_of_lt c) (tuS_le h1 (by omega))
    · rw [tuS_f c]
      by_cases e : s_ = n + 2
      · rw [e]; omega
      · exact tuS_le h1 (by omega)
