/-! ===== the check's own picture: its cells ===== -/
/-- a hill's row there: its code, strength, delay -/
def hrw (z : sT) (k : Nat) : Nat → Int32 := fun i => if i = 0 then nI (scd z k) else if i = 1 then nI (ssr z k) else if i = 2 then nI (sdl z k) else 0
abbrev refs (g : gT) (n : Nat) (f : Nat → Option Nat) : va_E := .inl (gA g, n, .inr (.inr (.inr (.inr f))))
abbrev ints (g : gT) (n : Nat) (f : Nat → Int32) : va_E := .inl (gI g, n, .inl f)
def rfF (r : Nat → Nat) (n : Nat) : Nat → Option Nat := fun i => if i < n then some (r i) else none
theorem rfF_lt {r : Nat → Nat} {n i : Nat} (h : i < n) : rfF r n i = some (r i) := by simp [rfF, h]
/-- the pool: the codes' rows; of each hill its row, its words -/
def scell (g : gT) (b : Nat → Nat) (z : sT) (j : Nat) : Nat × va_E :=
  if j < sL z then (b (j + 5), ints g (sL z) (chip j))
  else if (j - sL z) % 2 = 0 then (b (j + 5), ints g 3 (hrw z ((j - sL z) / 2)))
  else (b (j + 5), ints g (ssd z ((j - sL z) / 2)) (swd z ((j - sL z) / 2)))
abbrev cOf (b : Nat → Nat) : Nat → Nat := fun c => b (c + 5)
abbrev hOf (b : Nat → Nat) (L : Nat) : Nat → Nat := fun k => b (L + 2 * k + 5)
abbrev wOf (b : Nat → Nat) (L : Nat) : Nat → Nat := fun k => b (L + 2 * k + 6)
def spool (g : gT) (b : Nat → Nat) (z : sT) : va_W := (List.range (sL z + 2 * sn z)).map (scell g b z)
abbrev wS (g : gT) (b : Nat → Nat) (z : sT) : va_W :=
  (b 0, .inr (5, [.ref (b 2), .ref (b 3), .ref (b 4), .ref (b 1)])) :: (b 1, ints g 20 (sst z)) :: (b 2, refs g (sL z) (rfF (cOf b) (sL z))) :: (b 3, refs g (sn z) (rfF (hOf b (sL z)) (sn z))) :: (b 4, refs g (sn z) (rfF (wOf b (sL z)) (sn z))) :: spool g b z
theorem sp_get {g : gT} {b : Nat → Nat} {z : sT} {j : Nat} (h : j < sL z + 2 * sn z) : (spool g b z)[j]? = some (scell g b z j) := by
  rw [spool, List.getElem?_map, List.getElem?_range h]; rfl
theorem sc_c {g : gT} {b : Nat → Nat} {z : sT} {c : Nat} (h : c < sL z) : scell g b z c = (b (c + 5), ints g (sL z) (chip c)) := by
  unfold scell; rw [if_pos h]
theorem sc_h {g : gT} {b : Nat → Nat} {z : sT} {k : Nat} : scell g b z (sL z + 2 * k) = (b (sL z + 2 * k + 5), ints g 3 (hrw z k)) := by
  unfold scell; rw [if_neg (by omega), if_pos (by omega), show (sL z + 2 * k - sL z) / 2 = k by omega]
theorem sc_w {g : gT} {b : Nat → Nat} {z : sT} {k : Nat} : scell g b z (sL z + 2 * k + 1) = (b (sL z + 2 * k + 6), ints g (ssd z k) (swd z k)) := by
  unfold scell; rw [if_neg (by omega), if_neg (by omega), show (sL z + 2 * k + 1 - sL z) / 2 = k by omega]
theorem wS_c {g : gT} {b : Nat → Nat} {z : sT} {c : Nat} (h : c < sL z) : (wS g b z)[c + 5]? = some (b (c + 5), ints g (sL z) (chip c)) := by
  show (spool g b z)[c]? = _
  rw [sp_get (by omega), sc_c h]
theorem wS_h {g : gT} {b : Nat → Nat} {z : sT} {k : Nat} (h : k < sn z) : (wS g b z)[sL z + 2 * k + 5]? = some (b (sL z + 2 * k + 5), ints g 3 (hrw z k)) := by
  show (spool g b z)[sL z + 2 * k]? = _
  rw [sp_get (by omega), sc_h]
theorem wS_w {g : gT} {b : Nat → Nat} {z : sT} {k : Nat} (h : k < sn z) : (wS g b z)[sL z + 2 * k + 6]? = some (b (sL z + 2 * k + 6), ints g (ssd z k) (swd z k)) := by
  show (spool g b z)[sL z + 2 * k + 1]? = _
  rw [sp_get (by omega), sc_w]
theorem hrw_0 {z : sT} {k : Nat} : hrw z k 0 = nI (scd z k) := rfl
theorem hrw_1 {z : sT} {k : Nat} : hrw z k 1 = nI (ssr z k) := rfl
theorem hrw_2 {z : sT} {k : Nat} : hrw z k 2 = nI (sdl z k) := rfl
/-! the check's numbers -/
def bel (x : Int32) (n : Nat) : Nat := (x &&& 2147483647).toNatClampNeg % n
theorem bel_lt {x : Int32} {n : Nat} (h : 0 < n) : bel x n < n := Nat.mod_lt _ h
theorem q_mask (x : Int32) : ∃ k : Nat, k < 2147483648 ∧ x &&& 2147483647 = nI k := by
  have h1 : (x &&& 2147483647).toBitVec.toNat < 2147483648 := by
    rw [Int32.toBitVec_and, BitVec.toNat_and]
    have h2 : (2147483647 : Int32).toBitVec.toNat = 2147483647 := rfl
    rw [h2]
    exact Nat.lt_of_le_of_lt Nat.and_le_right (by omega)
  refine ⟨(x &&& 2147483647).toBitVec.toNat, h1, ?_⟩
  apply Int32.toBitVec_inj.1
  show (x &&& 2147483647).toBitVec = BitVec.ofNat 32 _
  rw [BitVec.ofNat_toNat]; simp
theorem bel_rem {x : Int32} {n : Nat} (h0 : 0 < n) (hn : n < 2147483648) : (x &&& 2147483647) - (x &&& 2147483647) / nI n * nI n = nI (bel x n) := by
  obtain ⟨k, hk, e⟩ := q_mask x
  unfold bel
  rw [e, q_rem hk h0 hn, nI_clamp hk]
def celF (L : Nat) (xs : Nat → Int32) (k : Nat) : Int32 := if k < L then xs k else 790386105 * nI (k + 3)
theorem celF_lt {L : Nat} {xs : Nat → Int32} {k : Nat} (h : k < L) : xs k = celF L xs k := by simp [celF, h]
theorem celF_ge {L : Nat} {xs : Nat → Int32} {k : Nat} (h : L ≤ k) : 790386105 * nI (k + 3) = celF L xs k := by
  have : ¬ k < L := by omega
  simp [celF, this]
/-! what is heard, by the check's way of adding -/
theorem chip_pos {c k : Nat} : (0 < chip c k) ↔ chip c k = nI 1 := by
  rcases chip_pm c k with h | h <;> rw [h] <;> decide
theorem hear_p {x : Int32} {c k : Nat} (h : 0 < chip c k) : x = x * chip c k := by
  rw [chip_pos.mp h]; exact (Int32.mul_one x).symm
theorem hear_n {x : Int32} {c k : Nat} (h : ¬ 0 < chip c k) : -x = x * chip c k := by
  rcases chip_pm c k with e | e
  · exact absurd (chip_pos.mpr e) h
  · rw [e]; grind
theorem wrC_p {x w : Int32} (h : 0 < w * x) : wrC x w = 0 := by
  rw [Int32.mul_comm] at h
  exact wrC_f (fun q => absurd h (Int32.not_lt.mpr q))
theorem wrC_n {x w : Int32} (h : ¬ 0 < w * x) : wrC x w = 1 := by
  rw [Int32.mul_comm] at h
  exact wrC_t (Int32.not_lt.mp h)
