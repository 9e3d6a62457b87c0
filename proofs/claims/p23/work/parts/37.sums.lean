/-! ===== squares heard and squares there; likeness the other way round ===== -/
def sumZ (f : Nat → Int) : Nat → Int
  | 0 => 0
  | n + 1 => sumZ f n + f n
def chZ (c k : Nat) : Int := if pcN (c &&& k) % 2 = 0 then 1 else -1
theorem chip_Z {c k : Nat} : (chip c k).toInt = chZ c k := by
  unfold chip chZ; split <;> rfl
theorem chZ_pm (c k : Nat) : chZ c k = 1 ∨ chZ c k = -1 := by
  unfold chZ; split
  · exact Or.inl rfl
  · exact Or.inr rfl
theorem sumI_Z {f : Nat → Int32} {B : Nat} : ∀ {n : Nat}, (∀ k, k < n → bd (f k) B) → n * B < 2147483648 → (sumI f n).toInt = sumZ (fun k => (f k).toInt) n
  | 0, _, _ => rfl
  | n + 1, h, hb => by
    have e : (n + 1) * B = n * B + B := Nat.succ_mul n B
    have h1 := bd_sum (n := n) (fun k hk => h k (by omega)) (by omega)
    have h2 := h n (by omega)
    obtain ⟨a1, a2⟩ := h1
    obtain ⟨b1, b2⟩ := h2
    show (sumI f n + f n).toInt = sumZ _ n + (f n).toInt
    rw [q_addI (by omega) (by omega), sumI_Z (n := n) (fun k hk => h k (by omega)) (by omega)]
theorem sumZ_e {f f1 : Nat → Int} : ∀ n, (∀ k, k < n → f k = f1 k) → sumZ f n = sumZ f1 n
  | 0, _ => rfl
  | n + 1, h => by
    show sumZ f n + f n = sumZ f1 n + f1 n
    rw [sumZ_e n (fun k hk => h k (by omega)), h n (by omega)]
theorem sumZ_add {f f1 : Nat → Int} : ∀ n, sumZ (fun k => f k + f1 k) n = sumZ f n + sumZ f1 n
  | 0 => rfl
  | n + 1 => by
    show sumZ (fun k => f k + f1 k) n + (f n + f1 n) = sumZ f n + f n + (sumZ f1 n + f1 n)
    rw [sumZ_add n]; omega
theorem sumZ_mul {a : Int} {f : Nat → Int} : ∀ n, sumZ (fun k => a * f k) n = a * sumZ f n
  | 0 => (Int.mul_zero a).symm
  | n + 1 => by
    show sumZ (fun k => a * f k) n + a * f n = a * (sumZ f n + f n)
    rw [sumZ_mul n, Int.mul_add]
theorem sumZ_mulR {a : Int} {f : Nat → Int} : ∀ n, sumZ (fun k => f k * a) n = sumZ f n * a
  | 0 => (Int.zero_mul a).symm
  | n + 1 => by
    show sumZ (fun k => f k * a) n + f n * a = (sumZ f n + f n) * a
    rw [sumZ_mulR n, Int.add_mul]
theorem sumZ_0 : ∀ n, sumZ (fun _ => 0) n = 0
  | 0 => rfl
  | n + 1 => by
    show sumZ (fun _ => 0) n + 0 = 0
    rw [sumZ_0 n]; rfl
theorem sumZ_sw {f : Nat → Nat → Int} {m : Nat} : ∀ n, sumZ (fun i => sumZ (fun j => f i j) m) n = sumZ (fun j => sumZ (fun i => f i j) n) m
  | 0 => (sumZ_0 m).symm
  | n + 1 => by
    show sumZ (fun i => sumZ (fun j => f i j) m) n + sumZ (fun j => f n j) m = sumZ (fun j => sumZ (fun i => f i j) n + f n j) m
    rw [sumZ_sw n, sumZ_add]
theorem sumZ_pick {k : Nat} {a : Nat → Int} : ∀ n, sumZ (fun l => if k = l then a l else 0) n = if k < n then a k else 0
  | 0 => rfl
  | n + 1 => by
    show sumZ (fun l => if k = l then a l else 0) n + (if k = n then a n else 0) = _
    rw [sumZ_pick n]
    by_cases e : k = n
    · subst e; rw [if_neg (Nat.lt_irrefl k), if_pos rfl, if_pos (by omega)]; omega
    · by_cases h : k < n
      · rw [if_pos h, if_neg e, if_pos (by omega)]; omega
      · rw [if_neg h, if_neg e, if_neg (by omega)]; omega
theorem orth : ∀ L ∈ [1, 2, 4, 8, 16], ∀ k, k < L → ∀ l, l < L → sumZ (fun c => chZ c k * chZ c l) L = if k = l then (L : Int) else 0 := by decide +kernel
theorem VS.Lm {z : sT} (h : VS z) : sL z ∈ [1, 2, 4, 8, 16] := by
  obtain ⟨⟨k, hk, e⟩, -⟩ := h
  rw [e]
  have : k = 0 ∨ k = 1 ∨ k = 2 ∨ k = 3 ∨ k = 4 := by omega
  rcases this with rfl | rfl | rfl | rfl | rfl <;> decide
theorem squares_Z {L : Nat} (hL : L ∈ [1, 2, 4, 8, 16]) (S : Nat → Int) : sumZ (fun c => sumZ (fun k => S k * chZ c k) L * sumZ (fun k => S k * chZ c k) L) L = sumZ (fun k => (L : Int) * S k * S k) L := by
  have h1 : ∀ c, sumZ (fun k => S k * chZ c k) L * sumZ (fun k => S k * chZ c k) L = sumZ (fun k => sumZ (fun l => S k * S l * (chZ c k * chZ c l)) L) L := by
    intro c
    rw [← sumZ_mulR]
    refine sumZ_e L (fun k _ => ?_)
    rw [← sumZ_mul]
    exact sumZ_e L (fun l _ => by grind)
  rw [sumZ_e L (fun c _ => h1 c), sumZ_sw]
  refine sumZ_e L (fun k hk => ?_)
  rw [sumZ_sw]
  have h2 : ∀ l, l < L → sumZ (fun c => S k * S l * (chZ c k * chZ c l)) L = if k = l then S k * S l * (L : Int) else 0 := by
    intro l hl
    rw [sumZ_mul, orth L hL k hk l hl]
    split
    · rfl
    · exact Int.mul_zero _
  rw [sumZ_e L h2, sumZ_pick, if_pos hk]
  grind
/-! in 64 bits -/
def sumJ (f : Nat → Int64) : Nat → Int64
  | 0 => 0
  | n + 1 => sumJ f n + f n
theorem sumJ_Z {f : Nat → Int64} {F : Nat → Int} : ∀ n, (∀ k, k < n → f k = Int64.ofInt (F k)) → sumJ f n = Int64.ofInt (sumZ F n)
  | 0, _ => rfl
  | n + 1, h => by
    show sumJ f n + f n = Int64.ofInt (sumZ F n + F n)
    rw [sumJ_Z n (fun k hk => h k (by omega)), h n (by omega), Int64.ofInt_add]
theorem squares {z : sT} (hV : VS z) (t : Nat) : sumJ (fun k => (nI (sL z)).toInt64 * (kM z (t + k)).toInt64 * (kM z (t + k)).toInt64) (sL z) = sumJ (fun c => (hearF (sL z) (kM z) c t).toInt64 * (hearF (sL z) (kM z) c t).toInt64) (sL z) := by
  have hL := hV.L
  rw [sumJ_Z (F := fun k => (sL z : Int) * (kM z (t + k)).toInt * (kM z (t + k)).toInt) (sL z) (fun k _ => ?_), sumJ_Z (F := fun c => sumZ (fun k => (kM z (t + k)).toInt * chZ c k) (sL z) * sumZ (fun k => (kM z (t + k)).toInt * chZ c k) (sL z)) (sL z) (fun c _ => ?_)]
  · rw [squares_Z hV.Lm]
  · have e : (hearF (sL z) (kM z) c t).toInt = sumZ (fun k => (kM z (t + k)).toInt * chZ c k) (sL z) := by
      unfold hearF
      rw [sumI_Z (B := 171) (fun k _ => bd_mul1 (bd_kM hV _) (by omega) (chip_pm _ _)) (by omega)]
      refine sumZ_e _ (fun k _ => ?_)
      obtain ⟨h1, h2⟩ := bd_kM hV (t + k)
      have h3 := chZ_pm c k
      rw [q_mulI (by rw [chip_Z]; rcases h3 with h | h <;> rw [h] <;> omega) (by rw [chip_Z]; rcases h3 with h | h <;> rw [h] <;> omega), chip_Z]
    rw [Int64.ofInt_mul, ← e, Int64.ofInt_int32ToInt]
  · rw [Int64.ofInt_mul, Int64.ofInt_mul, Int64.ofInt_int32ToInt, ← nI_toInt (n := sL z) (by omega), Int64.ofInt_int32ToInt]
/-! likeness -/
theorem sumI_sh {f : Nat → Int32} : ∀ n, sumI (fun k => f (k + 1)) n + f 0 = sumI f n + f n
  | 0 => rfl
  | n + 1 => by
    have h := sumI_sh (f := f) n
    show sumI (fun k => f (k + 1)) n + f (n + 1) + f 0 = sumI f n + f n + f (n + 1)
    rw [← h]; grind
theorem sumI_ro {f : Nat → Int32} {L : Nat} : ∀ s, sumI (fun k => f ((k + s) % L)) L = sumI f L
  | 0 => sumI_eq L (fun k hk => by show f ((k + 0) % L) = f k; rw [Nat.add_zero, Nat.mod_eq_of_lt hk])
  | s + 1 => by
    have h := sumI_sh (f := fun k => f ((k + s) % L)) L
    have e : sumI (fun k => f ((k + (s + 1)) % L)) L = sumI (fun k => f ((k + 1 + s) % L)) L := sumI_eq L (fun k _ => by show f ((k + (s + 1)) % L) = f ((k + 1 + s) % L); rw [show k + (s + 1) = k + 1 + s by omega])
    rw [e, ← sumI_ro (f := f) (L := L) s]
    have e2 : f ((L + s) % L) = f ((0 + s) % L) := by rw [Nat.add_mod_left, Nat.zero_add]
    have h : sumI (fun k => f ((k + 1 + s) % L)) L + f ((0 + s) % L) = sumI (fun k => f ((k + s) % L)) L + f ((L + s) % L) := h
    rw [e2] at h
    grind
theorem lik_sym {L a b s : Nat} (hs : s < L) : likF L a b s = likF L b a ((L - s) % L) := by
  unfold likF likS
  refine congrArg ab ?_
  rw [← sumI_ro (f := fun j => chip b j * chip a ((j + (L - s) % L) % L)) (L := L) s]
  refine sumI_eq L (fun k hk => ?_)
  show _ = chip b ((k + s) % L) * chip a (((k + s) % L + (L - s) % L) % L)
  rw [← Nat.add_mod, show k + s + (L - s) = k + L by omega, Nat.add_mod_right, Nat.mod_eq_of_lt hk, Int32.mul_comm]
theorem lik_0 : ∀ L ∈ [1, 2, 4, 8, 16], ∀ a, a < L → ∀ b, b < L → likF L a b 0 = if a = b then nI L else nI 0 := by decide +kernel
theorem lik_le {L a b s : Nat} (hL : L ≤ 16) : likF L a b s ≤ nI L := by
  refine bd_ab ?_ (by omega)
  have h := bd_sum (f := fun k => chip a k * chip b ((k + s) % L)) (n := L) (B := 1) (fun k _ => bd_mul1 (by rcases chip_pm a k with h | h <;> rw [h] <;> exact ⟨by decide, by decide⟩) (by decide) (chip_pm _ _)) (by omega)
  rw [Nat.mul_one] at h
  exact h
theorem sh_le {L a b s : Nat} : ∀ {n : Nat}, s ≤ n → likF L a b s ≤ likF L a b (shB L a b n)
  | 0, h => by
    obtain rfl : s = 0 := by omega
    exact Int32.le_refl _
  | n + 1, h => by
    by_cases c : likF L a b (shB L a b n) < likF L a b (n + 1)
    · rw [shB_t c]
      by_cases e : s = n + 1
      · rw [e]; exact Int32.le_refl _
      · exact Int32.le_trans (sh_le (by omega)) (Int32.le_of_lt c)
    · rw [shB_f c]
      by_cases e : s = n + 1
      · rw [e]; exact Int32.not_lt.mp c
      · exact sh_le (by omega)
theorem sh_in {L a b : Nat} : ∀ n, shB L a b n ≤ n
  | 0 => Nat.le_refl _
  | n + 1 => by
    have := sh_in (L := L) (a := a) (b := b) n
    rw [shB]; split <;> omega
