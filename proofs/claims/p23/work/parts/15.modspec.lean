/-! ===== the reference: its cells, what it reckons, bounds ===== -/
abbrev wMo (g : gT) (am : Nat → Nat) (th : Int32) (sa : Nat → Int32) (z : sT) : va_W :=
  [(am 0, .inr (5, [.int th, .int (nI (sL z)), .int (nI (sn z)), .ref (am 1), .ref (am 2), .ref (am 3), .ref (am 4), .ref (am 5), .ref (am 6)])), (am 1, .inl (gI g, 8, .inl (fun j => nI (scd z j)))), (am 2, .inl (gI g, 8, .inl (fun j => nI (ssr z j)))), (am 3, .inl (gI g, 8, .inl (fun j => nI (sdl z j)))), (am 4, .inl (gI g, 8, .inl (fun j => nI (ssd z j)))), (am 5, .inl (gI g, 96, .inl sa)), (am 6, .inl (gI g, 20, .inl (sst z)))]
abbrev RS (z : sT) (sa : Nat → Int32) : Prop := ∀ j, j < sn z → ∀ w, w < ssd z j → sa (12 * j + w) = swd z j w
/-- what the hill h signals at the chip of time t -/
def sgl (z : sT) (h t : Nat) : Int32 := if sdl z h ≤ t ∧ t - sdl z h < sL z * ssd z h then nI (ssr z h) * swd z h ((t - sdl z h) / sL z) * chip (scd z h) ((t - sdl z h) % sL z) else nI 0
def skM (z : sT) (t : Nat) : Nat → Int32
  | 0 => sst z (t % 20)
  | n + 1 => skM z t n + sgl z n t
def kM (z : sT) : Nat → Int32 := fun t => skM z t (sn z)
def sgn (x : Int32) : Int32 := if 0 < x then nI 1 else if x < 0 then (-1 : Int32) else nI 0
theorem q_rng (x : Int32) : -2147483648 ≤ x.toInt ∧ x.toInt < 2147483648 := by
  have h1 := Int32.le_toInt x
  have h2 := Int32.toInt_lt x
  omega
theorem q_bmod {z : Int} (h1 : -2147483648 ≤ z) (h2 : z < 2147483648) : z.bmod (2 ^ 32) = z := by
  rw [Int.bmod_eq_of_le (by omega) (by omega)]
theorem q_addI {x y : Int32} (h1 : -2147483648 ≤ x.toInt + y.toInt) (h2 : x.toInt + y.toInt < 2147483648) : (x + y).toInt = x.toInt + y.toInt := by
  rw [Int32.toInt_add, q_bmod h1 h2]
theorem q_mulI {x y : Int32} (h1 : -2147483648 ≤ x.toInt * y.toInt) (h2 : x.toInt * y.toInt < 2147483648) : (x * y).toInt = x.toInt * y.toInt := by
  rw [Int32.toInt_mul, q_bmod h1 h2]
/-- x is between -B and B -/
def bd (x : Int32) (B : Int) : Prop := -B ≤ x.toInt ∧ x.toInt ≤ B
theorem bd.le {x : Int32} {A B : Int} (h : bd x A) (h2 : A ≤ B) : bd x B := ⟨by have := h.1; omega, by have := h.2; omega⟩
theorem bd_add {x y : Int32} {A B : Int} (hx : bd x A) (hy : bd y B) (h : A + B < 2147483648) : bd (x + y) (A + B) := by
  obtain ⟨h1, h2⟩ := hx
  obtain ⟨h3, h4⟩ := hy
  unfold bd
  rw [q_addI (by omega) (by omega)]
  omega
theorem pm_toInt {y : Int32} (hy : y = 1 ∨ y = -1) : y.toInt = 1 ∨ y.toInt = -1 := by
  rcases hy with rfl | rfl
  · exact Or.inl rfl
  · exact Or.inr rfl
theorem bd_mul1 {x y : Int32} {A : Int} (hx : bd x A) (hA : A < 2147483648) (hy : y = 1 ∨ y = -1) : bd (x * y) A := by
  obtain ⟨h1, h2⟩ := hx
  unfold bd
  rcases pm_toInt hy with e | e
  · rw [q_mulI (by rw [e]; omega) (by rw [e]; omega), e]; omega
  · rw [q_mulI (by rw [e]; omega) (by rw [e]; omega), e]; omega
theorem chip_pm (c p : Nat) : chip c p = 1 ∨ chip c p = -1 := by
  unfold chip; split
  · exact Or.inl rfl
  · exact Or.inr rfl
theorem bd_nI {k : Nat} {B : Int} (h : (k : Int) ≤ B) (hk : k < 2147483648) : bd (nI k) B := by
  unfold bd; rw [nI_toInt hk]; omega
theorem bd_sum {f : Nat → Int32} {B : Nat} : ∀ {n : Nat}, (∀ k, k < n → bd (f k) B) → n * B < 2147483648 → bd (sumI f n) ((n * B : Nat) : Int)
  | 0, _, _ => by simp [sumI, bd]
  | n + 1, h, hb => by
    have e : (n + 1) * B = n * B + B := Nat.succ_mul n B
    have h1 := bd_sum (n := n) (fun k hk => h k (by omega)) (by omega)
    have h2 := bd_add h1 (h n (by omega)) (by omega)
    rw [e]
    exact h2.le (by omega)
theorem sgl_in {z : sT} {h t : Nat} (c : sdl z h ≤ t) (c2 : t - sdl z h < sL z * ssd z h) : nI (ssr z h) * swd z h ((t - sdl z h) / sL z) * chip (scd z h) ((t - sdl z h) % sL z) = sgl z h t := by rw [sgl, if_pos ⟨c, c2⟩]
theorem sgl_lo {z : sT} {h t : Nat} (c : t < sdl z h) : nI 0 = sgl z h t := by rw [sgl, if_neg (by omega)]
theorem sgl_hi {z : sT} {h t : Nat} (c2 : sL z * ssd z h ≤ t - sdl z h) : nI 0 = sgl z h t := by rw [sgl, if_neg (by omega)]
theorem sgl_w {z : sT} {h t : Nat} (c2 : t - sdl z h < sL z * ssd z h) : (t - sdl z h) / sL z < ssd z h := Nat.div_lt_of_lt_mul c2
theorem bd_sgl {z : sT} (hV : VS z) {h t : Nat} (hh : h < sn z) : bd (sgl z h t) 9 := by
  have h1 := hV.h hh
  unfold sgl
  split
  · next c =>
    exact bd_mul1 (bd_mul1 (bd_nI (by omega) (by omega)) (by omega) ((hV.2.2.1 h hh).2.2.2.2 _ (sgl_w c.2))) (by omega) (chip_pm _ _)
  · exact bd_nI (by omega) (by omega)
theorem bd_skM {z : sT} (hV : VS z) {t : Nat} : ∀ {n : Nat}, n ≤ sn z → bd (skM z t n) (99 + 9 * (n : Int))
  | 0, _ => by
    have := hV.2.2.2 (t % 20) (by omega)
    exact ⟨by rw [skM]; omega, by rw [skM]; omega⟩
  | n + 1, h => by
    have hn := hV.n
    have h1 := bd_skM hV (t := t) (n := n) (by omega)
    have h2 := bd_add h1 (bd_sgl hV (t := t) (show n < sn z by omega)) (by omega)
    rw [skM]
    exact h2.le (by omega)
theorem bd_kM {z : sT} (hV : VS z) (t : Nat) : bd (kM z t) 171 := by
  have hn := hV.n
  exact (bd_skM hV (Nat.le_refl (sn z))).le (by omega)
theorem bd_hear {z : sT} (hV : VS z) (a t : Nat) : bd (hearF (sL z) (kM z) a t) 100000 := by
  have hL := hV.L
  have h1 := bd_sum (f := fun k => kM z (t + k) * chip a k) (B := 171) (n := sL z) (fun k _ => bd_mul1 (bd_kM hV _) (by omega) (chip_pm _ _)) (by omega)
  exact h1.le (by omega)
theorem wr_ne {x w : Int32} (hx : bd x 100000) (hw : w = 1 ∨ w = -1) (h : ¬ sgn x = w) : wrC x w = 1 := by
  obtain ⟨h1, h2⟩ := hx
  apply wrC_t
  rw [Int32.le_iff_toInt_le]
  have z0 : (0 : Int32).toInt = 0 := rfl
  rcases hw with rfl | rfl
  · rw [q_mulI (by rw [show (1 : Int32).toInt = 1 from rfl]; omega) (by rw [show (1 : Int32).toInt = 1 from rfl]; omega), show (1 : Int32).toInt = 1 from rfl, z0]
    have : ¬ 0 < x := fun q => h (by rw [sgn, if_pos q]; rfl)
    have := mt Int32.lt_iff_toInt_lt.mpr this
    omega
  · rw [q_mulI (by rw [show (-1 : Int32).toInt = -1 from rfl]; omega) (by rw [show (-1 : Int32).toInt = -1 from rfl]; omega), show (-1 : Int32).toInt = -1 from rfl, z0]
    by_cases q : 0 < x
    · have := Int32.lt_iff_toInt_lt.mp q
      omega
    · have : ¬ x < 0 := fun q2 => h (by rw [sgn, if_neg q, if_pos q2])
      have := mt Int32.lt_iff_toInt_lt.mpr this
      omega
theorem wr_eq {x w : Int32} (hx : bd x 100000) (hw : w = 1 ∨ w = -1) (h : sgn x = w) : wrC x w = 0 := by
  obtain ⟨h1, h2⟩ := hx
  apply wrC_f
  rw [Int32.le_iff_toInt_le]
  have z0 : (0 : Int32).toInt = 0 := rfl
  have e : 0 < x ∧ w = 1 ∨ x < 0 ∧ w = -1 := by
    unfold sgn at h
    by_cases q : 0 < x
    · rw [if_pos q] at h
      exact Or.inl ⟨q, h ▸ rfl⟩
    · rw [if_neg q] at h
      by_cases q2 : x < 0
      · rw [if_pos q2] at h
        exact Or.inr ⟨q2, h.symm⟩
      · rw [if_neg q2] at h
        rcases hw with rfl | rfl <;> exact absurd h (by decide)
  rcases e with ⟨q, rfl⟩ | ⟨q, rfl⟩
  · have := Int32.lt_iff_toInt_lt.mp q
    rw [q_mulI (by rw [show (1 : Int32).toInt = 1 from rfl]; omega) (by rw [show (1 : Int32).toInt = 1 from rfl]; omega), show (1 : Int32).toInt = 1 from rfl, z0]
    omega
  · have := Int32.lt_iff_toInt_lt.mp q
    rw [q_mulI (by rw [show (-1 : Int32).toInt = -1 from rfl]; omega) (by rw [show (-1 : Int32).toInt = -1 from rfl]; omega), show (-1 : Int32).toInt = -1 from rfl, z0]
    omega
theorem bI_iff {a b : Prop} [Decidable a] [Decidable b] (h : a ↔ b) : bI a = bI b := by
  unfold bI; simp only [h]
theorem bI_in {x : Int32} {n : Nat} (hn : n < 1073741824) : bI ((nI 0).toInt ≤ x.toInt ∧ x.toInt ≤ (nI n - nI 1).toInt) = bI (inR x n) := by
  apply bI_iff
  rw [pk_sub_toInt hn (by omega), nI_toInt (by omega)]
  show _ ↔ 0 ≤ x.toInt ∧ x.toInt < n
  omega
theorem bI_in2 {x : Int32} {a b : Nat} (ha : a < 2147483648) (hb : b < 2147483648) : bI ((nI a).toInt ≤ x.toInt ∧ x.toInt ≤ (nI b).toInt) = bI (inB x a b) := by
  apply bI_iff
  rw [nI_toInt ha, nI_toInt hb]
theorem bI_in3 {x : Int32} {b n : Nat} (hb : b + 1 = n) (hn : n < 2147483648) : bI ((nI 0).toInt ≤ x.toInt ∧ x.toInt ≤ (nI b).toInt) = bI (inR x n) := by
  apply bI_iff
  rw [nI_toInt (by omega), nI_toInt (by omega)]
  show _ ↔ 0 ≤ x.toInt ∧ x.toInt < n
  omega
theorem sub_lt0 {a b : Nat} (ha : a < 1073741824) (hb : b < 1073741824) : nI a - nI b < 0 ↔ a < b := by
  rw [Int32.lt_iff_toInt_lt, pk_sub_toInt ha hb, show (0 : Int32).toInt = 0 from rfl]; omega
theorem by_add {b d L : Nat} (h : d ≤ b + L) : nI b - nI d + nI L = nI (b + L - d) := by
  rw [← pk_sub h, ← nI_add]; grind
theorem beg_eq {d L w : Nat} : nI (d + L * w) = nI (w * L + d) := by rw [Nat.mul_comm, Nat.add_comm]
theorem fnF_m {x : Nat → Int32} {i : Nat} (h : 0 < i) : (if ab (x i) < fnF x i then ab (x i) else fnF x i) = fnF x (i + 1) := by
  rw [fnF]
  by_cases q : ab (x i) < fnF x i
  · rw [if_pos q, if_pos (Or.inr q)]
  · rw [if_neg q, if_neg]
    rintro (z | z)
    · omega
    · exact q z
