/-! ===== what the document reckons, in 32 bits ===== -/
def sumI (f : Nat → Int32) : Nat → Int32
  | 0 => 0
  | n + 1 => sumI f n + f n
def sumN (f : Nat → Nat) : Nat → Nat
  | 0 => 0
  | n + 1 => sumN f n + f n
def bI (c : Prop) [Decidable c] : Int32 := if c then nI 1 else nI 0
theorem bI_t {c : Prop} [Decidable c] (h : c) : nI 1 = bI c := by simp [bI, h]
theorem bI_f {c : Prop} [Decidable c] (h : ¬ c) : nI 0 = bI c := by simp [bI, h]
theorem bI_nar {c : Prop} [Decidable c] : narrow .boolean (.int (bI c)) = .int (bI c) := by
  unfold bI; split <;> rfl
theorem bI_0 {c : Prop} [Decidable c] : bI c = 0 ↔ ¬ c := by
  unfold bI; split
  · next h => exact ⟨fun z => absurd z (by decide), fun z => absurd h z⟩
  · next h => exact ⟨fun _ => h, fun _ => rfl⟩
theorem q_and (a b : Nat) : nI a &&& nI b = nI (a &&& b) := by
  apply Int32.toBitVec_inj.1
  show BitVec.ofNat 32 a &&& BitVec.ofNat 32 b = BitVec.ofNat 32 (a &&& b)
  apply BitVec.eq_of_getLsbD_eq
  intro i hi
  simp [hi]
/-- x is one of 0 .. L - 1 -/
abbrev inR (x : Int32) (L : Nat) : Prop := 0 ≤ x.toInt ∧ x.toInt < L

/-- x is one of a .. b -/
abbrev inB (x : Int32) (a b : Int) : Prop := a ≤ x.toInt ∧ x.toInt ≤ b
theorem inR_nI {k L : Nat} (h : k < L) (hL : L < 2147483648) : inR (nI k) L := by
  show 0 ≤ (nI k).toInt ∧ (nI k).toInt < L; rw [nI_toInt (by omega)]; omega
theorem inR_of {x : Int32} {L : Nat} (h : inR x L) (hL : L < 2147483648) : ∃ k : Nat, k < L ∧ x = nI k := by
  obtain ⟨h1, h2⟩ := h
  refine ⟨x.toInt.toNat, by omega, ?_⟩
  apply Int32.toInt_inj.mp
  rw [nI_toInt (by omega)]; omega
theorem inB_of {x : Int32} {a b : Nat} (h : inB x a b) (hb : b < 2147483648) : ∃ k : Nat, a ≤ k ∧ k ≤ b ∧ x = nI k := by
  obtain ⟨h1, h2⟩ := h
  refine ⟨x.toInt.toNat, by omega, by omega, ?_⟩
  apply Int32.toInt_inj.mp
  rw [nI_toInt (by omega)]; omega
theorem rlt_nI {x : Int32} {k : Nat} (hk : k < 2147483648) : x < nI k ↔ x.toInt < k := by rw [Int32.lt_iff_toInt_lt, nI_toInt hk]
theorem rle_nI {x : Int32} {k : Nat} (hk : k < 2147483648) : x ≤ nI k ↔ x.toInt ≤ k := by rw [Int32.le_iff_toInt_le, nI_toInt hk]
theorem nI_rlt {x : Int32} {k : Nat} (hk : k < 2147483648) : nI k < x ↔ (k : Int) < x.toInt := by rw [Int32.lt_iff_toInt_lt, nI_toInt hk]
theorem nI_rle {x : Int32} {k : Nat} (hk : k < 2147483648) : nI k ≤ x ↔ (k : Int) ≤ x.toInt := by rw [Int32.le_iff_toInt_le, nI_toInt hk]
theorem rlt_0 {x : Int32} : x < 0 ↔ x.toInt < 0 := Int32.lt_iff_toInt_lt
theorem rle_0 {x : Int32} : x ≤ 0 ↔ x.toInt ≤ 0 := Int32.le_iff_toInt_le
theorem r0_lt {x : Int32} : 0 < x ↔ 0 < x.toInt := Int32.lt_iff_toInt_lt
theorem r0_le {x : Int32} : 0 ≤ x ↔ 0 ≤ x.toInt := Int32.le_iff_toInt_le
theorem inB_nI {k : Nat} {a b : Int} (h1 : a ≤ k) (h2 : (k : Int) ≤ b) (hk : k < 2147483648) : inB (nI k) a b := by
  show a ≤ (nI k).toInt ∧ (nI k).toInt ≤ b; rw [nI_toInt hk]; omega
/-! the ones of a number, as Integer.bitCount reckons them -/
def bcA (x : Int32) : Int32 := x - ((x.toUInt32 >>> ((nI 1).toUInt32 &&& Int32.toUInt32 31)).toInt32 &&& 1431655765)
def bcB (x : Int32) : Int32 := (x &&& 858993459) + ((x.toUInt32 >>> ((nI 2).toUInt32 &&& Int32.toUInt32 31)).toInt32 &&& 858993459)
def bcC (x : Int32) : Int32 := (x + (x.toUInt32 >>> ((nI 4).toUInt32 &&& Int32.toUInt32 31)).toInt32) &&& 252645135
def bcD (x : Int32) : Int32 := x + (x.toUInt32 >>> ((nI 8).toUInt32 &&& Int32.toUInt32 31)).toInt32
def bcE (x : Int32) : Int32 := x + (x.toUInt32 >>> ((nI 16).toUInt32 &&& Int32.toUInt32 31)).toInt32
def bcI (x : Int32) : Int32 := bcE (bcD (bcC (bcB (bcA x)))) &&& nI 63
def pcN (k : Nat) : Nat := k % 2 + k / 2 % 2 + k / 4 % 2 + k / 8 % 2
theorem bcI_ok : ∀ k, k < 16 → bcI (nI k) = nI (pcN k) := by decide +kernel
theorem pcN_le (k : Nat) : pcN k ≤ 4 := by unfold pcN; omega
theorem and16 {a b : Nat} (h : a < 16) : a &&& b < 16 := Nat.lt_of_le_of_lt Nat.and_le_left h
def chip (c p : Nat) : Int32 := if pcN (c &&& p) % 2 = 0 then nI 1 else (-1 : Int32)
theorem chip_0 {c p : Nat} (h : pcN (c &&& p) % 2 = 0) : nI 1 = chip c p := by simp [chip, h]
theorem chip_1 {c p : Nat} (h : 0 < pcN (c &&& p) % 2) : (-1 : Int32) = chip c p := by
  have : ¬ pcN (c &&& p) % 2 = 0 := by omega
  simp [chip, this]
theorem q_and1 (n : Nat) : nI n &&& nI 1 = nI (n % 2) := by rw [q_and, Nat.and_one_is_mod]
theorem q_rem {a d : Nat} (ha : a < 2147483648) (h0 : 0 < d) (hd : d < 2147483648) : nI a - nI a / nI d * nI d = nI (a % d) := pk_rem ha h0 hd
theorem q_ne0 {n : Nat} (h0 : 0 < n) (h : n < 2147483648) : ¬ nI n = 0 := nI_ne0 h0 h
/-! the sky, and what is heard -/
def atF (sto sig : Nat → Int32) (t : Nat) : Int32 := if t < 207 then sig t + sto (t % 20) else sto (t % 20)
theorem atF_lo {sto sig : Nat → Int32} {t : Nat} (h : t < 207) : sig t + sto (t % 20) = atF sto sig t := by simp [atF, h]
theorem atF_hi {sto sig : Nat → Int32} {t : Nat} (h : 207 ≤ t) : sto (t % 20) = atF sto sig t := by
  have : ¬ t < 207 := by omega
  simp [atF, this]
def hearF (L : Nat) (K : Nat → Int32) (c t : Nat) : Int32 := sumI (fun k => K (t + k) * chip c k) L
def mx (a b : Int32) : Int32 := if a < b then b else a
def mn (a b : Int32) : Int32 := if b < a then b else a
def ab (x : Int32) : Int32 := if 0 ≤ x then x else 0 - x
def likS (L a b s : Nat) (n : Nat) : Int32 := sumI (fun k => chip a k * chip b ((k + s) % L)) n
def likF (L a b s : Nat) : Int32 := ab (likS L a b s L)
def endF (L sd dl : Nat) : Nat := if sd = 0 then 0 else sd * L + dl
def wrC (x w : Int32) : Nat := if x * w ≤ 0 then 1 else 0
theorem wrC_t {x w : Int32} (h : x * w ≤ 0) : wrC x w = 1 := by simp [wrC, h]
theorem wrC_f {x w : Int32} (h : ¬ x * w ≤ 0) : wrC x w = 0 := by simp [wrC, h]
def wrF (L : Nat) (K : Nat → Int32) (c dl : Nat) (f : Nat → Int32) (n : Nat) : Nat := sumN (fun w => wrC (hearF L K c (w * L + dl)) (f w)) n
def fnF (x : Nat → Int32) : Nat → Int32
  | 0 => 0
  | n + 1 => if n = 0 ∨ ab (x n) < fnF x n then ab (x n) else fnF x n
def hiF (K : Nat → Int32) : Nat → Int32
  | 0 => 0
  | t + 1 => mx (hiF K t) (ab (K t))
theorem wrF_t {L c dl i : Nat} {K f : Nat → Int32} (h : hearF L K c (i * L + dl) * f i ≤ 0) : wrF L K c dl f (i + 1) = wrF L K c dl f i + 1 := by
  show sumN _ i + wrC _ _ = _
  rw [wrC_t h]; rfl
theorem wrF_f {L c dl i : Nat} {K f : Nat → Int32} (h : ¬ hearF L K c (i * L + dl) * f i ≤ 0) : wrF L K c dl f (i + 1) = wrF L K c dl f i := by
  show sumN _ i + wrC _ _ = _
  rw [wrC_f h]; rfl
theorem fnF_a {x : Nat → Int32} {i : Nat} (h : i = 0 ∨ ab (x i) < fnF x i) : fnF x (i + 1) = ab (x i) := by rw [fnF, if_pos h]
theorem fnF_b {x : Nat → Int32} {i : Nat} (h : 0 < i) (h2 : fnF x i ≤ ab (x i)) : fnF x (i + 1) = fnF x i := by
  rw [fnF, if_neg]
  rintro (z | z)
  · omega
  · exact absurd z (Int32.not_lt.mpr h2)
theorem sumN_le {f : Nat → Nat} {c : Nat} (h : ∀ k, f k ≤ c) : ∀ n, sumN f n ≤ n * c
  | 0 => by simp [sumN]
  | n + 1 => by
    have h1 := sumN_le h n
    have h2 := h n
    rw [sumN, Nat.succ_mul]; omega
theorem wrC_le (x w : Int32) : wrC x w ≤ 1 := by unfold wrC; split <;> omega
theorem wrF_le (L : Nat) (K : Nat → Int32) (c dl : Nat) (f : Nat → Int32) (n : Nat) : wrF L K c dl f n ≤ n := by
  have := sumN_le (f := fun w => wrC (hearF L K c (w * L + dl)) (f w)) (c := 1) (fun k => wrC_le _ _) n
  rw [Nat.mul_one] at this; exact this
theorem mulL {a b n L : Nat} (h : a < n) (hL : L ≤ 16) (hb : b < L) : a * L + b < n * 16 := by
  have h1 : a * L ≤ a * 16 := Nat.mul_le_mul_left a hL
  omega
theorem mul16 {a L : Nat} (hL : L ≤ 16) : a * L ≤ a * 16 := Nat.mul_le_mul_left a hL
section QE
variable {p : Program} {l : Launch} {e : Env} {R : Room} {s : State} {m : MethodId} {args : Array Value} {below : List Frame} {meth : Method} {c : Code} {H : Heap} {locs : List Loc} {cells slots : Nat} {Q : State → Prop}
variable {cc : ByteArray} {pc : Nat} {ls : Array Slot} {rest : List Value}
theorem q_ifb_eq (hx : p.tables.exec = Jvm.exec) (hb : c.code = cc) {z : Prop} [Decidable z] {off : Int} {tgt : Nat} (d : decode cc pc = .ok (.ifCond .eq off, 3)) (ht : (pc : Int) + off = (tgt : Int)) (kt : ¬ z → W p l e R s m args below meth c H locs cells slots Q (F0 m tgt ls rest)) (kf : z → W p l e R s m args below meth c H locs cells slots Q (F0 m (pc + 3) ls rest)) : W p l e R s m args below meth c H locs cells slots Q (F0 m pc ls (.int (bI z) :: rest)) :=
  lv_if_eq hx hb d ht (fun h => kt (bI_0.mp h)) (fun h => kf (Classical.byContradiction (fun q => h (bI_0.mpr q))))
theorem q_ifb_ne (hx : p.tables.exec = Jvm.exec) (hb : c.code = cc) {z : Prop} [Decidable z] {off : Int} {tgt : Nat} (d : decode cc pc = .ok (.ifCond .ne off, 3)) (ht : (pc : Int) + off = (tgt : Int)) (kt : z → W p l e R s m args below meth c H locs cells slots Q (F0 m tgt ls rest)) (kf : ¬ z → W p l e R s m args below meth c H locs cells slots Q (F0 m (pc + 3) ls rest)) : W p l e R s m args below meth c H locs cells slots Q (F0 m pc ls (.int (bI z) :: rest)) :=
  lv_if_ne hx hb d ht (fun h => kt (Classical.byContradiction (fun q => h (bI_0.mpr q)))) (fun h => kf (bI_0.mp h))
end QE
