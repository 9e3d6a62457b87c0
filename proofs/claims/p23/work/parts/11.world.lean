/-! ===== the state of the document, and the cells of the class that hold it ===== -/
/-- codes' length, number of hills, of each hill: code, strength, delay, number of words, words; storms -/
abbrev sT : Type := Nat × Nat × (Nat → Nat) × (Nat → Nat) × (Nat → Nat) × (Nat → Nat) × (Nat → Nat → Int32) × (Nat → Int32)
abbrev sL (z : sT) : Nat := z.1
abbrev sn (z : sT) : Nat := z.2.1
abbrev scd (z : sT) : Nat → Nat := z.2.2.1
abbrev ssr (z : sT) : Nat → Nat := z.2.2.2.1
abbrev sdl (z : sT) : Nat → Nat := z.2.2.2.2.1
abbrev ssd (z : sT) : Nat → Nat := z.2.2.2.2.2.1
abbrev swd (z : sT) : Nat → Nat → Int32 := z.2.2.2.2.2.2.1
abbrev sst (z : sT) : Nat → Int32 := z.2.2.2.2.2.2.2
/-- the numbers stay in their bounds -/
def VS (z : sT) : Prop := (∃ k, k ≤ 4 ∧ sL z = 2 ^ k) ∧ sn z ≤ 8 ∧ (∀ j, j < sn z → scd z j < sL z ∧ (1 ≤ ssr z j ∧ ssr z j ≤ 9) ∧ sdl z j < sL z ∧ ssd z j ≤ 12 ∧ ∀ w, w < ssd z j → swd z j w = 1 ∨ swd z j w = -1) ∧ ∀ q, q < 20 → -99 ≤ (sst z q).toInt ∧ (sst z q).toInt ≤ 99
theorem VS.L {z : sT} (h : VS z) : 0 < sL z ∧ sL z ≤ 16 := by
  obtain ⟨⟨k, hk, e⟩, -⟩ := h
  rw [e]
  have : k = 0 ∨ k = 1 ∨ k = 2 ∨ k = 3 ∨ k = 4 := by omega
  rcases this with rfl | rfl | rfl | rfl | rfl <;> decide
theorem VS.n {z : sT} (h : VS z) : sn z ≤ 8 := h.2.1
theorem VS.h {z : sT} (h : VS z) {j : Nat} (hj : j < sn z) : scd z j < 16 ∧ ssr z j ≤ 9 ∧ sdl z j < 16 ∧ ssd z j ≤ 12 := by
  have hL := h.L.2
  obtain ⟨h1, h2, h3, h4, -⟩ := h.2.2.1 j hj
  exact ⟨by omega, h2.2, by omega, h4⟩
theorem VS.hL {z : sT} (h : VS z) {j : Nat} (hj : j < sn z) : scd z j < sL z ∧ sdl z j < sL z := ⟨(h.2.2.1 j hj).1, (h.2.2.1 j hj).2.2.1⟩
/-- ArrayList's row -/
def rowF (ad : Nat → Nat) (n : Nat) : Nat → Option Nat := fun i => if i < n then some (ad (2 * i + 7)) else none
def hcell (g : gT) (ad : Nat → Nat) (z : sT) (j : Nat) : Nat × va_E :=
  if j = 0 then (ad 6, .inl (gO g, 10, .inr (.inr (.inr (.inr (rowF ad (sn z)))))))
  else if j % 2 = 1 then (ad (j + 6), .inr (2, [.int (nI (scd z (j / 2))), .int (nI (ssr z (j / 2))), .int (nI (sdl z (j / 2))), .int (nI (ssd z (j / 2))), .ref (ad (j + 7))]))
  else (ad (j + 6), .inl (gI g, 12, .inl (swd z (j / 2 - 1))))
def wT (g : gT) (ad : Nat → Nat) (z : sT) (M : Nat) : va_W := (List.range M).map (hcell g ad z)
/-- the class's cells: itself, its codes, its sky, storms, signals, its list; behind them the list's row, and of each hill itself and its words -/
abbrev wC (g : gT) (ad : Nat → Nat) (mc : Int32) (M : Nat) (sig : Nat → Int32) (z : sT) : va_W :=
  (ad 0, .inr (4, [.ref (ad 1), .ref (ad 2), .ref (ad 5)])) :: (ad 1, .inr (1, [.int (nI (sL z))])) :: (ad 2, .inr (3, [.ref (ad 3), .ref (ad 4), .ref (ad 1)])) :: (ad 3, .inl (gI g, 20, .inl (sst z))) :: (ad 4, .inl (gI g, 207, .inl sig)) :: (ad 5, .inr (0, [.int mc, .ref (if M = 0 then gE g else ad 6), .int (nI (sn z))])) :: wT g ad z M
abbrev wM (M n : Nat) : Prop := M = 2 * n + 1 ∨ (M = 0 ∧ n = 0)
theorem wT_get {g : gT} {ad : Nat → Nat} {z : sT} {M j : Nat} (h : j < M) : (wT g ad z M)[j]? = some (hcell g ad z j) := by
  rw [wT, List.getElem?_map, List.getElem?_range h]; rfl
theorem hcell_h {g : gT} {ad : Nat → Nat} {z : sT} (k : Nat) : hcell g ad z (2 * k + 1) = (ad (2 * k + 7), .inr (2, [.int (nI (scd z k)), .int (nI (ssr z k)), .int (nI (sdl z k)), .int (nI (ssd z k)), .ref (ad (2 * k + 8))])) := by
  unfold hcell
  rw [if_neg (by omega), if_pos (by omega), show (2 * k + 1) / 2 = k by omega]
theorem hcell_w {g : gT} {ad : Nat → Nat} {z : sT} (k : Nat) : hcell g ad z (2 * k + 2) = (ad (2 * k + 8), .inl (gI g, 12, .inl (swd z k))) := by
  unfold hcell
  rw [if_neg (by omega), if_neg (by omega), show (2 * k + 2) / 2 - 1 = k by omega]
theorem wC_h {g : gT} {ad : Nat → Nat} {mc : Int32} {M : Nat} {sig : Nat → Int32} {z : sT} {k : Nat} (hM : wM M (sn z)) (hk : k < sn z) : (wC g ad mc M sig z)[2 * k + 7]? = some (ad (2 * k + 7), .inr (2, [.int (nI (scd z k)), .int (nI (ssr z k)), .int (nI (sdl z k)), .int (nI (ssd z k)), .ref (ad (2 * k + 8))])) := by
  show (wT g ad z M)[2 * k + 1]? = _
  rw [wT_get (by omega), hcell_h]
theorem wC_w {g : gT} {ad : Nat → Nat} {mc : Int32} {M : Nat} {sig : Nat → Int32} {z : sT} {k : Nat} (hM : wM M (sn z)) (hk : k < sn z) : (wC g ad mc M sig z)[2 * k + 8]? = some (ad (2 * k + 8), .inl (gI g, 12, .inl (swd z k))) := by
  show (wT g ad z M)[2 * k + 2]? = _
  rw [wT_get (by omega), hcell_w]
theorem wC_e {g : gT} {ad : Nat → Nat} {mc : Int32} {M : Nat} {sig : Nat → Int32} {z : sT} (hM : 0 < M) : (wC g ad mc M sig z)[6]? = some (ad 6, .inl (gO g, 10, .inr (.inr (.inr (.inr (rowF ad (sn z))))))) := by
  show (wT g ad z M)[0]? = _
  rw [wT_get hM]; rfl
theorem rowF_lt {ad : Nat → Nat} {n i : Nat} (h : i < n) : rowF ad n i = some (ad (2 * i + 7)) := by simp [rowF, h]
/-! sums over the hills -/
def allW (z : sT) (K : Nat → Int32) (n : Nat) : Nat := sumN (fun h => wrF (sL z) K (scd z h) (sdl z h) (swd z h) (ssd z h)) n
def endA (z : sT) : Nat → Nat
  | 0 => 0
  | n + 1 => max (endA z n) (endF (sL z) (ssd z n) (sdl z n))
def takB (z : sT) (c : Nat) : Nat → Bool
  | 0 => false
  | n + 1 => takB z c n || (scd z n == c)
theorem endF_le {z : sT} (hV : VS z) {k : Nat} (hk : k < sn z) : endF (sL z) (ssd z k) (sdl z k) ≤ 207 := by
  have h1 := hV.h hk
  have h2 := hV.hL hk
  have h3 := hV.L
  have h4 := mul16 (a := ssd z k) h3.2
  unfold endF; split <;> omega
theorem endA_le {z : sT} (hV : VS z) : ∀ {n : Nat}, n ≤ sn z → endA z n ≤ 207
  | 0, _ => by simp [endA]
  | n + 1, h => by
    have h1 := endA_le hV (n := n) (by omega)
    have h2 := endF_le hV (k := n) (by omega)
    rw [endA]; omega
theorem takB_t {z : sT} {c : Nat} : ∀ {n k : Nat}, k < n → scd z k = c → takB z c n = true
  | n + 1, k, h, e => by
    rw [takB, Bool.or_eq_true]
    by_cases hk : k < n
    · exact Or.inl (takB_t hk e)
    · have : k = n := by omega
      subst this
      exact Or.inr (beq_iff_eq.mpr e)
theorem q_maxN {a b : Nat} (ha : a < 2147483648) (hb : b < 2147483648) : (if nI a < nI b then nI b else nI a) = nI (max a b) := by
  by_cases h : a < b
  · rw [if_pos ((nI_ltI ha hb).mpr h), Nat.max_eq_right (by omega)]
  · rw [if_neg (fun z => h ((nI_ltI ha hb).mp z)), Nat.max_eq_left (by omega)]
theorem by_ge {b d L : Nat} (hb : b < L) (hd : d < L) (hL : L ≤ 16) (c : (0 : Int32) ≤ nI b - nI d) : nI b - nI d = nI ((b + L - d) % L) := by
  have h := Int32.le_iff_toInt_le.mp c
  rw [pk_sub_toInt (by omega) (by omega)] at h
  have z0 : (0 : Int32).toInt = 0 := rfl
  rw [pk_sub (by omega), show b + L - d = (b - d) + L by omega, Nat.add_mod_right, Nat.mod_eq_of_lt (by omega)]
theorem by_lt {b d L : Nat} (hb : b < L) (hd : d < L) (hL : L ≤ 16) (c : ¬ (0 : Int32) ≤ nI b - nI d) : nI b - nI d + nI L = nI ((b + L - d) % L) := by
  have h := Int32.lt_iff_toInt_lt.mp (Int32.not_le.mp c)
  rw [pk_sub_toInt (by omega) (by omega)] at h
  have z0 : (0 : Int32).toInt = 0 := rfl
  rw [Nat.mod_eq_of_lt (by omega), ← pk_sub (by omega), ← nI_add]
  grind
section QF
variable {p : Program} {l : Launch} {e : Env} {R : Room} {s : State} {m : MethodId} {args : Array Value} {below : List Frame} {meth : Method} {c : Code} {H : Heap} {locs : List Loc} {cells slots : Nat} {Q : State → Prop}
variable {cc : ByteArray} {pc : Nat} {ls : Array Slot} {rest : List Value} {g : gT} {A : Nat → Prop}
theorem q_aald {a n j b : Nat} {f : Nat → Option Nat} (hx : p.tables.exec = Jvm.exec) (hb : c.code = cc) (hE : Ev g A s H) (hat : va_at g.1 vwCl (a, .inl (gO g, n, .inr (.inr (.inr (.inr f))))) H) (hj : j < n) (hn : n < 2147483648) (hf : f j = some b) (d : decode cc pc = .ok (.aaload, 1))
    (kk : W p l e R s m args below meth c H locs cells slots Q (F0 m (pc + 1) ls (.ref b :: rest))) : W p l e R s m args below meth c H locs cells slots Q (F0 m pc ls (.int (nI j) :: .ref a :: rest)) := by
  refine va_aldq hx hb hE.K (q_P1 hat) 0 1 rfl rfl (vp_in_nI hj hn) d ?_
  rw [nI_clamp (Nat.lt_trans hj hn), hf]
  exact kk
end QF
/-! what the public calls answer -/
def freeN (z : sT) : Nat := sumN (fun c => if takB z c (sn z) = true then 0 else 1) (sL z)
def cntV (z : sT) (K : Nat → Int32) (q : Nat) : Int32 := if q = 0 then nI (sL z) else if q = 1 then nI (sn z) else if q = 2 then nI (sumN (ssd z) (sn z)) else if q = 3 then nI (allW z K (sn z)) else if q = 4 then nI (endA z (sn z)) else if q = 5 then hiF K (endA z (sn z)) else nI (freeN z)
def abtV (z : sT) (K : Nat → Int32) (k q : Nat) : Int32 := if q = 0 then nI (scd z k) else if q = 1 then nI (ssr z k) else if q = 2 then nI (sdl z k) else if q = 3 then nI (ssd z k) else if q = 4 then nI (wrF (sL z) K (scd z k) (sdl z k) (swd z k) (ssd z k)) else if q = 5 then nI (endF (sL z) (ssd z k) (sdl z k)) else fnF (fun w => hearF (sL z) K (scd z k) (w * sL z + sdl z k)) (ssd z k)
def wrdV (z : sT) (K : Nat → Int32) (k w q : Nat) : Int32 := if q = 0 then swd z k w else if q = 1 then hearF (sL z) K (scd z k) (w * sL z + sdl z k) else nI (wrC (hearF (sL z) K (scd z k) (w * sL z + sdl z k)) (swd z k w))
theorem wrdV_2 {z : sT} {K : Nat → Int32} {k w : Nat} : wrdV z K k w 2 = nI (wrC (hearF (sL z) K (scd z k) (w * sL z + sdl z k)) (swd z k w)) := rfl
def shB (L a b : Nat) : Nat → Nat
  | 0 => 0
  | n + 1 => if likF L a b (shB L a b n) < likF L a b (n + 1) then n + 1 else shB L a b n
theorem shB_t {L a b n : Nat} (h : likF L a b (shB L a b n) < likF L a b (n + 1)) : shB L a b (n + 1) = n + 1 := by rw [shB, if_pos h]
theorem shB_f {L a b n : Nat} (h : ¬ likF L a b (shB L a b n) < likF L a b (n + 1)) : shB L a b (n + 1) = shB L a b n := by rw [shB, if_neg h]
def disF (z : sT) (a b : Nat) : Int32 := sumI (fun h => nI (ssr z h) * likF (sL z) a (scd z h) ((b + sL z - sdl z h) % sL z)) (sn z)
def advS (z : sT) (b : Nat) : Nat → Int32 × Int32
  | 0 => (-1, 0)
  | n + 1 => if takB z n (sn z) = true then advS z b n else if (advS z b n).1 < 0 ∨ disF z n b < (advS z b n).2 then (nI n, disF z n b) else advS z b n
theorem advS_k {z : sT} {b n : Nat} (h : takB z n (sn z) = true) : advS z b (n + 1) = advS z b n := by rw [advS, if_pos h]
theorem advS_t {z : sT} {b n : Nat} (h : ¬ takB z n (sn z) = true) (h2 : (advS z b n).1 < 0 ∨ disF z n b < (advS z b n).2) : advS z b (n + 1) = (nI n, disF z n b) := by rw [advS, if_neg h, if_pos h2]
theorem advS_f {z : sT} {b n : Nat} (h : ¬ takB z n (sn z) = true) (h2 : ¬ (advS z b n).1 < 0) (h3 : ¬ disF z n b < (advS z b n).2) : advS z b (n + 1) = advS z b n := by
  rw [advS, if_neg h, if_neg]
  rintro (q | q)
  · exact h2 q
  · exact h3 q
def digN (f : Nat → Int32) (d : Int64) : Nat → Int64
  | 0 => d
  | n + 1 => digN f d n * 31 + (f n).toInt64
def dgW (z : sT) (K : Nat → Int32) (k : Nat) (d : Int64) : Nat → Int64
  | 0 => d
  | n + 1 => digN (wrdV z K k n) (dgW z K k d n) 3
def dgH (z : sT) (K : Nat → Int32) (k : Nat) (d : Int64) : Int64 := dgW z K k (digN (abtV z K k) d 7) (ssd z k)
def dgS (z : sT) (K : Nat → Int32) (d : Int64) : Nat → Int64
  | 0 => d
  | n + 1 => dgH z K n (dgS z K d n)
def dgA (z : sT) (K : Nat → Int32) : Int64 := dgS z K (digN (sst z) (digN (cntV z K) 1621 7) 20) (sn z)
