/-! ===== the quotient of two whole numbers is a number ===== -/
def fpG (B : Int) : FP.Core.Datum → Prop
  | .nan => False
  | .inf _ => True
  | .fin _ c q => c < 9007199254740992 ∧ q ≤ B
theorem fp_settle (s : Bool) (c : Nat) (q : Int) : fpG 971 (FP.Core.settle FP.Core.b64 s c q) := by
  have hb : ∀ c : Nat, ∀ q : Int, c < 9007199254740992 → fpG 971 (FP.Core.bound FP.Core.b64 s c q) := by
    intro c q hc
    unfold FP.Core.bound
    split
    · next h => exact ⟨hc, h⟩
    · trivial
  unfold FP.Core.settle
  split
  · next h => exact hb c q h
  · exact hb _ _ (by decide)
theorem fp_rr (s : Bool) (c d : Nat) (e : Int) : fpG 971 (FP.Core.roundRatio FP.Core.b64 s c d e) := by
  unfold FP.Core.roundRatio
  split
  · exact ⟨by decide, by decide⟩
  · exact fp_settle _ _ _
theorem fp_enc {d : FP.Core.Datum} (h : fpG 971 d) : FP.Core.encode FP.Core.b64 d % 9223372036854775808 ≤ 9218868437227405312 ∧ FP.Core.encode FP.Core.b64 d < 18446744073709551616 := by
  cases d with
  | nan => exact h.elim
  | inf s => cases s <;> decide
  | fin s c q =>
    obtain ⟨h1, h2⟩ := h
    have ht : FP.Core.b64.tails = 4503599627370496 := rfl
    have he : FP.Core.b64.exps = 2048 := rfl
    have hq : FP.Core.b64.qmin = -1074 := rfl
    have hs : s.toNat ≤ 1 := Bool.toNat_le s
    unfold FP.Core.encode FP.Core.assemble
    simp only [ht, he, hq]
    split <;> omega
theorem fp_n64 {d : FP.Core.Datum} (h : fpG 971 d) : vf_n64 (UInt64.ofNat (FP.Core.encode FP.Core.b64 d)) := by
  have h1 := (fp_enc h).1
  unfold vf_n64
  rw [UInt64.le_iff_toNat_le, UInt64.toNat_and]
  show _ &&& (2 ^ 63 - 1) ≤ 9218868437227405312
  rw [Nat.and_two_pow_sub_one_eq_mod, UInt64.toNat_ofNat']
  omega
/-- a number that is written and read again stays one -/
theorem fp_back {s : Bool} {c : Nat} {q : Int} (hc : c < 9007199254740992) (hq : q ≤ 970) : ∃ t d r, FP.Core.decode FP.Core.b64 (UInt64.ofNat (FP.Core.encode FP.Core.b64 (.fin s c q))).toNat = .fin t d r := by
  have h1 := (fp_enc (d := .fin s c q) ⟨hc, by omega⟩).2
  rw [UInt64.toNat_ofNat', Nat.mod_eq_of_lt h1]
  have hE : FP.Core.fieldE FP.Core.b64 (FP.Core.encode FP.Core.b64 (.fin s c q)) ≠ 2047 := by
    have ht : FP.Core.b64.tails = 4503599627370496 := rfl
    have he : FP.Core.b64.exps = 2048 := rfl
    have hqm : FP.Core.b64.qmin = -1074 := rfl
    have hs : s.toNat ≤ 1 := Bool.toNat_le s
    unfold FP.Core.fieldE FP.Core.encode FP.Core.assemble
    simp only [ht, he, hqm]
    split <;> omega
  have hE : ¬ FP.Core.fieldE FP.Core.b64 (FP.Core.encode FP.Core.b64 (.fin s c q)) = FP.Core.b64.exps - 1 := hE
  unfold FP.Core.decode
  rw [if_neg hE]
  split
  · exact ⟨_, _, _, rfl⟩
  · exact ⟨_, _, _, rfl⟩
theorem fp_i2d (x : Int32) (hx : x.toInt.natAbs < 1048576) : ∃ t d r, FP.Core.decode FP.Core.b64 (FP.i2d x).toNat = .fin t d r := by
  show ∃ t d r, FP.Core.decode FP.Core.b64 (UInt64.ofNat (FP.Core.encode FP.Core.b64 (FP.Core.roundRatio FP.Core.b64 (decide (x.toInt < 0)) x.toInt.natAbs 1 0))).toNat = _
  generalize decide (x.toInt < 0) = s
  unfold FP.Core.roundRatio
  split
  · exact fp_back (by decide) (by decide)
  · next h0 =>
    have hq : FP.Core.quantum FP.Core.b64 x.toInt.natAbs 1 0 ≤ 0 := by
      have h2 : x.toInt.natAbs.log2 < 20 := (Nat.log2_lt h0).mpr (by omega)
      have h3 : (1 : Nat).log2 = 0 := by decide
      have hqm : FP.Core.b64.qmin = -1074 := rfl
      have hp : FP.Core.b64.p = 53 := rfl
      have h4 : FP.Core.leading x.toInt.natAbs 1 ≤ 20 := by
        unfold FP.Core.leading
        rw [h3]
        dsimp only
        split <;> omega
      unfold FP.Core.quantum
      rw [hqm, hp]
      omega
    unfold FP.Core.roundAt
    generalize FP.Core.quantum FP.Core.b64 x.toInt.natAbs 1 0 = q at hq
    generalize FP.Core.nearest _ _ = c
    have hqm : FP.Core.b64.qmax = 971 := rfl
    have ht : FP.Core.b64.tails = 4503599627370496 := rfl
    unfold FP.Core.settle FP.Core.bound
    rw [hqm]
    split
    · next h => rw [if_pos (by omega)]; exact fp_back h (by omega)
    · rw [if_pos (by omega), ht]; exact fp_back (by decide) (by omega)
def fpO (x : UInt64) : Bool := match FP.Core.decode FP.Core.b64 x.toNat with | .fin _ c _ => decide (c ≠ 0) | _ => false
theorem fp_i2e : ∀ e, e < 208 → 0 < e → fpO (FP.i2d (Int32.ofNat e)) = true := by decide +kernel
theorem fp_div {x : Int32} {e : Nat} (hx : x.toInt.natAbs < 1048576) (h0 : 0 < e) (he : e < 208) : vf_n64 (FP.ddiv (FP.i2d x) (FP.i2d (Int32.ofNat e))) := by
  obtain ⟨s, c, q, h1⟩ := fp_i2d x hx
  have h2 := fp_i2e e he h0
  unfold fpO at h2
  show vf_n64 (UInt64.ofNat (FP.Core.encode FP.Core.b64 (FP.Core.quotient FP.Core.b64 (FP.Core.decode FP.Core.b64 (FP.i2d x).toNat) (FP.Core.decode FP.Core.b64 (FP.i2d (Int32.ofNat e)).toNat))))
  rw [h1]
  cases h3 : FP.Core.decode FP.Core.b64 (FP.i2d (Int32.ofNat e)).toNat with
  | nan => rw [h3] at h2; cases h2
  | inf s => rw [h3] at h2; cases h2
  | fin t d r =>
    rw [h3] at h2
    refine fp_n64 ?_
    unfold FP.Core.quotient
    dsimp only
    rw [if_neg (of_decide_eq_true h2)]
    exact fp_rr _ _ _ _
/-! ===== FlagChips: the writers ===== -/
abbrev zcl (z : sT) (L : Nat) : sT := (L, 0, scd z, ssr z, sdl z, ssd z, swd z, sst z)
abbrev zhl (z : sT) (a s_ : Nat) : sT := (sL z, sn z + 1, upN (scd z) (sn z) a, upN (ssr z) (sn z) s_, upN (sdl z) (sn z) 0, upN (ssd z) (sn z) 0, (fun j => if j = sn z then (fun _ => 0) else swd z j), sst z)
abbrev zsay (z : sT) (k : Nat) (x : Int32) : sT := zsd (zwd z k (upd (swd z k) (ssd z k) x)) k (ssd z k + 1)
def sayX (y : Nat) : Int32 := if y = 0 then (-1 : Int32) else nI 1
theorem sayX_0 {y : Nat} (h : y = 0) : sayX y = (-1 : Int32) := by simp [sayX, h]
theorem sayX_1 {y : Nat} (h : 0 < y) : sayX y = nI 1 := by
  have h0 : ¬ y = 0 := by omega
  simp [sayX, h0]
theorem sayX_pm (y : Nat) : sayX y = 1 ∨ sayX y = -1 := by
  unfold sayX; split
  · exact Or.inr rfl
  · exact Or.inl rfl
theorem VS.sr {z : sT} (h : VS z) {k s_ : Nat} (h1 : 1 ≤ s_) (h2 : s_ ≤ 9) : VS (zsr z k s_) := by
  refine ⟨h.1, h.2.1, fun j hj => ?_, h.2.2.2⟩
  obtain ⟨a, b, c, d, e⟩ := h.2.2.1 j hj
  refine ⟨a, ?_, c, d, e⟩
  show 1 ≤ upN (ssr z) k s_ j ∧ upN (ssr z) k s_ j ≤ 9
  by_cases q : j = k
  · subst q; rw [upN_s]; exact ⟨h1, h2⟩
  · rw [upN_n q]; exact b
theorem VS.dl {z : sT} (h : VS z) {k d_ : Nat} (h1 : d_ < sL z) : VS (zdl z k d_) := by
  refine ⟨h.1, h.2.1, fun j hj => ?_, h.2.2.2⟩
  obtain ⟨a, b, c, d, e⟩ := h.2.2.1 j hj
  refine ⟨a, b, ?_, d, e⟩
  show upN (sdl z) k d_ j < sL z
  by_cases q : j = k
  · subst q; rw [upN_s]; exact h1
  · rw [upN_n q]; exact c
theorem VS.hush {z : sT} (h : VS z) {k : Nat} : VS (zsd z k 0) := by
  refine ⟨h.1, h.2.1, fun j hj => ?_, h.2.2.2⟩
  obtain ⟨a, b, c, d, e⟩ := h.2.2.1 j hj
  refine ⟨a, b, c, ?_, fun w => ?_⟩
  · show upN (ssd z) k 0 j ≤ 12
    by_cases q : j = k
    · subst q; rw [upN_s]; omega
    · rw [upN_n q]; exact d
  · show w < upN (ssd z) k 0 j → _
    by_cases q : j = k
    · subst q; rw [upN_s]; intro hw; omega
    · rw [upN_n q]; exact e w
theorem VS.say {z : sT} (h : VS z) {k : Nat} {x : Int32} (hk : ssd z k < 12) (hx : x = 1 ∨ x = -1) : VS (zsay z k x) := by
  refine ⟨h.1, h.2.1, fun j hj => ?_, h.2.2.2⟩
  obtain ⟨a, b, c, d, e⟩ := h.2.2.1 j hj
  refine ⟨a, b, c, ?_, fun w => ?_⟩
  · show upN (ssd z) k (ssd z k + 1) j ≤ 12
    by_cases q : j = k
    · subst q; rw [upN_s]; omega
    · rw [upN_n q]; exact d
  · show w < upN (ssd z) k (ssd z k + 1) j → (if j = k then upd (swd z k) (ssd z k) x else swd z j) w = 1 ∨ (if j = k then upd (swd z k) (ssd z k) x else swd z j) w = -1
    by_cases q : j = k
    · subst q
      rw [upN_s, if_pos rfl]
      intro hw
      show (if w = ssd z j then x else swd z j w) = 1 ∨ (if w = ssd z j then x else swd z j w) = -1
      by_cases q2 : w = ssd z j
      · rw [if_pos q2]; exact hx
      · rw [if_neg q2]; exact e w (by omega)
    · rw [upN_n q, if_neg q]; exact e w
theorem VS.st {z : sT} (h : VS z) {p : Nat} {v : Int32} (hv : -99 ≤ v.toInt ∧ v.toInt ≤ 99) : VS (zst z p v) := by
  refine ⟨h.1, h.2.1, h.2.2.1, fun q hq => ?_⟩
  show -99 ≤ (if q = p then v else sst z q).toInt ∧ (if q = p then v else sst z q).toInt ≤ 99
  split
  · exact hv
  · exact h.2.2.2 q hq
theorem VS.cl {z : sT} (h : VS z) {q : Nat} (hq : q ≤ 4) : VS (zcl z (2 ^ q)) :=
  ⟨⟨q, hq, rfl⟩, Nat.zero_le _, fun j hj => absurd hj (Nat.not_lt_zero j), h.2.2.2⟩
theorem VS.hl {z : sT} (h : VS z) {a s_ : Nat} (hn : sn z < 8) (ha : a < sL z) (h1 : 1 ≤ s_) (h2 : s_ ≤ 9) : VS (zhl z a s_) := by
  have hL := h.L
  refine ⟨h.1, hn, fun j hj => ?_, h.2.2.2⟩
  have hj : j < sn z + 1 := hj
  show upN (scd z) (sn z) a j < sL z ∧ (1 ≤ upN (ssr z) (sn z) s_ j ∧ upN (ssr z) (sn z) s_ j ≤ 9) ∧ upN (sdl z) (sn z) 0 j < sL z ∧ upN (ssd z) (sn z) 0 j ≤ 12 ∧ ∀ w, w < upN (ssd z) (sn z) 0 j → (if j = sn z then (fun _ => 0) else swd z j) w = 1 ∨ (if j = sn z then (fun _ => 0) else swd z j) w = -1
  by_cases q : j = sn z
  · subst q
    rw [upN_s, upN_s, upN_s, upN_s]
    exact ⟨ha, ⟨h1, h2⟩, hL.1, by omega, fun w hw => absurd hw (Nat.not_lt_zero w)⟩
  · rw [upN_n q, upN_n q, upN_n q, upN_n q, if_neg q]
    exact h.2.2.1 j (by omega)
theorem VS.init : VS z0 := by
  refine ⟨⟨3, by omega, rfl⟩, Nat.zero_le _, fun j hj => absurd hj (Nat.not_lt_zero j), fun q _ => ?_⟩
  show -99 ≤ (0 : Int32).toInt ∧ (0 : Int32).toInt ≤ 99
  decide
theorem wC_st {g : gT} {ad : Nat → Nat} {mc : Int32} {M : Nat} {sig : Nat → Int32} {z : sT} {p : Nat} {v : Int32} : (wC g ad mc M sig z).set 3 (ad 3, .inl (gI g, 20, .inl (upd (sst z) p v))) = wC g ad mc M sig (zst z p v) := rfl
theorem wC_L {g : gT} {ad : Nat → Nat} {mc : Int32} {M : Nat} {sig : Nat → Int32} {z : sT} {L : Nat} : (wC g ad mc M sig z).set 1 (ad 1, .inr (1, [.int (nI L)])) = wC g ad mc M sig (zL z L) := rfl
theorem wC_hsay {g : gT} {ad : Nat → Nat} {mc : Int32} {M : Nat} {sig : Nat → Int32} {z : sT} {k : Nat} {x : Int32} (hM : wM M (sn z)) (hk : k < sn z) : (wC g ad mc M sig (zsay z k x))[2 * k + 7]? = some (ad (2 * k + 7), .inr (2, [.int (nI (scd z k)), .int (nI (ssr z k)), .int (nI (sdl z k)), .int (nI (ssd z k + 1)), .ref (ad (2 * k + 8))])) := by
  have h := wC_h (g := g) (ad := ad) (mc := mc) (sig := sig) (z := zsay z k x) (k := k) hM hk
  have e : ssd (zsay z k x) k = ssd z k + 1 := upN_s
  rw [e] at h
  exact h
/-! the signals that one hill's words add -/
def cW (d : Int32) (z : sT) (k w t : Nat) : Int32 := if w * sL z + sdl z k ≤ t ∧ t < w * sL z + sdl z k + sL z then d * swd z k w * chip (scd z k) (t - (w * sL z + sdl z k)) else 0
theorem adW_c {sig : Nat → Int32} {d : Int32} {z : sT} {k w t : Nat} : adW sig d z k w (sL z) t = sig t + cW d z k w t := by
  unfold adW cW
  split
  · rfl
  · grind
theorem adWs_c {sig : Nat → Int32} {d : Int32} {z : sT} {k t : Nat} : ∀ {n : Nat}, adWs sig d z k n t = sig t + sumI (fun w => cW d z k w t) n
  | 0 => by show sig t = sig t + 0; grind
  | n + 1 => by
    show adW (adWs sig d z k n) d z k n (sL z) t = sig t + (sumI _ n + cW d z k n t)
    rw [adW_c, adWs_c (n := n)]; grind
theorem cW_neg {d : Int32} {z : sT} {k w t : Nat} : cW (-d) z k w t = - cW d z k w t := by
  unfold cW
  split
  · grind
  · rfl
theorem sumI_neg {f h : Nat → Int32} (e : ∀ w, h w = - f w) : ∀ n, sumI h n = - sumI f n
  | 0 => by show (0 : Int32) = -0; decide
  | n + 1 => by
    show sumI h n + h n = -(sumI f n + f n)
    rw [sumI_neg e n, e n]; grind
theorem adWs_back {sig : Nat → Int32} {d : Int32} {z : sT} {k n : Nat} : adWs (adWs sig d z k n) (-d) z k n = sig := by
  funext t
  rw [adWs_c, adWs_c, sumI_neg (fun w => cW_neg) n]; grind
theorem allW_le {z : sT} {K : Nat → Int32} (hV : VS z) : ∀ {n : Nat}, n ≤ sn z → allW z K n ≤ n * 12
  | 0, _ => Nat.le_refl _
  | n + 1, h => by
    have h1 := allW_le (K := K) hV (n := n) (by omega)
    have h2 := wrF_le (sL z) K (scd z n) (sdl z n) (swd z n) (ssd z n)
    have h3 := (hV.h (j := n) (by omega)).2.2.2
    show allW z K n + wrF (sL z) K (scd z n) (sdl z n) (swd z n) (ssd z n) ≤ _
    omega
/-- the wrong words of all, if the hill k had the strength s_ -/
abbrev wwF (z : sT) (sig : Nat → Int32) (k s_ : Nat) : Nat := allW z (atF (sst z) (adWs sig (nI s_ - nI (ssr z k)) z k (ssd z k))) (sn z)
def tuS (f : Nat → Nat) : Nat → Nat
  | 0 => 1
  | n + 1 => if f (n + 2) < f (tuS f n) then n + 2 else tuS f n
theorem tuS_t {f : Nat → Nat} {n : Nat} (h : f (n + 2) < f (tuS f n)) : tuS f (n + 1) = n + 2 := by rw [tuS, if_pos h]
theorem tuS_f {f : Nat → Nat} {n : Nat} (h : ¬ f (n + 2) < f (tuS f n)) : tuS f (n + 1) = tuS f n := by rw [tuS, if_neg h]
/-! the list, cleared -/
theorem wC_5 {g : gT} {ad : Nat → Nat} {mc : Int32} {M : Nat} {sig : Nat → Int32} {z : sT} (h : ¬ M = 0) : (wC g ad mc M sig z)[5]? = some (ad 5, .inr (0, [.int mc, .ref (ad 6), .int (nI (sn z))])) := by
  show some (ad 5, Sum.inr (0, [Value.int mc, Value.ref (if M = 0 then gE g else ad 6), _])) = _
  rw [if_neg h]
theorem wC_clear1 {g : gT} {ad : Nat → Nat} {mc mc1 : Int32} {M L : Nat} {sig : Nat → Int32} {z : sT} (hM : M = 2 * sn z + 1) : ∀ (k : Nat) (q : Nat × va_E), (wC g ad mc1 (min M 1) sig (zcl z L))[k]? = some q → (((wC g ad mc M sig (zL z L)).set 5 (ad 5, .inr (0, [.int mc1, .ref (ad 6), .int (nI 0)]))).set 6 (ad 6, .inl (gO g, 10, .inr (.inr (.inr (.inr (nulF (rowF ad (sn z)) (sn z))))))))[k]? = some q := by
  rw [show min M 1 = 1 by omega]
  intro k q h
  match k, h with
  | 0, h => exact h
  | 1, h => exact h
  | 2, h => exact h
  | 3, h => exact h
  | 4, h => exact h
  | 5, h => exact h
  | 6, h =>
    have h : some (ad 6, (.inl (gO g, 10, .inr (.inr (.inr (.inr (rowF ad 0))))) : va_E)) = some q := h
    rw [q_ss (y := (ad 6, .inl (gO g, 10, .inr (.inr (.inr (.inr (rowF ad (sn z)))))))) (by rw [List.getElem?_set_ne (by omega)]; exact wC_e (z := zL z L) (by omega)), ← h]
    have e : nulF (rowF ad (sn z)) (sn z) = rowF ad 0 := by
      funext i
      unfold nulF rowF
      by_cases c : i < sn z
      · rw [if_pos c, if_neg (by omega)]
      · rw [if_neg c, if_neg c, if_neg (by omega)]
    rw [e]
  | k + 7, h =>
    have h : (wT g ad (zcl z L) 1)[k + 1]? = some q := h
    exact absurd (List.getElem?_eq_some_iff.mp h).1 (by simp [wT])
theorem wC_clear0 {g : gT} {ad : Nat → Nat} {mc mc1 : Int32} {M L : Nat} {sig : Nat → Int32} {z : sT} (hM : M = 0) : (wC g ad mc M sig (zL z L)).set 5 (ad 5, .inr (0, [.int mc1, .ref (gE g), .int (nI 0)])) = wC g ad mc1 (min M 1) sig (zcl z L) := by
  subst hM; rfl
/-! a hill more -/
def adH (ad : Nat → Nat) (n e h w : Nat) : Nat → Nat := fun i => if i = 6 then e else if i = 2 * n + 7 then h else if i = 2 * n + 8 then w else ad i
theorem adH_lo {ad : Nat → Nat} {n e h w i : Nat} (hi : i < 2 * n + 7) (h6 : i ≠ 6) : adH ad n e h w i = ad i := by
  unfold adH; rw [if_neg h6, if_neg (by omega), if_neg (by omega)]
theorem adH_6 {ad : Nat → Nat} {n e h w : Nat} : adH ad n e h w 6 = e := if_pos rfl
theorem adH_h {ad : Nat → Nat} {n e h w : Nat} : adH ad n e h w (2 * n + 7) = h := by
  unfold adH; rw [if_neg (by omega), if_pos rfl]
theorem adH_w {ad : Nat → Nat} {n e h w : Nat} : adH ad n e h w (2 * n + 8) = w := by
  unfold adH; rw [if_neg (by omega), if_neg (by omega), if_pos rfl]
theorem wC_adH {g : gT} {ad : Nat → Nat} {mc : Int32} {sig : Nat → Int32} {z : sT} {n e h w m : Nat} : wC g (adH ad n e h w) mc (m + 1) sig z = (ad 0, .inr (4, [.ref (ad 1), .ref (ad 2), .ref (ad 5)])) :: (ad 1, .inr (1, [.int (nI (sL z))])) :: (ad 2, .inr (3, [.ref (ad 3), .ref (ad 4), .ref (ad 1)])) :: (ad 3, .inl (gI g, 20, .inl (sst z))) :: (ad 4, .inl (gI g, 207, .inl sig)) :: (ad 5, .inr (0, [.int mc, .ref e, .int (nI (sn z))])) :: wT g (adH ad n e h w) z (m + 1) := by
  unfold wC
  rw [if_neg (by omega), adH_6, adH_lo (i := 0) (by omega) (by omega), adH_lo (i := 1) (by omega) (by omega), adH_lo (i := 2) (by omega) (by omega), adH_lo (i := 3) (by omega) (by omega), adH_lo (i := 4) (by omega) (by omega), adH_lo (i := 5) (by omega) (by omega)]
theorem wC_hx {g : gT} {ad : Nat → Nat} {mc : Int32} {sig : Nat → Int32} {z : sT} {n e h w m : Nat} : (wC g (adH ad n e h w) mc (m + 1) sig z)[0]? = some (ad 0, .inr (4, [.ref (ad 1), .ref (ad 2), .ref (ad 5)])) := by rw [wC_adH]; rfl
theorem wC_h5 {g : gT} {ad : Nat → Nat} {mc : Int32} {sig : Nat → Int32} {z : sT} {n e h w m : Nat} : (wC g (adH ad n e h w) mc (m + 1) sig z)[5]? = some (ad 5, .inr (0, [.int mc, .ref e, .int (nI (sn z))])) := by rw [wC_adH]; rfl
theorem wC_len {g : gT} {ad : Nat → Nat} {mc : Int32} {M : Nat} {sig : Nat → Int32} {z : sT} : (wC g ad mc M sig z).length = M + 6 := by simp [wT]
abbrev hNew (g : gT) (h w a s_ : Nat) : va_W := [(h, .inr (2, [.int (nI a), .int (nI s_), .int (nI 0), .int (nI 0), .ref w])), (w, .inl (gI g, 12, .inl (fun _ => 0)))]
theorem hcell_old {g : gT} {ad : Nat → Nat} {z : sT} {e h w a s_ j : Nat} (h0 : 0 < j) (hj : j < 2 * sn z + 1) : hcell g (adH ad (sn z) e h w) (zhl z a s_) j = hcell g ad z j := by
  unfold hcell
  have j0 : ¬ j = 0 := by omega
  rw [if_neg j0, if_neg j0]
  by_cases c : j % 2 = 1
  · rw [if_pos c, if_pos c, adH_lo (by omega) (by omega), adH_lo (by omega) (by omega)]
    show (_, Sum.inr (2, [Value.int (nI (upN (scd z) (sn z) a (j / 2))), Value.int (nI (upN (ssr z) (sn z) s_ (j / 2))), Value.int (nI (upN (sdl z) (sn z) 0 (j / 2))), Value.int (nI (upN (ssd z) (sn z) 0 (j / 2))), _])) = _
    rw [upN_n (by omega), upN_n (by omega), upN_n (by omega), upN_n (by omega)]
  · rw [if_neg c, if_neg c, adH_lo (by omega) (by omega)]
    show (_, Sum.inl (gI g, 12, Sum.inl (if j / 2 - 1 = sn z then (fun _ => 0) else swd z (j / 2 - 1)))) = _
    rw [if_neg (by omega)]
theorem hcell_newh {g : gT} {ad : Nat → Nat} {z : sT} {e h w a s_ : Nat} : hcell g (adH ad (sn z) e h w) (zhl z a s_) (2 * sn z + 1) = (h, .inr (2, [.int (nI a), .int (nI s_), .int (nI 0), .int (nI 0), .ref w])) := by
  rw [hcell_h, adH_h, adH_w]
  show (_, Sum.inr (2, [Value.int (nI (upN (scd z) (sn z) a (sn z))), Value.int (nI (upN (ssr z) (sn z) s_ (sn z))), Value.int (nI (upN (sdl z) (sn z) 0 (sn z))), Value.int (nI (upN (ssd z) (sn z) 0 (sn z))), _])) = _
  rw [upN_s, upN_s, upN_s, upN_s]
theorem hcell_neww {g : gT} {ad : Nat → Nat} {z : sT} {e h w a s_ : Nat} : hcell g (adH ad (sn z) e h w) (zhl z a s_) (2 * sn z + 2) = (w, .inl (gI g, 12, .inl (fun _ => 0))) := by
  rw [hcell_w, adH_w]
  show (_, Sum.inl (gI g, 12, Sum.inl (if sn z = sn z then (fun _ => 0) else swd z (sn z)))) = _
  rw [if_pos rfl]
theorem hcell_new0 {g : gT} {ad : Nat → Nat} {z : sT} {e h w a s_ : Nat} : hcell g (adH ad (sn z) e h w) (zhl z a s_) 0 = (e, .inl (gO g, 10, .inr (.inr (.inr (.inr (va_up (rowF ad (sn z)) (sn z) (some h))))))) := by
  unfold hcell
  rw [if_pos rfl, adH_6]
  have q : rowF (adH ad (sn z) e h w) (sn z + 1) = va_up (rowF ad (sn z)) (sn z) (some h) := by
    funext i
    show (if i < sn z + 1 then some (adH ad (sn z) e h w (2 * i + 7)) else none) = if i = sn z then some h else if i < sn z then some (ad (2 * i + 7)) else none
    by_cases c : i = sn z
    · subst c; rw [if_pos (by omega), if_pos rfl, adH_h]
    · rw [if_neg c]
      by_cases c2 : i < sn z
      · rw [if_pos (by omega), if_pos c2, adH_lo (by omega) (by omega)]
      · rw [if_neg (by omega), if_neg c2]
  show (e, Sum.inl (gO g, 10, Sum.inr (Sum.inr (Sum.inr (Sum.inr (rowF (adH ad (sn z) e h w) (sn z + 1))))))) = _
  rw [q]
theorem wC_hillA {g : gT} {ad : Nat → Nat} {mc mc1 : Int32} {M h w a s_ : Nat} {sig : Nat → Int32} {z : sT} (hM : M = 2 * sn z + 1) : ∀ (k : Nat) (q : Nat × va_E), (wC g (adH ad (sn z) (ad 6) h w) mc1 (2 * sn z + 3) sig (zhl z a s_))[k]? = some q → ((((wC g ad mc M sig z ++ hNew g h w a s_).set 5 (ad 5, .inr (0, [.int mc1, .ref (ad 6), .int (nI (sn z))]))).set 6 (ad 6, .inl (gO g, 10, .inr (.inr (.inr (.inr (va_up (rowF ad (sn z)) (sn z) (some h)))))))).set 5 (ad 5, .inr (0, [.int mc1, .ref (ad 6), .int (nI (sn z + 1))])))[k]? = some q := by
  rw [wC_adH]
  intro k q hk
  match k, hk with
  | 0, h => exact h
  | 1, h => exact h
  | 2, h => exact h
  | 3, h => exact h
  | 4, h => exact h
  | 5, h => exact h
  | j + 6, hk =>
    have hk : (wT g (adH ad (sn z) (ad 6) h w) (zhl z a s_) (2 * sn z + 3))[j]? = some q := hk
    show ((wT g ad z M ++ hNew g h w a s_).set 0 (ad 6, .inl (gO g, 10, .inr (.inr (.inr (.inr (va_up (rowF ad (sn z)) (sn z) (some h))))))))[j]? = some q
    have hj : j < 2 * sn z + 3 := by
      have := (List.getElem?_eq_some_iff.mp hk).1
      simpa [wT] using this
    have hlen : (wT g ad z M).length = M := by simp [wT]
    rw [wT_get hj] at hk
    by_cases c0 : j = 0
    · subst c0
      rw [hcell_new0] at hk
      rw [← hk]
      exact List.getElem?_set_self (by simp [hNew])
    · rw [List.getElem?_set_ne (Ne.symm c0), ← hk]
      by_cases c1 : j < 2 * sn z + 1
      · rw [hcell_old (by omega) c1, List.getElem?_append_left (by omega), wT_get (by omega)]
      · rw [List.getElem?_append_right (by omega), hlen]
        by_cases c2 : j = 2 * sn z + 1
        · subst c2; rw [hcell_newh, show 2 * sn z + 1 - M = 0 by omega]; rfl
        · obtain rfl : j = 2 * sn z + 2 := by omega
          rw [hcell_neww, show 2 * sn z + 2 - M = 1 by omega]; rfl
theorem q_pmP {D : va_G} {cl : List vw_C} {w w' : va_W} {H : Heap} (f : Nat → Nat) (h : ∀ (k : Nat) (q : Nat × va_E), w'[k]? = some q → w[f k]? = some q) (hP : va_P D cl w H) : va_P D cl w' H := fun k q hk => hP (f k) q (h k q hk)
theorem q_pmD {A : Nat → Prop} {w w' : va_W} (f : Nat → Nat) (hf : ∀ i j, f i = f j → i = j) (h : ∀ (k : Nat) (q : Nat × va_E), w'[k]? = some q → w[f k]? = some q) (hD : va_D A w) : va_D A w' := ⟨fun i j x y hi hj e => hf i j (hD.1 (f i) (f j) x y (h i x hi) (h j y hj) e), fun k q hk => hD.2 (f k) q (h k q hk)⟩
def p678 (k : Nat) : Nat := if k = 6 then 8 else if k = 7 then 6 else if k = 8 then 7 else k
theorem p678_i : ∀ i j, p678 i = p678 j → i = j := by
  intro i j
  unfold p678
  split <;> split <;> (try split) <;> (try split) <;> (try split) <;> (try split) <;> omega
theorem wC_hillB {g : gT} {ad : Nat → Nat} {mc mc1 : Int32} {M h w a s_ u : Nat} {sig : Nat → Int32} {z : sT} (hM : M = 0) (hn : sn z = 0) : ∀ (k : Nat) (q : Nat × va_E), (wC g (adH ad (sn z) u h w) mc1 (2 * sn z + 3) sig (zhl z a s_))[k]? = some q → (((((wC g ad mc M sig z ++ hNew g h w a s_).set 5 (ad 5, .inr (0, [.int mc1, .ref (gE g), .int (nI 0)])) ++ ([(u, .inl (gO g, 10, .inr (.inr (.inr (.inr (fun _ => none))))))] : va_W)).set 5 (ad 5, .inr (0, [.int mc1, .ref u, .int (nI 0)]))).set ((wC g ad mc M sig z ++ hNew g h w a s_).set 5 (ad 5, .inr (0, [.int mc1, .ref (gE g), .int (nI 0)]))).length (u, .inl (gO g, 10, .inr (.inr (.inr (.inr (va_up (fun _ => none) 0 (some h)))))))).set 5 (ad 5, .inr (0, [.int mc1, .ref u, .int (nI 1)])))[p678 k]? = some q := by
  subst hM
  rw [wC_adH]
  have e0 : hcell g (adH ad (sn z) u h w) (zhl z a s_) 0 = (u, .inl (gO g, 10, .inr (.inr (.inr (.inr (va_up (fun _ => none) 0 (some h))))))) := by
    rw [hcell_new0]
    have q : rowF ad (sn z) = fun _ => none := by
      funext i; unfold rowF; rw [if_neg (by omega)]
    rw [q, hn]
  have e1 := hcell_newh (g := g) (ad := ad) (z := z) (e := u) (h := h) (w := w) (a := a) (s_ := s_)
  have e2 := hcell_neww (g := g) (ad := ad) (z := z) (e := u) (h := h) (w := w) (a := a) (s_ := s_)
  intro k q hk
  match k, hk with
  | 0, h => exact h
  | 1, h => exact h
  | 2, h => exact h
  | 3, h => exact h
  | 4, h => exact h
  | 5, h =>
    have h : some (ad 5, (.inr (0, [.int mc1, .ref u, .int (nI (sn z + 1))]) : va_E)) = some q := h
    rw [hn] at h
    exact h
  | j + 6, hk =>
    have hk : (wT g (adH ad (sn z) u h w) (zhl z a s_) (2 * sn z + 3))[j]? = some q := hk
    have hj : j < 2 * sn z + 3 := by
      have := (List.getElem?_eq_some_iff.mp hk).1
      simpa [wT] using this
    rw [wT_get hj] at hk
    rw [← hk]
    rw [hn] at hj e1 e2
    have hj3 : j = 0 ∨ j = 1 ∨ j = 2 := by omega
    rcases hj3 with rfl | rfl | rfl
    · rw [e0]; rfl
    · rw [hn, e1]; rfl
    · rw [hn, e2]; rfl
def mnV (z : sT) (K : Nat → Int32) : UInt64 := if endA z (sn z) = 0 then FP.dconst0 else FP.ddiv (FP.i2d (sumI K (endA z (sn z)))) (FP.i2d (nI (endA z (sn z))))
theorem mnV_ok {z : sT} {K : Nat → Int32} (hV : VS z) (hK : ∀ t, bd (K t) 171) (h : 0 < endA z (sn z)) : vf_n64 (FP.ddiv (FP.i2d (sumI K (endA z (sn z)))) (FP.i2d (nI (endA z (sn z))))) := by
  have he := endA_le hV (Nat.le_refl (sn z))
  have hb := bd_sum (f := K) (B := 171) (n := endA z (sn z)) (fun k _ => hK k) (by omega)
  obtain ⟨h1, h2⟩ := hb
  exact fp_div (by omega) h (by omega)
set_option maxHeartbeats 4000000 in
set_option maxRecDepth 100000 in
theorem c_X3_setStorm {l : Launch} {g : gT} {sz : Nat} {ad : Nat → Nat} {mc : Int32} {M : Nat} {sig : Nat → Int32} {z : sT} (hM : wM M (sn z)) (hV : VS z) {p_ : Nat} {v : Int32} (hp_ : p_ < 20) (hv : inB v (-99) 99) : WR (S := Unit) l yX3_setStorm wsX3_setStorm ({ frames := 0, cells := 0, slots := 0, locals := 0 } : Room) [.ref (ad 0), .int (nI p_), .int v] g (wC g ad mc M sig z) sz (fun _ : Unit => wC g ad mc M sig (zst z p_ v)) (fun _ => some (.int (sst z p_))) 0 0 := by
  refine WR.of (cc := cX3_setStorm) (maxL := 4) (ret := (some .int)) (by decide) rfl (Nat.le_of_ble_eq_true rfl) ?_
  intro p e s m below meth c hx hb hml hr hlocks hown hin0 hts hsz hE0 hP hD ls hl
  subst hsz
  have hown : s.vm.findClass RX3 = some m.cls := hown
  have hA : ∀ q, s.heap.size ≤ q → va_A (wC g ad mc M sig z) s.heap.size q := fun q h => Or.inr h
  have hE := hE0
  have hS : va_S (va_A (wC g ad mc M sig z) s.heap.size) s.heap s.heap [] := va_S.rf
  have hl : lv_has ls 4 [(0, .ref (ad 0)), (1, .int (nI p_)), (2, .int v)] := hl
  obtain ⟨hv1_, hv2_⟩ := hv
  refine lv_iload_n hx hb dX3_setStorm_0 rfl (lv_at hl 1 rfl) ?_
  refine q_if_lt (tgt := 10) hx hb (by omega) dX3_setStorm_1 (by decide) ?_
  refine lv_iload_n hx hb dX3_setStorm_4 rfl (lv_at hl 1 rfl) ?_
  refine lv_bipush (v := nI 20) hx hb dX3_setStorm_5 (by decide) ?_
  refine q_icmp_lt (tgt := 20) hx hb (by omega) (by omega) dX3_setStorm_7 (by decide) (fun c_2 => ?_) (fun c_2 => ?_)
  · refine lv_iload_n hx hb dX3_setStorm_20 rfl (lv_at hl 2 rfl) ?_
    refine lv_bipush (v := (-99 : Int32)) hx hb dX3_setStorm_21 (by decide) ?_
    refine lv_icmp_lt (tgt := 32) hx hb dX3_setStorm_23 (by decide) (fun c_3 => ?_) (fun c_3 => ?_)
    · exfalso
      have h9 := Int32.lt_iff_toInt_lt.mp c_3
      have e9 : (-99 : Int32).toInt = -99 := rfl
      omega
    · refine lv_iload_n hx hb dX3_setStorm_26 rfl (lv_at hl 2 rfl) ?_
      refine lv_bipush (v := nI 99) hx hb dX3_setStorm_27 (by decide) ?_
      refine lv_icmp_le (tgt := 42) hx hb dX3_setStorm_29 (by decide) (fun c_4 => ?_) (fun c_4 => ?_)
      · have c_4 := (rle_nI (by omega)).mp c_4
        refine lv_aload_n hx hb dX3_setStorm_42 rfl (lv_at hl 0 rfl) ?_
        refine va_get (v := .ref (ad 2)) (C := RX3) (T := TX3) (N := 3) hx hb hts (q_sub wsX30 7 rfl) hown hE.K hP 0 rfl rfl 1 (by decide) (hts _ (List.mem_of_getElem? (i := 5) rfl)) (fun _ h9 => h9) rfl dX3_setStorm_43 ?_
        refine va_get (v := .ref (ad 3)) (C := RX2) (T := TX2) (N := 3) hx hb hts (q_sub wsX20 10 rfl) hown hE.K hP 2 rfl rfl 0 (by decide) (hts _ (List.mem_of_getElem? (i := 6) rfl)) (fun _ h9 => h9) rfl dX3_setStorm_46 ?_
        refine lv_iload_n hx hb dX3_setStorm_49 rfl (lv_at hl 1 rfl) ?_
        refine q_iald (v := (sst z) p_) hx hb hE (hP 3 _ rfl) (by omega) (by omega) dX3_setStorm_50 rfl ?_
        refine lv_istore_n (lv' := [(3, .int ((sst z) p_)), (0, .ref (ad 0)), (1, .int (nI p_)), (2, .int v)]) hx hb dX3_setStorm_51 rfl hl (by decide) rfl (fun ls hl => ?_)
        refine lv_aload_n hx hb dX3_setStorm_52 rfl (lv_at hl 1 rfl) ?_
        refine va_get (v := .ref (ad 2)) (C := RX3) (T := TX3) (N := 3) hx hb hts (q_sub wsX30 7 rfl) hown hE.K hP 0 rfl rfl 1 (by decide) (hts _ (List.mem_of_getElem? (i := 5) rfl)) (fun _ h9 => h9) rfl dX3_setStorm_53 ?_
        refine va_get (v := .ref (ad 3)) (C := RX2) (T := TX2) (N := 3) hx hb hts (q_sub wsX20 10 rfl) hown hE.K hP 2 rfl rfl 0 (by decide) (hts _ (List.mem_of_getElem? (i := 6) rfl)) (fun _ h9 => h9) rfl dX3_setStorm_56 ?_
        refine lv_iload_n hx hb dX3_setStorm_59 rfl (lv_at hl 2 rfl) ?_
        refine lv_iload_n hx hb dX3_setStorm_60 rfl (lv_at hl 3 rfl) ?_
        refine q_iast hx hb hE hP hD hS (q0 := 3) rfl (by omega) (by omega) dX3_setStorm_61 (fun H locs hP hD hS => ?_)
        have hP : va_P g.1 vwCl (wC g ad mc M sig (zst z p_ v)) H := q_eqP wC_st hP
        have hD : va_D (va_A (wC g ad mc M sig z) s.heap.size) (wC g ad mc M sig (zst z p_ v)) := q_eqD wC_st hD
        have hE := hE0.kept hS.2.1
        refine lv_iload_n hx hb dX3_setStorm_62 rfl (lv_at hl 0 rfl) ?_
        exact q_wiret (()) hx hb hr hlocks hP hD hS dX3_setStorm_63 rfl
      · have c_4 := mt (rle_nI (by omega)).mpr c_4
        exfalso; omega
  · exact absurd c_2 (by omega)
set_option maxHeartbeats 4000000 in
set_option maxRecDepth 100000 in
theorem c_X3_setStrength {l : Launch} {g : gT} {sz : Nat} {ad : Nat → Nat} {mc : Int32} {M : Nat} {sig : Nat → Int32} {z : sT} (hM : wM M (sn z)) (hV : VS z) {k s_ : Nat} (hk_ : k < sn z) (h1_ : 1 ≤ s_) (h9_ : s_ ≤ 9) : WR (S := Unit) l yX3_setStrength wsX3_setStrength ({ frames := 4, cells := 0, slots := 0, locals := 92 } : Room) [.ref (ad 0), .int (nI k), .int (nI s_)] g (wC g ad mc M sig z) sz (fun _ : Unit => wC g ad mc M (adWs sig (nI s_ - nI (ssr z k)) z k (ssd z k)) (zsr z k s_)) (fun _ => some (.int (nI (ssr z k)))) 0 0 := by
  refine WR.of (cc := cX3_setStrength) (maxL := 5) (ret := (some .int)) (by decide) rfl (Nat.le_of_ble_eq_true rfl) ?_
  intro p e s m below meth c hx hb hml hr hlocks hown hin0 hts hsz hE0 hP hD ls hl
  subst hsz
  have hown : s.vm.findClass RX3 = some m.cls := hown
  have hA : ∀ q, s.heap.size ≤ q → va_A (wC g ad mc M sig z) s.heap.size q := fun q h => Or.inr h
  have hE := hE0
  have hS : va_S (va_A (wC g ad mc M sig z) s.heap.size) s.heap s.heap [] := va_S.rf
  have hl : lv_has ls 5 [(0, .ref (ad 0)), (1, .int (nI k)), (2, .int (nI s_))] := hl
  refine lv_aload_n hx hb dX3_setStrength_0 rfl (lv_at hl 0 rfl) ?_
  refine lv_iload_n hx hb dX3_setStrength_1 rfl (lv_at hl 1 rfl) ?_
  refine q_roV (As := [.int (nI k)]) (rest := []) ⟨hx, hb, hml, hown, hts⟩ (c_X3_hillAt hM hV hk_) (cwV 1 hts gX3_setStrength_X3_hillAt rfl rfl rfl (by decide +kernel) ⟨Nat.le_of_ble_eq_true rfl, Nat.le_of_ble_eq_true rfl⟩) hE (fun q h => hA q (Nat.le_trans hS.1 h)) hP (va_recv hE.K hP (ci := 4) (q0 := 0) rfl rfl) rfl hl.1 rfl (Nat.le_of_ble_eq_true rfl) dX3_setStrength_2 ⟨Nat.le_of_ble_eq_true rfl, Nat.le_of_ble_eq_true rfl⟩ ?_
  refine lv_astore_n (lv' := [(3, .ref (ad (2 * k + 7))), (0, .ref (ad 0)), (1, .int (nI k)), (2, .int (nI s_))]) hx hb dX3_setStrength_5 rfl hl (by decide) rfl (fun ls hl => ?_)
  refine lv_aload_n hx hb dX3_setStrength_6 rfl (lv_at hl 1 rfl) ?_
  refine lv_iload_n hx hb dX3_setStrength_7 rfl (lv_at hl 3 rfl) ?_
  refine q_roV (As := [.int (nI s_)]) (rest := []) ⟨hx, hb, hml, hown, hts⟩ (c_X3_checkStrength hM hV (x := nI s_) (inB_nI (by omega) (by omega) (by omega))) (cwV 1 hts gX3_setStrength_X3_checkStrength rfl rfl rfl (by decide +kernel) ⟨Nat.le_of_ble_eq_true rfl, Nat.le_of_ble_eq_true rfl⟩) hE (fun q h => hA q (Nat.le_trans hS.1 h)) hP (va_recv hE.K hP (ci := 4) (q0 := 0) rfl rfl) rfl hl.1 rfl (Nat.le_of_ble_eq_true rfl) dX3_setStrength_8 ⟨Nat.le_of_ble_eq_true rfl, Nat.le_of_ble_eq_true rfl⟩ ?_
  refine lv_aload_n hx hb dX3_setStrength_11 rfl (lv_at hl 0 rfl) ?_
  refine va_get (v := .int (nI (ssr z k))) (C := RX1) (T := TX1) (N := 5) hx hb hts (q_sub wsX10 78 rfl) hown hE.K hP (2 * k + 7) (wC_h hM hk_) rfl 1 (by decide) (hts _ (List.mem_of_getElem? (i := 1) rfl)) (fun _ h9 => h9) rfl dX3_setStrength_12 ?_
  refine lv_istore (lv' := [(4, .int (nI (ssr z k))), (3, .ref (ad (2 * k + 7))), (0, .ref (ad 0)), (1, .int (nI k)), (2, .int (nI s_))]) hx hb dX3_setStrength_15 hl (by decide) rfl (fun ls hl => ?_)
  refine lv_aload_n hx hb dX3_setStrength_17 rfl (lv_at hl 2 rfl) ?_
  refine va_get (v := .ref (ad 2)) (C := RX3) (T := TX3) (N := 3) hx hb hts (q_sub wsX30 83 rfl) hown hE.K hP 0 rfl rfl 1 (by decide) (hts _ (List.mem_of_getElem? (i := 2) rfl)) (fun _ h9 => h9) rfl dX3_setStrength_18 ?_
  refine lv_aload_n hx hb dX3_setStrength_21 rfl (lv_at hl 1 rfl) ?_
  refine lv_iload_n hx hb dX3_setStrength_22 rfl (lv_at hl 4 rfl) ?_
  refine lv_iload hx hb dX3_setStrength_23 (lv_at hl 0 rfl) ?_
  refine q_isub (v := (nI s_) - (nI (ssr z k))) hx hb dX3_setStrength_25 rfl ?_
  refine q_wrV (wr := []) (As := [.ref (ad (2 * k + 7)), .int ((nI s_) - (nI (ssr z k)))]) (rest := []) ⟨hx, hb, hml, hown, hts⟩ (c_X2_addWords (d := nI s_ - nI (ssr z k)) hM hV hk_) (cwV 2 hts gX3_setStrength_X2_addWords rfl rfl rfl (by decide +kernel) ⟨Nat.le_of_ble_eq_true rfl, Nat.le_of_ble_eq_true rfl⟩) hE hP hD hS hA (va_recv hE.K hP (ci := 3) (q0 := 2) rfl rfl) rfl hl.1 rfl (Nat.le_of_ble_eq_true rfl) dX3_setStrength_26 ⟨Nat.le_of_ble_eq_true rfl, Nat.le_of_ble_eq_true rfl⟩ (fun _u H locs hP hD hS hE => ?_)
  have hP : va_P g.1 vwCl (wC g ad mc M (adWs sig (nI s_ - nI (ssr z k)) z k (ssd z k)) z) H := hP
  have hD : va_D (va_A (wC g ad mc M sig z) s.heap.size) (wC g ad mc M (adWs sig (nI s_ - nI (ssr z k)) z k (ssd z k)) z) := hD
  refine lv_aload_n hx hb dX3_setStrength_29 rfl (lv_at hl 1 rfl) ?_
  refine lv_iload_n hx hb dX3_setStrength_30 rfl (lv_at hl 4 rfl) ?_
  refine va_put (D := g.1) (ci := 2) (v := .int (nI s_)) (ty := .int) (C := RX1) (T := TX1) (N := 5) hx hb hts (q_sub wsX10 78 rfl) tyX1 tyX1_ok nmX1 hown hE.K hP hD hS (2 * k + 7) (wC_h hM hk_) rfl 1 (by decide) (hts _ (List.mem_of_getElem? (i := 1) rfl)) (fun _ h9 => h9) rfl (by decide +kernel) rfl rfl (Nat.le_of_ble_eq_true rfl) dX3_setStrength_31 (fun H locs hP hD hS => ?_)
  have hP : va_P g.1 vwCl (wC g ad mc M (adWs sig (nI s_ - nI (ssr z k)) z k (ssd z k)) (zsr z k s_)) H := q_eqP wC_sr hP
  have hD : va_D (va_A (wC g ad mc M sig z) s.heap.size) (wC g ad mc M (adWs sig (nI s_ - nI (ssr z k)) z k (ssd z k)) (zsr z k s_)) := q_eqD wC_sr hD
  have hE := hE0.kept hS.2.1
  refine lv_iload hx hb dX3_setStrength_34 (lv_at hl 0 rfl) ?_
  exact q_wiret (()) hx hb hr hlocks hP hD hS dX3_setStrength_36 rfl
set_option maxHeartbeats 4000000 in
set_option maxRecDepth 100000 in
theorem c_X3_setDelay {l : Launch} {g : gT} {sz : Nat} {ad : Nat → Nat} {mc : Int32} {M : Nat} {sig : Nat → Int32} {z : sT} (hM : wM M (sn z)) (hV : VS z) {k d_ : Nat} (hk_ : k < sn z) (hd_ : d_ < sL z) : WR (S := Unit) l yX3_setDelay wsX3_setDelay ({ frames := 4, cells := 0, slots := 0, locals := 92 } : Room) [.ref (ad 0), .int (nI k), .int (nI d_)] g (wC g ad mc M sig z) sz (fun _ : Unit => wC g ad mc M (adWs (adWs sig (-nI (ssr z k)) z k (ssd z k)) (nI (ssr z k)) (zdl z k d_) k (ssd z k)) (zdl z k d_)) (fun _ => some (.int (nI (sdl z k)))) 0 0 := by
  refine WR.of (cc := cX3_setDelay) (maxL := 5) (ret := (some .int)) (by decide) rfl (Nat.le_of_ble_eq_true rfl) ?_
  intro p e s m below meth c hx hb hml hr hlocks hown hin0 hts hsz hE0 hP hD ls hl
  subst hsz
  have hown : s.vm.findClass RX3 = some m.cls := hown
  have hA : ∀ q, s.heap.size ≤ q → va_A (wC g ad mc M sig z) s.heap.size q := fun q h => Or.inr h
  have hE := hE0
  have hS : va_S (va_A (wC g ad mc M sig z) s.heap.size) s.heap s.heap [] := va_S.rf
  have hl : lv_has ls 5 [(0, .ref (ad 0)), (1, .int (nI k)), (2, .int (nI d_))] := hl
  have hL := hV.L
  refine lv_aload_n hx hb dX3_setDelay_0 rfl (lv_at hl 0 rfl) ?_
  refine lv_iload_n hx hb dX3_setDelay_1 rfl (lv_at hl 1 rfl) ?_
  refine q_roV (As := [.int (nI k)]) (rest := []) ⟨hx, hb, hml, hown, hts⟩ (c_X3_hillAt hM hV hk_) (cwV 1 hts gX3_setDelay_X3_hillAt rfl rfl rfl (by decide +kernel) ⟨Nat.le_of_ble_eq_true rfl, Nat.le_of_ble_eq_true rfl⟩) hE (fun q h => hA q (Nat.le_trans hS.1 h)) hP (va_recv hE.K hP (ci := 4) (q0 := 0) rfl rfl) rfl hl.1 rfl (Nat.le_of_ble_eq_true rfl) dX3_setDelay_2 ⟨Nat.le_of_ble_eq_true rfl, Nat.le_of_ble_eq_true rfl⟩ ?_
  refine lv_astore_n (lv' := [(3, .ref (ad (2 * k + 7))), (0, .ref (ad 0)), (1, .int (nI k)), (2, .int (nI d_))]) hx hb dX3_setDelay_5 rfl hl (by decide) rfl (fun ls hl => ?_)
  refine lv_aload_n hx hb dX3_setDelay_6 rfl (lv_at hl 1 rfl) ?_
  refine lv_iload_n hx hb dX3_setDelay_7 rfl (lv_at hl 3 rfl) ?_
  refine q_roV (As := [.int (nI d_)]) (rest := []) ⟨hx, hb, hml, hown, hts⟩ (c_X3_checkDelay hM hV (x := nI d_) (inR_nI hd_ (by omega))) (cwV 1 hts gX3_setDelay_X3_checkDelay rfl rfl rfl (by decide +kernel) ⟨Nat.le_of_ble_eq_true rfl, Nat.le_of_ble_eq_true rfl⟩) hE (fun q h => hA q (Nat.le_trans hS.1 h)) hP (va_recv hE.K hP (ci := 4) (q0 := 0) rfl rfl) rfl hl.1 rfl (Nat.le_of_ble_eq_true rfl) dX3_setDelay_8 ⟨Nat.le_of_ble_eq_true rfl, Nat.le_of_ble_eq_true rfl⟩ ?_
  refine lv_aload_n hx hb dX3_setDelay_11 rfl (lv_at hl 0 rfl) ?_
  refine va_get (v := .int (nI (sdl z k))) (C := RX1) (T := TX1) (N := 5) hx hb hts (q_sub wsX10 81 rfl) hown hE.K hP (2 * k + 7) (wC_h hM hk_) rfl 2 (by decide) (hts _ (List.mem_of_getElem? (i := 1) rfl)) (fun _ h9 => h9) rfl dX3_setDelay_12 ?_
  refine lv_istore (lv' := [(4, .int (nI (sdl z k))), (3, .ref (ad (2 * k + 7))), (0, .ref (ad 0)), (1, .int (nI k)), (2, .int (nI d_))]) hx hb dX3_setDelay_15 hl (by decide) rfl (fun ls hl => ?_)
  refine lv_aload_n hx hb dX3_setDelay_17 rfl (lv_at hl 2 rfl) ?_
  refine va_get (v := .ref (ad 2)) (C := RX3) (T := TX3) (N := 3) hx hb hts (q_sub wsX30 86 rfl) hown hE.K hP 0 rfl rfl 1 (by decide) (hts _ (List.mem_of_getElem? (i := 2) rfl)) (fun _ h9 => h9) rfl dX3_setDelay_18 ?_
  refine lv_aload_n hx hb dX3_setDelay_21 rfl (lv_at hl 1 rfl) ?_
  refine lv_aload_n hx hb dX3_setDelay_22 rfl (lv_at hl 1 rfl) ?_
  refine va_get (v := .int (nI (ssr z k))) (C := RX1) (T := TX1) (N := 5) hx hb hts (q_sub wsX10 81 rfl) hown hE.K hP (2 * k + 7) (wC_h hM hk_) rfl 1 (by decide) (hts _ (List.mem_of_getElem? (i := 3) rfl)) (fun _ h9 => h9) rfl dX3_setDelay_23 ?_
  refine q_ineg (v := -(nI (ssr z k))) hx hb dX3_setDelay_26 rfl ?_
  refine q_wrV (wr := []) (As := [.ref (ad (2 * k + 7)), .int (-(nI (ssr z k)))]) (rest := []) ⟨hx, hb, hml, hown, hts⟩ (c_X2_addWords (d := -nI (ssr z k)) hM hV hk_) (cwV 2 hts gX3_setDelay_X2_addWords rfl rfl rfl (by decide +kernel) ⟨Nat.le_of_ble_eq_true rfl, Nat.le_of_ble_eq_true rfl⟩) hE hP hD hS hA (va_recv hE.K hP (ci := 3) (q0 := 2) rfl rfl) rfl hl.1 rfl (Nat.le_of_ble_eq_true rfl) dX3_setDelay_27 ⟨Nat.le_of_ble_eq_true rfl, Nat.le_of_ble_eq_true rfl⟩ (fun _u H locs hP hD hS hE => ?_)
  have hP : va_P g.1 vwCl (wC g ad mc M (adWs sig (-nI (ssr z k)) z k (ssd z k)) z) H := hP
  have hD : va_D (va_A (wC g ad mc M sig z) s.heap.size) (wC g ad mc M (adWs sig (-nI (ssr z k)) z k (ssd z k)) z) := hD
  refine lv_aload_n hx hb dX3_setDelay_30 rfl (lv_at hl 1 rfl) ?_
  refine lv_iload_n hx hb dX3_setDelay_31 rfl (lv_at hl 4 rfl) ?_
  refine va_put (D := g.1) (ci := 2) (v := .int (nI d_)) (ty := .int) (C := RX1) (T := TX1) (N := 5) hx hb hts (q_sub wsX10 81 rfl) tyX1 tyX1_ok nmX1 hown hE.K hP hD hS (2 * k + 7) (wC_h hM hk_) rfl 2 (by decide) (hts _ (List.mem_of_getElem? (i := 1) rfl)) (fun _ h9 => h9) rfl (by decide +kernel) rfl rfl (Nat.le_of_ble_eq_true rfl) dX3_setDelay_32 (fun H locs hP hD hS => ?_)
  have hP : va_P g.1 vwCl (wC g ad mc M (adWs sig (-nI (ssr z k)) z k (ssd z k)) (zdl z k d_)) H := q_eqP wC_dl hP
  have hD : va_D (va_A (wC g ad mc M sig z) s.heap.size) (wC g ad mc M (adWs sig (-nI (ssr z k)) z k (ssd z k)) (zdl z k d_)) := q_eqD wC_dl hD
  have hE := hE0.kept hS.2.1
  refine lv_aload_n hx hb dX3_setDelay_35 rfl (lv_at hl 2 rfl) ?_
  refine va_get (v := .ref (ad 2)) (C := RX3) (T := TX3) (N := 3) hx hb hts (q_sub wsX30 86 rfl) hown hE.K hP 0 rfl rfl 1 (by decide) (hts _ (List.mem_of_getElem? (i := 2) rfl)) (fun _ h9 => h9) rfl dX3_setDelay_36 ?_
  refine lv_aload_n hx hb dX3_setDelay_39 rfl (lv_at hl 1 rfl) ?_
  refine lv_aload_n hx hb dX3_setDelay_40 rfl (lv_at hl 1 rfl) ?_
  refine va_get (v := .int (nI (ssr z k))) (C := RX1) (T := TX1) (N := 5) hx hb hts (q_sub wsX10 81 rfl) hown hE.K hP (2 * k + 7) (wC_h (z := zdl z k d_) hM hk_) rfl 1 (by decide) (hts _ (List.mem_of_getElem? (i := 3) rfl)) (fun _ h9 => h9) rfl dX3_setDelay_41 ?_
  refine q_wrV (wr := []) (As := [.ref (ad (2 * k + 7)), .int (nI (ssr z k))]) (rest := []) ⟨hx, hb, hml, hown, hts⟩ (c_X2_addWords (d := nI (ssr z k)) (z := zdl z k d_) hM (hV.dl hd_) hk_) (cwV 2 hts gX3_setDelay_X2_addWords rfl rfl rfl (by decide +kernel) ⟨Nat.le_of_ble_eq_true rfl, Nat.le_of_ble_eq_true rfl⟩) hE hP hD hS hA (va_recv hE.K hP (ci := 3) (q0 := 2) rfl rfl) rfl hl.1 rfl (Nat.le_of_ble_eq_true rfl) dX3_setDelay_44 ⟨Nat.le_of_ble_eq_true rfl, Nat.le_of_ble_eq_true rfl⟩ (fun _u H locs hP hD hS hE => ?_)
  have hP : va_P g.1 vwCl (wC g ad mc M (adWs (adWs sig (-nI (ssr z k)) z k (ssd z k)) (nI (ssr z k)) (zdl z k d_) k (ssd z k)) (zdl z k d_)) H := hP
  have hD : va_D (va_A (wC g ad mc M sig z) s.heap.size) (wC g ad mc M (adWs (adWs sig (-nI (ssr z k)) z k (ssd z k)) (nI (ssr z k)) (zdl z k d_) k (ssd z k)) (zdl z k d_)) := hD
  refine lv_iload hx hb dX3_setDelay_47 (lv_at hl 0 rfl) ?_
  exact q_wiret (()) hx hb hr hlocks hP hD hS dX3_setDelay_49 rfl
set_option maxHeartbeats 4000000 in
set_option maxRecDepth 100000 in
theorem c_X3_hush {l : Launch} {g : gT} {sz : Nat} {ad : Nat → Nat} {mc : Int32} {M : Nat} {sig : Nat → Int32} {z : sT} (hM : wM M (sn z)) (hV : VS z) {k : Nat} (hk_ : k < sn z) : WR (S := Unit) l yX3_hush wsX3_hush ({ frames := 4, cells := 0, slots := 0, locals := 92 } : Room) [.ref (ad 0), .int (nI k)] g (wC g ad mc M sig z) sz (fun _ : Unit => wC g ad mc M (adWs sig (-nI (ssr z k)) z k (ssd z k)) (zsd z k 0)) (fun _ => some (.int (nI (ssd z k)))) 0 0 := by
  refine WR.of (cc := cX3_hush) (maxL := 4) (ret := (some .int)) (by decide) rfl (Nat.le_of_ble_eq_true rfl) ?_
  intro p e s m below meth c hx hb hml hr hlocks hown hin0 hts hsz hE0 hP hD ls hl
  subst hsz
  have hown : s.vm.findClass RX3 = some m.cls := hown
  have hA : ∀ q, s.heap.size ≤ q → va_A (wC g ad mc M sig z) s.heap.size q := fun q h => Or.inr h
  have hE := hE0
  have hS : va_S (va_A (wC g ad mc M sig z) s.heap.size) s.heap s.heap [] := va_S.rf
  have hl : lv_has ls 4 [(0, .ref (ad 0)), (1, .int (nI k))] := hl
  refine lv_aload_n hx hb dX3_hush_0 rfl (lv_at hl 0 rfl) ?_
  refine lv_iload_n hx hb dX3_hush_1 rfl (lv_at hl 1 rfl) ?_
  refine q_roV (As := [.int (nI k)]) (rest := []) ⟨hx, hb, hml, hown, hts⟩ (c_X3_hillAt hM hV hk_) (cwV 1 hts gX3_hush_X3_hillAt rfl rfl rfl (by decide +kernel) ⟨Nat.le_of_ble_eq_true rfl, Nat.le_of_ble_eq_true rfl⟩) hE (fun q h => hA q (Nat.le_trans hS.1 h)) hP (va_recv hE.K hP (ci := 4) (q0 := 0) rfl rfl) rfl hl.1 rfl (Nat.le_of_ble_eq_true rfl) dX3_hush_2 ⟨Nat.le_of_ble_eq_true rfl, Nat.le_of_ble_eq_true rfl⟩ ?_
  refine lv_astore_n (lv' := [(2, .ref (ad (2 * k + 7))), (0, .ref (ad 0)), (1, .int (nI k))]) hx hb dX3_hush_5 rfl hl (by decide) rfl (fun ls hl => ?_)
  refine lv_aload_n hx hb dX3_hush_6 rfl (lv_at hl 0 rfl) ?_
  refine va_get (v := .int (nI (ssd z k))) (C := RX1) (T := TX1) (N := 5) hx hb hts (q_sub wsX10 73 rfl) hown hE.K hP (2 * k + 7) (wC_h hM hk_) rfl 3 (by decide) (hts _ (List.mem_of_getElem? (i := 1) rfl)) (fun _ h9 => h9) rfl dX3_hush_7 ?_
  refine lv_istore_n (lv' := [(3, .int (nI (ssd z k))), (2, .ref (ad (2 * k + 7))), (0, .ref (ad 0)), (1, .int (nI k))]) hx hb dX3_hush_10 rfl hl (by decide) rfl (fun ls hl => ?_)
  refine lv_aload_n hx hb dX3_hush_11 rfl (lv_at hl 2 rfl) ?_
  refine va_get (v := .ref (ad 2)) (C := RX3) (T := TX3) (N := 3) hx hb hts (q_sub wsX30 78 rfl) hown hE.K hP 0 rfl rfl 1 (by decide) (hts _ (List.mem_of_getElem? (i := 2) rfl)) (fun _ h9 => h9) rfl dX3_hush_12 ?_
  refine lv_aload_n hx hb dX3_hush_15 rfl (lv_at hl 1 rfl) ?_
  refine lv_aload_n hx hb dX3_hush_16 rfl (lv_at hl 1 rfl) ?_
  refine va_get (v := .int (nI (ssr z k))) (C := RX1) (T := TX1) (N := 5) hx hb hts (q_sub wsX10 73 rfl) hown hE.K hP (2 * k + 7) (wC_h hM hk_) rfl 1 (by decide) (hts _ (List.mem_of_getElem? (i := 3) rfl)) (fun _ h9 => h9) rfl dX3_hush_17 ?_
  refine q_ineg (v := -(nI (ssr z k))) hx hb dX3_hush_20 rfl ?_
  refine q_wrV (wr := []) (As := [.ref (ad (2 * k + 7)), .int (-(nI (ssr z k)))]) (rest := []) ⟨hx, hb, hml, hown, hts⟩ (c_X2_addWords (d := -nI (ssr z k)) hM hV hk_) (cwV 2 hts gX3_hush_X2_addWords rfl rfl rfl (by decide +kernel) ⟨Nat.le_of_ble_eq_true rfl, Nat.le_of_ble_eq_true rfl⟩) hE hP hD hS hA (va_recv hE.K hP (ci := 3) (q0 := 2) rfl rfl) rfl hl.1 rfl (Nat.le_of_ble_eq_true rfl) dX3_hush_21 ⟨Nat.le_of_ble_eq_true rfl, Nat.le_of_ble_eq_true rfl⟩ (fun _u H locs hP hD hS hE => ?_)
  have hP : va_P g.1 vwCl (wC g ad mc M (adWs sig (-nI (ssr z k)) z k (ssd z k)) z) H := hP
  have hD : va_D (va_A (wC g ad mc M sig z) s.heap.size) (wC g ad mc M (adWs sig (-nI (ssr z k)) z k (ssd z k)) z) := hD
  refine lv_aload_n hx hb dX3_hush_24 rfl (lv_at hl 1 rfl) ?_
  refine lv_iconst (v := nI 0) hx hb dX3_hush_25 (by decide) ?_
  refine va_put (D := g.1) (ci := 2) (v := .int (nI 0)) (ty := .int) (C := RX1) (T := TX1) (N := 5) hx hb hts (q_sub wsX10 73 rfl) tyX1 tyX1_ok nmX1 hown hE.K hP hD hS (2 * k + 7) (wC_h hM hk_) rfl 3 (by decide) (hts _ (List.mem_of_getElem? (i := 1) rfl)) (fun _ h9 => h9) rfl (by decide +kernel) rfl rfl (Nat.le_of_ble_eq_true rfl) dX3_hush_26 (fun H locs hP hD hS => ?_)
  have hP : va_P g.1 vwCl (wC g ad mc M (adWs sig (-nI (ssr z k)) z k (ssd z k)) (zsd z k 0)) H := q_eqP wC_sd hP
  have hD : va_D (va_A (wC g ad mc M sig z) s.heap.size) (wC g ad mc M (adWs sig (-nI (ssr z k)) z k (ssd z k)) (zsd z k 0)) := q_eqD wC_sd hD
  have hE := hE0.kept hS.2.1
  refine lv_iload_n hx hb dX3_hush_29 rfl (lv_at hl 0 rfl) ?_
  exact q_wiret (()) hx hb hr hlocks hP hD hS dX3_hush_30 rfl
set_option maxHeartbeats 4000000 in
set_option maxRecDepth 100000 in
theorem c_X3_say {l : Launch} {g : gT} {sz : Nat} {ad : Nat → Nat} {mc : Int32} {M : Nat} {sig : Nat → Int32} {z : sT} (hM : wM M (sn z)) (hV : VS z) {k y : Nat} (hk_ : k < sn z) (hsd_ : ssd z k < 12) (hy_ : y < 2147483648) : WR (S := Unit) l yX3_say wsX3_say ({ frames := 4, cells := 0, slots := 0, locals := 85 } : Room) [.ref (ad 0), .int (nI k), .int (nI y)] g (wC g ad mc M sig z) sz (fun _ : Unit => wC g ad mc M (adW sig (nI (ssr z k)) (zsay z k (sayX y)) k (ssd z k) (sL z)) (zsay z k (sayX y))) (fun _ => some (.int (nI (ssd z k + 1)))) 0 0 := by
  refine WR.of (cc := cX3_say) (maxL := 4) (ret := (some .int)) (by decide) rfl (Nat.le_of_ble_eq_true rfl) ?_
  intro p e s m below meth c hx hb hml hr hlocks hown hin0 hts hsz hE0 hP hD ls hl
  subst hsz
  have hown : s.vm.findClass RX3 = some m.cls := hown
  have hA : ∀ q, s.heap.size ≤ q → va_A (wC g ad mc M sig z) s.heap.size q := fun q h => Or.inr h
  have hE := hE0
  have hS : va_S (va_A (wC g ad mc M sig z) s.heap.size) s.heap s.heap [] := va_S.rf
  have hl : lv_has ls 4 [(0, .ref (ad 0)), (1, .int (nI k)), (2, .int (nI y))] := hl
  refine lv_aload_n hx hb dX3_say_0 rfl (lv_at hl 0 rfl) ?_
  refine lv_iload_n hx hb dX3_say_1 rfl (lv_at hl 1 rfl) ?_
  refine q_roV (As := [.int (nI k)]) (rest := []) ⟨hx, hb, hml, hown, hts⟩ (c_X3_hillAt hM hV hk_) (cwV 1 hts gX3_say_X3_hillAt rfl rfl rfl (by decide +kernel) ⟨Nat.le_of_ble_eq_true rfl, Nat.le_of_ble_eq_true rfl⟩) hE (fun q h => hA q (Nat.le_trans hS.1 h)) hP (va_recv hE.K hP (ci := 4) (q0 := 0) rfl rfl) rfl hl.1 rfl (Nat.le_of_ble_eq_true rfl) dX3_say_2 ⟨Nat.le_of_ble_eq_true rfl, Nat.le_of_ble_eq_true rfl⟩ ?_
  refine lv_astore_n (lv' := [(3, .ref (ad (2 * k + 7))), (0, .ref (ad 0)), (1, .int (nI k)), (2, .int (nI y))]) hx hb dX3_say_5 rfl hl (by decide) rfl (fun ls hl => ?_)
  refine lv_aload_n hx hb dX3_say_6 rfl (lv_at hl 0 rfl) ?_
  refine q_roV (As := []) (rest := []) ⟨hx, hb, hml, hown, hts⟩ (c_X1_isFull (sd := ssd z k) (by omega)) (cwV 0 hts gX3_say_X1_isFull rfl rfl rfl (by decide +kernel) ⟨Nat.le_of_ble_eq_true rfl, Nat.le_of_ble_eq_true rfl⟩) hE (fun q h => hA q (Nat.le_trans hS.1 h)) ⟨(hP (2 * k + 7) _ (wC_h hM hk_)), (hP (2 * k + 8) _ (wC_w hM hk_))⟩ (va_recv hE.K hP (ci := 2) (q0 := (2 * k + 7)) rfl (wC_h hM hk_)) rfl hl.1 rfl (Nat.le_of_ble_eq_true rfl) dX3_say_7 ⟨Nat.le_of_ble_eq_true rfl, Nat.le_of_ble_eq_true rfl⟩ ?_
  refine q_ifb_eq (tgt := 23) hx hb dX3_say_10 (by decide) (fun c_1 => ?_) (fun c_1 => ?_)
  · refine lv_aload_n hx hb dX3_say_23 rfl (lv_at hl 0 rfl) ?_
    refine lv_iload_n hx hb dX3_say_24 rfl (lv_at hl 3 rfl) ?_
    refine q_if_eq (tgt := 32) hx hb hy_ dX3_say_25 (by decide) (fun c_y => ?_) (fun c_y => ?_)
    · refine lv_iconst (v := (-1 : Int32)) hx hb dX3_say_32 (by decide) ?_
      refine lv_topi (fun x_ ex_ => ?_)
      obtain rfl : x_ = sayX y := ex_.trans (sayX_0 c_y).symm
      refine q_wrV (wr := []) (As := [.int (sayX y)]) (rest := []) ⟨hx, hb, hml, hown, hts⟩ (c_X1_add (x := sayX y) hM hV hk_ hsd_) (cwV 1 hts gX3_say_X1_add rfl rfl rfl (by decide +kernel) ⟨Nat.le_of_ble_eq_true rfl, Nat.le_of_ble_eq_true rfl⟩) hE hP hD hS hA (va_recv hE.K hP (ci := 2) (q0 := (2 * k + 7)) rfl (wC_h hM hk_)) rfl hl.1 rfl (Nat.le_of_ble_eq_true rfl) dX3_say_33 ⟨Nat.le_of_ble_eq_true rfl, Nat.le_of_ble_eq_true rfl⟩ (fun _u H locs hP hD hS hE => ?_)
      have hP : va_P g.1 vwCl (wC g ad mc M sig (zsay z k (sayX y))) H := hP
      have hD : va_D (va_A (wC g ad mc M sig z) s.heap.size) (wC g ad mc M sig (zsay z k (sayX y))) := hD
      refine lv_aload_n hx hb dX3_say_36 rfl (lv_at hl 1 rfl) ?_
      refine va_get (v := .ref (ad 2)) (C := RX3) (T := TX3) (N := 3) hx hb hts (q_sub wsX30 80 rfl) hown hE.K hP 0 rfl rfl 1 (by decide) (hts _ (List.mem_of_getElem? (i := 3) rfl)) (fun _ h9 => h9) rfl dX3_say_37 ?_
      refine lv_aload_n hx hb dX3_say_40 rfl (lv_at hl 0 rfl) ?_
      refine lv_aload_n hx hb dX3_say_41 rfl (lv_at hl 0 rfl) ?_
      refine va_get (v := .int (nI (ssd z k + 1))) (C := RX1) (T := TX1) (N := 5) hx hb hts (q_sub wsX10 83 rfl) hown hE.K hP (2 * k + 7) (wC_hsay hM hk_) rfl 3 (by decide) (hts _ (List.mem_of_getElem? (i := 4) rfl)) (fun _ h9 => h9) rfl dX3_say_42 ?_
      refine lv_iconst (v := nI 1) hx hb dX3_say_45 (by decide) ?_
      refine q_isub (v := nI (ssd z k)) hx hb dX3_say_46 (pk_sub (by omega)) ?_
      refine lv_aload_n hx hb dX3_say_47 rfl (lv_at hl 0 rfl) ?_
      refine va_get (v := .int (nI (ssr z k))) (C := RX1) (T := TX1) (N := 5) hx hb hts (q_sub wsX10 83 rfl) hown hE.K hP (2 * k + 7) (wC_hsay hM hk_) rfl 1 (by decide) (hts _ (List.mem_of_getElem? (i := 5) rfl)) (fun _ h9 => h9) rfl dX3_say_48 ?_
      refine q_wrV (wr := []) (As := [.ref (ad (2 * k + 7)), .int (nI (ssd z k)), .int (nI (ssr z k))]) (rest := []) ⟨hx, hb, hml, hown, hts⟩ (c_X2_addWord (w := ssd z k) (d := nI (ssr z k)) (z := zsay z k (sayX y)) hM (hV.say hsd_ (sayX_pm y)) hk_ hsd_) (cwV 3 hts gX3_say_X2_addWord rfl rfl rfl (by decide +kernel) ⟨Nat.le_of_ble_eq_true rfl, Nat.le_of_ble_eq_true rfl⟩) hE hP hD hS hA (va_recv hE.K hP (ci := 3) (q0 := 2) rfl rfl) rfl hl.1 rfl (Nat.le_of_ble_eq_true rfl) dX3_say_51 ⟨Nat.le_of_ble_eq_true rfl, Nat.le_of_ble_eq_true rfl⟩ (fun _u H locs hP hD hS hE => ?_)
      have hP : va_P g.1 vwCl (wC g ad mc M (adW sig (nI (ssr z k)) (zsay z k (sayX y)) k (ssd z k) (sL z)) (zsay z k (sayX y))) H := hP
      have hD : va_D (va_A (wC g ad mc M sig z) s.heap.size) (wC g ad mc M (adW sig (nI (ssr z k)) (zsay z k (sayX y)) k (ssd z k) (sL z)) (zsay z k (sayX y))) := hD
      refine lv_aload_n hx hb dX3_say_54 rfl (lv_at hl 0 rfl) ?_
      refine va_get (v := .int (nI (ssd z k + 1))) (C := RX1) (T := TX1) (N := 5) hx hb hts (q_sub wsX10 83 rfl) hown hE.K hP (2 * k + 7) (wC_hsay hM hk_) rfl 3 (by decide) (hts _ (List.mem_of_getElem? (i := 4) rfl)) (fun _ h9 => h9) rfl dX3_say_55 ?_
      exact q_wiret (()) hx hb hr hlocks hP hD hS dX3_say_58 rfl
    · refine lv_iconst (v := nI 1) hx hb dX3_say_28 (by decide) ?_
      refine lv_goto (tgt := 33) hx hb dX3_say_29 (by decide) ?_
      refine lv_topi (fun x_ ex_ => ?_)
      obtain rfl : x_ = sayX y := ex_.trans (sayX_1 c_y).symm
      refine q_wrV (wr := []) (As := [.int (sayX y)]) (rest := []) ⟨hx, hb, hml, hown, hts⟩ (c_X1_add (x := sayX y) hM hV hk_ hsd_) (cwV 1 hts gX3_say_X1_add rfl rfl rfl (by decide +kernel) ⟨Nat.le_of_ble_eq_true rfl, Nat.le_of_ble_eq_true rfl⟩) hE hP hD hS hA (va_recv hE.K hP (ci := 2) (q0 := (2 * k + 7)) rfl (wC_h hM hk_)) rfl hl.1 rfl (Nat.le_of_ble_eq_true rfl) dX3_say_33 ⟨Nat.le_of_ble_eq_true rfl, Nat.le_of_ble_eq_true rfl⟩ (fun _u H locs hP hD hS hE => ?_)
      have hP : va_P g.1 vwCl (wC g ad mc M sig (zsay z k (sayX y))) H := hP
      have hD : va_D (va_A (wC g ad mc M sig z) s.heap.size) (wC g ad mc M sig (zsay z k (sayX y))) := hD
      refine lv_aload_n hx hb dX3_say_36 rfl (lv_at hl 1 rfl) ?_
      refine va_get (v := .ref (ad 2)) (C := RX3) (T := TX3) (N := 3) hx hb hts (q_sub wsX30 80 rfl) hown hE.K hP 0 rfl rfl 1 (by decide) (hts _ (List.mem_of_getElem? (i := 3) rfl)) (fun _ h9 => h9) rfl dX3_say_37 ?_
      refine lv_aload_n hx hb dX3_say_40 rfl (lv_at hl 0 rfl) ?_
      refine lv_aload_n hx hb dX3_say_41 rfl (lv_at hl 0 rfl) ?_
      refine va_get (v := .int (nI (ssd z k + 1))) (C := RX1) (T := TX1) (N := 5) hx hb hts (q_sub wsX10 83 rfl) hown hE.K hP (2 * k + 7) (wC_hsay hM hk_) rfl 3 (by decide) (hts _ (List.mem_of_getElem? (i := 4) rfl)) (fun _ h9 => h9) rfl dX3_say_42 ?_
      refine lv_iconst (v := nI 1) hx hb dX3_say_45 (by decide) ?_
      refine q_isub (v := nI (ssd z k)) hx hb dX3_say_46 (pk_sub (by omega)) ?_
      refine lv_aload_n hx hb dX3_say_47 rfl (lv_at hl 0 rfl) ?_
      refine va_get (v := .int (nI (ssr z k))) (C := RX1) (T := TX1) (N := 5) hx hb hts (q_sub wsX10 83 rfl) hown hE.K hP (2 * k + 7) (wC_hsay hM hk_) rfl 1 (by decide) (hts _ (List.mem_of_getElem? (i := 5) rfl)) (fun _ h9 => h9) rfl dX3_say_48 ?_
      refine q_wrV (wr := []) (As := [.ref (ad (2 * k + 7)), .int (nI (ssd z k)), .int (nI (ssr z k))]) (rest := []) ⟨hx, hb, hml, hown, hts⟩ (c_X2_addWord (w := ssd z k) (d := nI (ssr z k)) (z := zsay z k (sayX y)) hM (hV.say hsd_ (sayX_pm y)) hk_ hsd_) (cwV 3 hts gX3_say_X2_addWord rfl rfl rfl (by decide +kernel) ⟨Nat.le_of_ble_eq_true rfl, Nat.le_of_ble_eq_true rfl⟩) hE hP hD hS hA (va_recv hE.K hP (ci := 3) (q0 := 2) rfl rfl) rfl hl.1 rfl (Nat.le_of_ble_eq_true rfl) dX3_say_51 ⟨Nat.le_of_ble_eq_true rfl, Nat.le_of_ble_eq_true rfl⟩ (fun _u H locs hP hD hS hE => ?_)
      have hP : va_P g.1 vwCl (wC g ad mc M (adW sig (nI (ssr z k)) (zsay z k (sayX y)) k (ssd z k) (sL z)) (zsay z k (sayX y))) H := hP
      have hD : va_D (va_A (wC g ad mc M sig z) s.heap.size) (wC g ad mc M (adW sig (nI (ssr z k)) (zsay z k (sayX y)) k (ssd z k) (sL z)) (zsay z k (sayX y))) := hD
      refine lv_aload_n hx hb dX3_say_54 rfl (lv_at hl 0 rfl) ?_
      refine va_get (v := .int (nI (ssd z k + 1))) (C := RX1) (T := TX1) (N := 5) hx hb hts (q_sub wsX10 83 rfl) hown hE.K hP (2 * k + 7) (wC_hsay hM hk_) rfl 3 (by decide) (hts _ (List.mem_of_getElem? (i := 4) rfl)) (fun _ h9 => h9) rfl dX3_say_55 ?_
      exact q_wiret (()) hx hb hr hlocks hP hD hS dX3_say_58 rfl
  · exact absurd c_1 (by omega)
set_option maxHeartbeats 4000000 in
set_option maxRecDepth 100000 in
theorem c_X3_wrongWordsWith {l : Launch} {g : gT} {sz : Nat} {ad : Nat → Nat} {mc : Int32} {M : Nat} {sig : Nat → Int32} {z : sT} (hM : wM M (sn z)) (hV : VS z) {k s_ : Nat} (hk_ : k < sn z) : WR (S := Unit) l yX3_wrongWordsWith wsX3_wrongWordsWith ({ frames := 6, cells := 0, slots := 0, locals := 133 } : Room) [.ref (ad 0), .ref (ad (2 * k + 7)), .int (nI s_)] g (wC g ad mc M sig z) sz (fun _ : Unit => wC g ad mc M sig z) (fun _ => some (.int (nI (wwF z sig k s_)))) 0 0 := by
  refine WR.of (cc := cX3_wrongWordsWith) (maxL := 5) (ret := (some .int)) (by decide) rfl (Nat.le_of_ble_eq_true rfl) ?_
  intro p e s m below meth c hx hb hml hr hlocks hown hin0 hts hsz hE0 hP hD ls hl
  subst hsz
  have hown : s.vm.findClass RX3 = some m.cls := hown
  have hA : ∀ q, s.heap.size ≤ q → va_A (wC g ad mc M sig z) s.heap.size q := fun q h => Or.inr h
  have hE := hE0
  have hS : va_S (va_A (wC g ad mc M sig z) s.heap.size) s.heap s.heap [] := va_S.rf
  have hl : lv_has ls 5 [(0, .ref (ad 0)), (1, .ref (ad (2 * k + 7))), (2, .int (nI s_))] := hl
  refine lv_iload_n hx hb dX3_wrongWordsWith_0 rfl (lv_at hl 2 rfl) ?_
  refine lv_aload_n hx hb dX3_wrongWordsWith_1 rfl (lv_at hl 1 rfl) ?_
  refine va_get (v := .int (nI (ssr z k))) (C := RX1) (T := TX1) (N := 5) hx hb hts (q_sub wsX10 92 rfl) hown hE.K hP (2 * k + 7) (wC_h hM hk_) rfl 1 (by decide) (hts _ (List.mem_of_getElem? (i := 1) rfl)) (fun _ h9 => h9) rfl dX3_wrongWordsWith_2 ?_
  refine q_isub (v := (nI s_) - (nI (ssr z k))) hx hb dX3_wrongWordsWith_5 rfl ?_
  refine lv_istore_n (lv' := [(3, .int ((nI s_) - (nI (ssr z k)))), (0, .ref (ad 0)), (1, .ref (ad (2 * k + 7))), (2, .int (nI s_))]) hx hb dX3_wrongWordsWith_6 rfl hl (by decide) rfl (fun ls hl => ?_)
  refine lv_aload_n hx hb dX3_wrongWordsWith_7 rfl (lv_at hl 1 rfl) ?_
  refine va_get (v := .ref (ad 2)) (C := RX3) (T := TX3) (N := 3) hx hb hts (q_sub wsX30 97 rfl) hown hE.K hP 0 rfl rfl 1 (by decide) (hts _ (List.mem_of_getElem? (i := 2) rfl)) (fun _ h9 => h9) rfl dX3_wrongWordsWith_8 ?_
  refine lv_aload_n hx hb dX3_wrongWordsWith_11 rfl (lv_at hl 2 rfl) ?_
  refine lv_iload_n hx hb dX3_wrongWordsWith_12 rfl (lv_at hl 0 rfl) ?_
  refine q_wrV (wr := []) (As := [.ref (ad (2 * k + 7)), .int ((nI s_) - (nI (ssr z k)))]) (rest := []) ⟨hx, hb, hml, hown, hts⟩ (c_X2_addWords (d := nI s_ - nI (ssr z k)) hM hV hk_) (cwV 2 hts gX3_wrongWordsWith_X2_addWords rfl rfl rfl (by decide +kernel) ⟨Nat.le_of_ble_eq_true rfl, Nat.le_of_ble_eq_true rfl⟩) hE hP hD hS hA (va_recv hE.K hP (ci := 3) (q0 := 2) rfl rfl) rfl hl.1 rfl (Nat.le_of_ble_eq_true rfl) dX3_wrongWordsWith_13 ⟨Nat.le_of_ble_eq_true rfl, Nat.le_of_ble_eq_true rfl⟩ (fun _u H locs hP hD hS hE => ?_)
  have hP : va_P g.1 vwCl (wC g ad mc M (adWs sig (nI s_ - nI (ssr z k)) z k (ssd z k)) z) H := hP
  have hD : va_D (va_A (wC g ad mc M sig z) s.heap.size) (wC g ad mc M (adWs sig (nI s_ - nI (ssr z k)) z k (ssd z k)) z) := hD
  refine lv_aload_n hx hb dX3_wrongWordsWith_16 rfl (lv_at hl 1 rfl) ?_
  refine q_roV (As := []) (rest := []) ⟨hx, hb, hml, hown, hts⟩ (c_X3_allWrongWords hM hV) (cwV 0 hts gX3_wrongWordsWith_X3_allWrongWords rfl rfl rfl (by decide +kernel) ⟨Nat.le_of_ble_eq_true rfl, Nat.le_of_ble_eq_true rfl⟩) hE (fun q h => hA q (Nat.le_trans hS.1 h)) hP (va_recv hE.K hP (ci := 4) (q0 := 0) rfl rfl) rfl hl.1 rfl (Nat.le_of_ble_eq_true rfl) dX3_wrongWordsWith_17 ⟨Nat.le_of_ble_eq_true rfl, Nat.le_of_ble_eq_true rfl⟩ ?_
  refine lv_istore (lv' := [(4, .int (nI (wwF z sig k s_))), (3, .int ((nI s_) - (nI (ssr z k)))), (0, .ref (ad 0)), (1, .ref (ad (2 * k + 7))), (2, .int (nI s_))]) hx hb dX3_wrongWordsWith_20 hl (by decide) rfl (fun ls hl => ?_)
  refine lv_aload_n hx hb dX3_wrongWordsWith_22 rfl (lv_at hl 2 rfl) ?_
  refine va_get (v := .ref (ad 2)) (C := RX3) (T := TX3) (N := 3) hx hb hts (q_sub wsX30 97 rfl) hown hE.K hP 0 rfl rfl 1 (by decide) (hts _ (List.mem_of_getElem? (i := 2) rfl)) (fun _ h9 => h9) rfl dX3_wrongWordsWith_23 ?_
  refine lv_aload_n hx hb dX3_wrongWordsWith_26 rfl (lv_at hl 3 rfl) ?_
  refine lv_iload_n hx hb dX3_wrongWordsWith_27 rfl (lv_at hl 1 rfl) ?_
  refine q_ineg (v := -((nI s_) - (nI (ssr z k)))) hx hb dX3_wrongWordsWith_28 rfl ?_
  refine q_wrV (wr := []) (As := [.ref (ad (2 * k + 7)), .int (-((nI s_) - (nI (ssr z k))))]) (rest := []) ⟨hx, hb, hml, hown, hts⟩ (c_X2_addWords (d := -(nI s_ - nI (ssr z k))) hM hV hk_) (cwV 2 hts gX3_wrongWordsWith_X2_addWords rfl rfl rfl (by decide +kernel) ⟨Nat.le_of_ble_eq_true rfl, Nat.le_of_ble_eq_true rfl⟩) hE hP hD hS hA (va_recv hE.K hP (ci := 3) (q0 := 2) rfl rfl) rfl hl.1 rfl (Nat.le_of_ble_eq_true rfl) dX3_wrongWordsWith_29 ⟨Nat.le_of_ble_eq_true rfl, Nat.le_of_ble_eq_true rfl⟩ (fun _u H locs hP hD hS hE => ?_)
  have hP : va_P g.1 vwCl (wC g ad mc M sig z) H := q_eqP (congrArg (fun x => wC g ad mc M x z) adWs_back) hP
  have hD : va_D (va_A (wC g ad mc M sig z) s.heap.size) (wC g ad mc M sig z) := q_eqD (congrArg (fun x => wC g ad mc M x z) adWs_back) hD
  refine lv_iload hx hb dX3_wrongWordsWith_32 (lv_at hl 0 rfl) ?_
  exact q_wiret (()) hx hb hr hlocks hP hD hS dX3_wrongWordsWith_34 rfl
set_option maxHeartbeats 4000000 in
set_option maxRecDepth 100000 in
theorem c_X3_would {l : Launch} {g : gT} {sz : Nat} {ad : Nat → Nat} {mc : Int32} {M : Nat} {sig : Nat → Int32} {z : sT} (hM : wM M (sn z)) (hV : VS z) {k s_ : Nat} (hk_ : k < sn z) (h1_ : 1 ≤ s_) (h9_ : s_ ≤ 9) : WR (S := Unit) l yX3_would wsX3_would ({ frames := 7, cells := 0, slots := 0, locals := 157 } : Room) [.ref (ad 0), .int (nI k), .int (nI s_)] g (wC g ad mc M sig z) sz (fun _ : Unit => wC g ad mc M sig z) (fun _ => some (.int (nI (wwF z sig k s_)))) 0 0 := by
  refine WR.of (cc := cX3_would) (maxL := 4) (ret := (some .int)) (by decide) rfl (Nat.le_of_ble_eq_true rfl) ?_
  intro p e s m below meth c hx hb hml hr hlocks hown hin0 hts hsz hE0 hP hD ls hl
  subst hsz
  have hown : s.vm.findClass RX3 = some m.cls := hown
  have hA : ∀ q, s.heap.size ≤ q → va_A (wC g ad mc M sig z) s.heap.size q := fun q h => Or.inr h
  have hE := hE0
  have hS : va_S (va_A (wC g ad mc M sig z) s.heap.size) s.heap s.heap [] := va_S.rf
  have hl : lv_has ls 4 [(0, .ref (ad 0)), (1, .int (nI k)), (2, .int (nI s_))] := hl
  refine lv_aload_n hx hb dX3_would_0 rfl (lv_at hl 0 rfl) ?_
  refine lv_iload_n hx hb dX3_would_1 rfl (lv_at hl 1 rfl) ?_
  refine q_roV (As := [.int (nI k)]) (rest := []) ⟨hx, hb, hml, hown, hts⟩ (c_X3_hillAt hM hV hk_) (cwV 1 hts gX3_would_X3_hillAt rfl rfl rfl (by decide +kernel) ⟨Nat.le_of_ble_eq_true rfl, Nat.le_of_ble_eq_true rfl⟩) hE (fun q h => hA q (Nat.le_trans hS.1 h)) hP (va_recv hE.K hP (ci := 4) (q0 := 0) rfl rfl) rfl hl.1 rfl (Nat.le_of_ble_eq_true rfl) dX3_would_2 ⟨Nat.le_of_ble_eq_true rfl, Nat.le_of_ble_eq_true rfl⟩ ?_
  refine lv_astore_n (lv' := [(3, .ref (ad (2 * k + 7))), (0, .ref (ad 0)), (1, .int (nI k)), (2, .int (nI s_))]) hx hb dX3_would_5 rfl hl (by decide) rfl (fun ls hl => ?_)
  refine lv_aload_n hx hb dX3_would_6 rfl (lv_at hl 1 rfl) ?_
  refine lv_iload_n hx hb dX3_would_7 rfl (lv_at hl 3 rfl) ?_
  refine q_roV (As := [.int (nI s_)]) (rest := []) ⟨hx, hb, hml, hown, hts⟩ (c_X3_checkStrength hM hV (x := nI s_) (inB_nI (by omega) (by omega) (by omega))) (cwV 1 hts gX3_would_X3_checkStrength rfl rfl rfl (by decide +kernel) ⟨Nat.le_of_ble_eq_true rfl, Nat.le_of_ble_eq_true rfl⟩) hE (fun q h => hA q (Nat.le_trans hS.1 h)) hP (va_recv hE.K hP (ci := 4) (q0 := 0) rfl rfl) rfl hl.1 rfl (Nat.le_of_ble_eq_true rfl) dX3_would_8 ⟨Nat.le_of_ble_eq_true rfl, Nat.le_of_ble_eq_true rfl⟩ ?_
  refine lv_aload_n hx hb dX3_would_11 rfl (lv_at hl 1 rfl) ?_
  refine lv_aload_n hx hb dX3_would_12 rfl (lv_at hl 0 rfl) ?_
  refine lv_iload_n hx hb dX3_would_13 rfl (lv_at hl 3 rfl) ?_
  refine q_wrV (wr := []) (As := [.ref (ad (2 * k + 7)), .int (nI s_)]) (rest := []) ⟨hx, hb, hml, hown, hts⟩ (c_X3_wrongWordsWith (s_ := s_) hM hV hk_) (cwV 2 hts gX3_would_X3_wrongWordsWith rfl rfl rfl (by decide +kernel) ⟨Nat.le_of_ble_eq_true rfl, Nat.le_of_ble_eq_true rfl⟩) hE hP hD hS hA (va_recv hE.K hP (ci := 4) (q0 := 0) rfl rfl) rfl hl.1 rfl (Nat.le_of_ble_eq_true rfl) dX3_would_14 ⟨Nat.le_of_ble_eq_true rfl, Nat.le_of_ble_eq_true rfl⟩ (fun _u H locs hP hD hS hE => ?_)
  have hP : va_P g.1 vwCl (wC g ad mc M sig z) H := hP
  have hD : va_D (va_A (wC g ad mc M sig z) s.heap.size) (wC g ad mc M sig z) := hD
  exact q_wiret (()) hx hb hr hlocks hP hD hS dX3_would_17 rfl
set_option maxHeartbeats 4000000 in
set_option maxRecDepth 100000 in
theorem c_X3_tune {l : Launch} {g : gT} {sz : Nat} {ad : Nat → Nat} {mc : Int32} {M : Nat} {sig : Nat → Int32} {z : sT} (hM : wM M (sn z)) (hV : VS z) {k : Nat} (hk_ : k < sn z) : WR (S := Unit) l yX3_tune wsX3_tune ({ frames := 7, cells := 0, slots := 0, locals := 157 } : Room) [.ref (ad 0), .int (nI k)] g (wC g ad mc M sig z) sz (fun _ : Unit => wC g ad mc M sig z) (fun _ => some (.int (nI (tuS (wwF z sig k) 8)))) 0 0 := by
  refine WR.of (cc := cX3_tune) (maxL := 7) (ret := (some .int)) (by decide) rfl (Nat.le_of_ble_eq_true rfl) ?_
  intro p e s m below meth c hx hb hml hr hlocks hown hin0 hts hsz hE0 hP hD ls hl
  subst hsz
  have hown : s.vm.findClass RX3 = some m.cls := hown
  have hA : ∀ q, s.heap.size ≤ q → va_A (wC g ad mc M sig z) s.heap.size q := fun q h => Or.inr h
  have hE := hE0
  have hS : va_S (va_A (wC g ad mc M sig z) s.heap.size) s.heap s.heap [] := va_S.rf
  have hl : lv_has ls 7 [(0, .ref (ad 0)), (1, .int (nI k))] := hl
  have hn := hV.n
  refine lv_aload_n hx hb dX3_tune_0 rfl (lv_at hl 0 rfl) ?_
  refine lv_iload_n hx hb dX3_tune_1 rfl (lv_at hl 1 rfl) ?_
  refine q_roV (As := [.int (nI k)]) (rest := []) ⟨hx, hb, hml, hown, hts⟩ (c_X3_hillAt hM hV hk_) (cwV 1 hts gX3_tune_X3_hillAt rfl rfl rfl (by decide +kernel) ⟨Nat.le_of_ble_eq_true rfl, Nat.le_of_ble_eq_true rfl⟩) hE (fun q h => hA q (Nat.le_trans hS.1 h)) hP (va_recv hE.K hP (ci := 4) (q0 := 0) rfl rfl) rfl hl.1 rfl (Nat.le_of_ble_eq_true rfl) dX3_tune_2 ⟨Nat.le_of_ble_eq_true rfl, Nat.le_of_ble_eq_true rfl⟩ ?_
  refine lv_astore_n (lv' := [(2, .ref (ad (2 * k + 7))), (0, .ref (ad 0)), (1, .int (nI k))]) hx hb dX3_tune_5 rfl hl (by decide) rfl (fun ls hl => ?_)
  refine lv_iconst (v := nI 1) hx hb dX3_tune_6 (by decide) ?_
  refine lv_istore_n (lv' := [(3, .int (nI 1)), (2, .ref (ad (2 * k + 7))), (0, .ref (ad 0)), (1, .int (nI k))]) hx hb dX3_tune_7 rfl hl (by decide) rfl (fun ls hl => ?_)
  refine lv_aload_n hx hb dX3_tune_8 rfl (lv_at hl 2 rfl) ?_
  refine lv_aload_n hx hb dX3_tune_9 rfl (lv_at hl 1 rfl) ?_
  refine lv_iconst (v := nI 1) hx hb dX3_tune_10 (by decide) ?_
  refine q_wrV (wr := []) (As := [.ref (ad (2 * k + 7)), .int (nI 1)]) (rest := []) ⟨hx, hb, hml, hown, hts⟩ (c_X3_wrongWordsWith (s_ := 1) hM hV hk_) (cwV 2 hts gX3_tune_X3_wrongWordsWith rfl rfl rfl (by decide +kernel) ⟨Nat.le_of_ble_eq_true rfl, Nat.le_of_ble_eq_true rfl⟩) hE hP hD hS hA (va_recv hE.K hP (ci := 4) (q0 := 0) rfl rfl) rfl hl.1 rfl (Nat.le_of_ble_eq_true rfl) dX3_tune_11 ⟨Nat.le_of_ble_eq_true rfl, Nat.le_of_ble_eq_true rfl⟩ (fun _u H locs hP hD hS hE => ?_)
  have hP : va_P g.1 vwCl (wC g ad mc M sig z) H := hP
  have hD : va_D (va_A (wC g ad mc M sig z) s.heap.size) (wC g ad mc M sig z) := hD
  refine lv_istore (lv' := [(4, .int (nI (wwF z sig k 1))), (3, .int (nI 1)), (2, .ref (ad (2 * k + 7))), (0, .ref (ad 0)), (1, .int (nI k))]) hx hb dX3_tune_14 hl (by decide) rfl (fun ls hl => ?_)
  refine lv_iconst (v := nI 2) hx hb dX3_tune_16 (by decide) ?_
  refine lv_istore (lv' := [(5, .int (nI 2)), (4, .int (nI (wwF z sig k 1))), (3, .int (nI 1)), (2, .ref (ad (2 * k + 7))), (0, .ref (ad 0)), (1, .int (nI k))]) hx hb dX3_tune_17 hl (by decide) rfl (fun ls hl => ?_)
  have lp_19 : ∀ (n_ i : Nat) , i ≤ 8 → 8 + 1 ≤ i + n_ → ∀ (H : Heap) (locs : List Loc), va_P g.1 vwCl (wC g ad mc M sig z) H → va_D (va_A (wC g ad mc M sig z) s.heap.size) (wC g ad mc M sig z) → va_S (va_A (wC g ad mc M sig z) s.heap.size) s.heap H locs → Ev g (va_A (wC g ad mc M sig z) s.heap.size) s H → ∀ (ls : Array Slot), lv_has ls 7 [(5, .int (nI (i + 2))), (4, .int (nI (wwF z sig k (tuS (wwF z sig k) i)))), (3, .int (nI (tuS (wwF z sig k) i))), (0, .ref (ad 0)), (2, .ref (ad (2 * k + 7)))] → W p l e ({ frames := 7, cells := 0, slots := 0, locals := 157 } : Room) s m ([.ref (ad 0), .int (nI k)] : List Value).toArray below meth c H locs 0 0 (MQ below (q_Qw (fun _ : Unit => wC g ad mc M sig z) (fun _ => some (.int (nI (tuS (wwF z sig k) 8)))) g (wC g ad mc M sig z) s.heap.size) ([.ref (ad 0), .int (nI k)] : List Value).toArray s 0 0 (va_A (wC g ad mc M sig z) s.heap.size)) (F0 m 19 ls []) := by
    intro n_
    induction n_ with
    | zero => intro i  hi_ hn_; exact absurd hn_ (by omega)
    | succ n_ ih_19 =>
      intro i  hi_i hn_i  H locs hP hD hS hE ls hl
      have hb1_ : wwF z sig k (i + 2) ≤ sn z * 12 := allW_le hV (Nat.le_refl (sn z))
      have hb2_ : wwF z sig k (tuS (wwF z sig k) i) ≤ sn z * 12 := allW_le hV (Nat.le_refl (sn z))
      refine lv_iload hx hb dX3_tune_19 (lv_at hl 0 rfl) ?_
      refine lv_bipush (v := nI 9) hx hb dX3_tune_21 (by decide) ?_
      refine q_icmp_gt (tgt := 55) hx hb (by omega) (by omega) dX3_tune_23 (by decide) (fun c_1 => ?_) (fun c_1 => ?_)
      · obtain ei : i = 8 := by omega
        refine lv_iload_n hx hb dX3_tune_55 rfl (lv_at hl 2 rfl) ?_
        exact q_wiret () hx hb hr hlocks hP hD hS dX3_tune_56 (by rw [ei])
      · refine lv_aload_n hx hb dX3_tune_26 rfl (lv_at hl 3 rfl) ?_
        refine lv_aload_n hx hb dX3_tune_27 rfl (lv_at hl 4 rfl) ?_
        refine lv_iload hx hb dX3_tune_28 (lv_at hl 0 rfl) ?_
        refine q_wrV (wr := []) (As := [.ref (ad (2 * k + 7)), .int (nI (i + 2))]) (rest := []) ⟨hx, hb, hml, hown, hts⟩ (c_X3_wrongWordsWith (s_ := i + 2) hM hV hk_) (cwV 2 hts gX3_tune_X3_wrongWordsWith rfl rfl rfl (by decide +kernel) ⟨Nat.le_of_ble_eq_true rfl, Nat.le_of_ble_eq_true rfl⟩) hE hP hD hS hA (va_recv hE.K hP (ci := 4) (q0 := 0) rfl rfl) rfl hl.1 rfl (Nat.le_of_ble_eq_true rfl) dX3_tune_30 ⟨Nat.le_of_ble_eq_true rfl, Nat.le_of_ble_eq_true rfl⟩ (fun _u H locs hP hD hS hE => ?_)
        have hP : va_P g.1 vwCl (wC g ad mc M sig z) H := hP
        have hD : va_D (va_A (wC g ad mc M sig z) s.heap.size) (wC g ad mc M sig z) := hD
        refine lv_istore (lv' := [(6, .int (nI (wwF z sig k (i + 2)))), (5, .int (nI (i + 2))), (4, .int (nI (wwF z sig k (tuS (wwF z sig k) i)))), (3, .int (nI (tuS (wwF z sig k) i))), (0, .ref (ad 0)), (2, .ref (ad (2 * k + 7)))]) hx hb dX3_tune_33 hl (by decide) rfl (fun ls hl => ?_)
        refine lv_iload hx hb dX3_tune_35 (lv_at hl 0 rfl) ?_
        refine lv_iload hx hb dX3_tune_37 (lv_at hl 2 rfl) ?_
        refine q_icmp_ge (tgt := 49) hx hb (by omega) (by omega) dX3_tune_39 (by decide) (fun c_2 => ?_) (fun c_2 => ?_)
        · have e9 : tuS (wwF z sig k) (i + 1) = tuS (wwF z sig k) i := tuS_f (Nat.not_lt.mpr c_2)
          refine lv_iinc (v := nI (i + 2 + 1)) (lv' := [(5, .int (nI (i + 2 + 1))), (6, .int (nI (wwF z sig k (i + 2)))), (4, .int (nI (wwF z sig k (tuS (wwF z sig k) i)))), (3, .int (nI (tuS (wwF z sig k) i))), (0, .ref (ad 0)), (2, .ref (ad (2 * k + 7)))]) hx hb dX3_tune_49 hl (k := 1) rfl (nI_1 _) (by decide) rfl (fun ls hl => ?_)
          refine lv_goto (tgt := 19) hx hb dX3_tune_52 (by decide) ?_
          exact ih_19 (i + 1)  (by omega) (by omega)  _ _ hP hD hS hE _ (by rw [e9]; exact lv_sub hl [0, 2, 3, 4, 5] rfl)
        · have e9 : tuS (wwF z sig k) (i + 1) = i + 2 := tuS_t c_2
          refine lv_iload hx hb dX3_tune_42 (lv_at hl 0 rfl) ?_
          refine lv_istore (lv' := [(4, .int (nI (wwF z sig k (i + 2)))), (6, .int (nI (wwF z sig k (i + 2)))), (5, .int (nI (i + 2))), (3, .int (nI (tuS (wwF z sig k) i))), (0, .ref (ad 0)), (2, .ref (ad (2 * k + 7)))]) hx hb dX3_tune_44 hl (by decide) rfl (fun ls hl => ?_)
          refine lv_iload hx hb dX3_tune_46 (lv_at hl 2 rfl) ?_
          refine lv_istore_n (lv' := [(3, .int (nI (i + 2))), (4, .int (nI (wwF z sig k (i + 2)))), (6, .int (nI (wwF z sig k (i + 2)))), (5, .int (nI (i + 2))), (0, .ref (ad 0)), (2, .ref (ad (2 * k + 7)))]) hx hb dX3_tune_48 rfl hl (by decide) rfl (fun ls hl => ?_)
          refine lv_iinc (v := nI (i + 2 + 1)) (lv' := [(5, .int (nI (i + 2 + 1))), (3, .int (nI (i + 2))), (4, .int (nI (wwF z sig k (i + 2)))), (6, .int (nI (wwF z sig k (i + 2)))), (0, .ref (ad 0)), (2, .ref (ad (2 * k + 7)))]) hx hb dX3_tune_49 hl (k := 3) rfl (nI_1 _) (by decide) rfl (fun ls hl => ?_)
          refine lv_goto (tgt := 19) hx hb dX3_tune_52 (by decide) ?_
          exact ih_19 (i + 1)  (by omega) (by omega)  _ _ hP hD hS hE _ (by rw [e9]; exact lv_sub hl [0, 2, 1, 4, 5] rfl)
  have hP : va_P g.1 vwCl (wC g ad mc M sig z) H := hP
  have hD : va_D (va_A (wC g ad mc M sig z) s.heap.size) (wC g ad mc M sig z) := hD
  exact lp_19 (8 + 1) 0  (Nat.zero_le _) (by omega)  _ _ hP hD hS hE _ (lv_sub hl [0, 1, 2, 4, 3] rfl)
theorem shl_ok : ∀ q : Nat, q ≤ 4 → nI 1 <<< (nI q &&& 31) = nI (2 ^ q) := by
  intro q h
  have : q = 0 ∨ q = 1 ∨ q = 2 ∨ q = 3 ∨ q = 4 := by omega
  rcases this with rfl | rfl | rfl | rfl | rfl <;> decide
theorem wM_min {M n : Nat} (h : wM M n) : wM (min M 1) 0 := by
  rcases h with h | h
  · exact Or.inl (by omega)
  · exact Or.inr ⟨by omega, rfl⟩
set_option maxHeartbeats 4000000 in
set_option maxRecDepth 100000 in
theorem c_X3_setCodes {l : Launch} {g : gT} {sz : Nat} {ad : Nat → Nat} {mc : Int32} {M : Nat} {sig : Nat → Int32} {z : sT} (hM : wM M (sn z)) (hV : VS z) {q_ : Nat} (hq_ : q_ ≤ 4) : WR (S := Unit) l yX3_setCodes wsX3_setCodes ({ frames := 2, cells := 0, slots := 0, locals := 43 } : Room) [.ref (ad 0), .int (nI q_)] g (wC g ad mc M sig z) sz (fun _ : Unit => wC g ad (mc + nI 1) (min M 1) (fillF sig (nI 0) 207) (zcl z (2 ^ q_))) (fun _ => some (.int (nI (sL z)))) 0 0 := by
  refine WR.of (cc := cX3_setCodes) (maxL := 3) (ret := (some .int)) (by decide) rfl (Nat.le_of_ble_eq_true rfl) ?_
  intro p e s m below meth c hx hb hml hr hlocks hown hin0 hts hsz hE0 hP hD ls hl
  subst hsz
  have hown : s.vm.findClass RX3 = some m.cls := hown
  have hA : ∀ q, s.heap.size ≤ q → va_A (wC g ad mc M sig z) s.heap.size q := fun q h => Or.inr h
  have hE := hE0
  have hS : va_S (va_A (wC g ad mc M sig z) s.heap.size) s.heap s.heap [] := va_S.rf
  have hl : lv_has ls 3 [(0, .ref (ad 0)), (1, .int (nI q_))] := hl
  have hM_ := hM
  refine lv_iload_n hx hb dX3_setCodes_0 rfl (lv_at hl 1 rfl) ?_
  refine q_if_lt (tgt := 9) hx hb (by omega) dX3_setCodes_1 (by decide) ?_
  refine lv_iload_n hx hb dX3_setCodes_4 rfl (lv_at hl 1 rfl) ?_
  refine lv_iconst (v := nI 4) hx hb dX3_setCodes_5 (by decide) ?_
  refine q_icmp_le (tgt := 19) hx hb (by omega) (by omega) dX3_setCodes_6 (by decide) (fun c_2 => ?_) (fun c_2 => ?_)
  · refine lv_aload_n hx hb dX3_setCodes_19 rfl (lv_at hl 0 rfl) ?_
    refine va_get (v := .ref (ad 1)) (C := RX3) (T := TX3) (N := 3) hx hb hts (q_sub wsX30 26 rfl) hown hE.K hP 0 rfl rfl 0 (by decide) (hts _ (List.mem_of_getElem? (i := 3) rfl)) (fun _ h9 => h9) rfl dX3_setCodes_20 ?_
    refine va_get (v := .int (nI (sL z))) (C := RX0) (T := TX0) (N := 1) hx hb hts (q_sub wsX00 29 rfl) hown hE.K hP 1 rfl rfl 0 (by decide) (hts _ (List.mem_of_getElem? (i := 4) rfl)) (fun _ h9 => h9) rfl dX3_setCodes_23 ?_
    refine lv_istore_n (lv' := [(2, .int (nI (sL z))), (0, .ref (ad 0)), (1, .int (nI q_))]) hx hb dX3_setCodes_26 rfl hl (by decide) rfl (fun ls hl => ?_)
    refine lv_aload_n hx hb dX3_setCodes_27 rfl (lv_at hl 1 rfl) ?_
    refine va_get (v := .ref (ad 1)) (C := RX3) (T := TX3) (N := 3) hx hb hts (q_sub wsX30 26 rfl) hown hE.K hP 0 rfl rfl 0 (by decide) (hts _ (List.mem_of_getElem? (i := 3) rfl)) (fun _ h9 => h9) rfl dX3_setCodes_28 ?_
    refine lv_iconst (v := nI 1) hx hb dX3_setCodes_31 (by decide) ?_
    refine lv_iload_n hx hb dX3_setCodes_32 rfl (lv_at hl 2 rfl) ?_
    refine q_ishl (v := nI (2 ^ q_)) hx hb dX3_setCodes_33 (shl_ok q_ hq_) ?_
    refine va_put (D := g.1) (ci := 1) (v := .int (nI (2 ^ q_))) (ty := .int) (C := RX0) (T := TX0) (N := 1) hx hb hts (q_sub wsX00 29 rfl) tyX0 tyX0_ok nmX0 hown hE.K hP hD hS 1 rfl rfl 0 (by decide) (hts _ (List.mem_of_getElem? (i := 4) rfl)) (fun _ h9 => h9) rfl (by decide +kernel) rfl rfl (Nat.le_of_ble_eq_true rfl) dX3_setCodes_34 (fun H locs hP hD hS => ?_)
    have hP : va_P g.1 vwCl (wC g ad mc M sig (zL z (2 ^ q_))) H := q_eqP wC_L hP
    have hD : va_D (va_A (wC g ad mc M sig z) s.heap.size) (wC g ad mc M sig (zL z (2 ^ q_))) := q_eqD wC_L hD
    have hE := hE0.kept hS.2.1
    refine lv_aload_n hx hb dX3_setCodes_37 rfl (lv_at hl 1 rfl) ?_
    refine va_get (v := .ref (ad 5)) (C := RX3) (T := TX3) (N := 3) hx hb hts (q_sub wsX30 26 rfl) hown hE.K hP 0 rfl rfl 2 (by decide) (hts _ (List.mem_of_getElem? (i := 5) rfl)) (fun _ h9 => h9) rfl dX3_setCodes_38 ?_
    rcases hM with hM | hM
    · refine q_wrV (wr := []) (As := []) (rest := []) ⟨hx, hb, hml, hown, hts⟩ (c_clear1 (n := sn z) hV.n (wC_5 (z := zL z (2 ^ q_)) (by omega)) (wC_e (z := zL z (2 ^ q_)) (by omega)) (by omega)) (cwV 0 hts gX3_setCodes_Jx4a65c_clear_da8c8 rfl rfl rfl (by decide +kernel) ⟨Nat.le_of_ble_eq_true rfl, Nat.le_of_ble_eq_true rfl⟩) hE hP hD hS hA (va_recv hE.K hP (ci := 0) (q0 := 5) rfl rfl) rfl hl.1 rfl (Nat.le_of_ble_eq_true rfl) dX3_setCodes_41 ⟨Nat.le_of_ble_eq_true rfl, Nat.le_of_ble_eq_true rfl⟩ (fun _u H locs hP hD hS hE => ?_)
      have hP : va_P g.1 vwCl (wC g ad (mc + nI 1) (min M 1) sig (zcl z (2 ^ q_))) H := q_preP (wC_clear1 hM) hP
      have hD : va_D (va_A (wC g ad mc M sig z) s.heap.size) (wC g ad (mc + nI 1) (min M 1) sig (zcl z (2 ^ q_))) := q_preD (wC_clear1 hM) hD
      refine lv_aload_n hx hb dX3_setCodes_44 rfl (lv_at hl 1 rfl) ?_
      refine va_get (v := .ref (ad 2)) (C := RX3) (T := TX3) (N := 3) hx hb hts (q_sub wsX30 26 rfl) hown hE.K hP 0 rfl rfl 1 (by decide) (hts _ (List.mem_of_getElem? (i := 6) rfl)) (fun _ h9 => h9) rfl dX3_setCodes_45 ?_
      refine q_wrV (wr := []) (As := []) (rest := []) ⟨hx, hb, hml, hown, hts⟩ (c_X2_silence (z := zcl z (2 ^ q_)) (M := min M 1) (mc := mc + nI 1) (wM_min hM_) (hV.cl hq_)) (cwV 0 hts gX3_setCodes_X2_silence rfl rfl rfl (by decide +kernel) ⟨Nat.le_of_ble_eq_true rfl, Nat.le_of_ble_eq_true rfl⟩) hE hP hD hS hA (va_recv hE.K hP (ci := 3) (q0 := 2) rfl rfl) rfl hl.1 rfl (Nat.le_of_ble_eq_true rfl) dX3_setCodes_48 ⟨Nat.le_of_ble_eq_true rfl, Nat.le_of_ble_eq_true rfl⟩ (fun _u H locs hP hD hS hE => ?_)
      have hP : va_P g.1 vwCl (wC g ad (mc + nI 1) (min M 1) (fillF sig (nI 0) 207) (zcl z (2 ^ q_))) H := hP
      have hD : va_D (va_A (wC g ad mc M sig z) s.heap.size) (wC g ad (mc + nI 1) (min M 1) (fillF sig (nI 0) 207) (zcl z (2 ^ q_))) := hD
      refine lv_iload_n hx hb dX3_setCodes_51 rfl (lv_at hl 0 rfl) ?_
      exact q_wiret (()) hx hb hr hlocks hP hD hS dX3_setCodes_52 rfl
    · have h5_ : (wC g ad mc M sig (zL z (2 ^ q_)))[5]? = some (ad 5, .inr (0, [.int mc, .ref (gE g), .int (nI 0)])) := by rw [hM.1]; show some (ad 5, Sum.inr (0, [_, _, Value.int (nI (sn z))])) = _; rw [hM.2]; rfl
      refine q_wrV (wr := []) (As := []) (rest := []) ⟨hx, hb, hml, hown, hts⟩ (c_clear0 h5_) (cwV 0 hts gX3_setCodes_Jx4a65c_clear_da8c8 rfl rfl rfl (by decide +kernel) ⟨Nat.le_of_ble_eq_true rfl, Nat.le_of_ble_eq_true rfl⟩) hE hP hD hS hA (va_recv hE.K hP (ci := 0) (q0 := 5) rfl rfl) rfl hl.1 rfl (Nat.le_of_ble_eq_true rfl) dX3_setCodes_41 ⟨Nat.le_of_ble_eq_true rfl, Nat.le_of_ble_eq_true rfl⟩ (fun _u H locs hP hD hS hE => ?_)
      have hP : va_P g.1 vwCl (wC g ad (mc + nI 1) (min M 1) sig (zcl z (2 ^ q_))) H := q_eqP (wC_clear0 hM.1) hP
      have hD : va_D (va_A (wC g ad mc M sig z) s.heap.size) (wC g ad (mc + nI 1) (min M 1) sig (zcl z (2 ^ q_))) := q_eqD (wC_clear0 hM.1) hD
      refine lv_aload_n hx hb dX3_setCodes_44 rfl (lv_at hl 1 rfl) ?_
      refine va_get (v := .ref (ad 2)) (C := RX3) (T := TX3) (N := 3) hx hb hts (q_sub wsX30 26 rfl) hown hE.K hP 0 rfl rfl 1 (by decide) (hts _ (List.mem_of_getElem? (i := 6) rfl)) (fun _ h9 => h9) rfl dX3_setCodes_45 ?_
      refine q_wrV (wr := []) (As := []) (rest := []) ⟨hx, hb, hml, hown, hts⟩ (c_X2_silence (z := zcl z (2 ^ q_)) (M := min M 1) (mc := mc + nI 1) (wM_min hM_) (hV.cl hq_)) (cwV 0 hts gX3_setCodes_X2_silence rfl rfl rfl (by decide +kernel) ⟨Nat.le_of_ble_eq_true rfl, Nat.le_of_ble_eq_true rfl⟩) hE hP hD hS hA (va_recv hE.K hP (ci := 3) (q0 := 2) rfl rfl) rfl hl.1 rfl (Nat.le_of_ble_eq_true rfl) dX3_setCodes_48 ⟨Nat.le_of_ble_eq_true rfl, Nat.le_of_ble_eq_true rfl⟩ (fun _u H locs hP hD hS hE => ?_)
      have hP : va_P g.1 vwCl (wC g ad (mc + nI 1) (min M 1) (fillF sig (nI 0) 207) (zcl z (2 ^ q_))) H := hP
      have hD : va_D (va_A (wC g ad mc M sig z) s.heap.size) (wC g ad (mc + nI 1) (min M 1) (fillF sig (nI 0) 207) (zcl z (2 ^ q_))) := hD
      refine lv_iload_n hx hb dX3_setCodes_51 rfl (lv_at hl 0 rfl) ?_
      exact q_wiret (()) hx hb hr hlocks hP hD hS dX3_setCodes_52 rfl
  · exact absurd c_2 (by omega)
set_option maxHeartbeats 4000000 in
set_option maxRecDepth 100000 in
theorem c_X3_hill {l : Launch} {g : gT} {sz : Nat} {ad : Nat → Nat} {mc : Int32} {M : Nat} {sig : Nat → Int32} {z : sT} (hM : wM M (sn z)) (hV : VS z) {a s_ : Nat} (ha_ : a < sL z) (h1_ : 1 ≤ s_) (h9_ : s_ ≤ 9) (hn_ : sn z < 8) : WR (S := Nat × Nat × Nat) l yX3_hill wsX3_hill ({ frames := 5, cells := 3, slots := 27, locals := 108 } : Room) [.ref (ad 0), .int (nI a), .int (nI s_)] g (wC g ad mc M sig z) sz (fun u : Nat × Nat × Nat => wC g (adH ad (sn z) u.1 u.2.1 u.2.2) (mc + nI 1) (2 * sn z + 3) sig (zhl z a s_)) (fun _ => some (.int (nI (sn z)))) 3 27 := by
  refine WR.of (cc := cX3_hill) (maxL := 3) (ret := (some .int)) (by decide) rfl (Nat.le_of_ble_eq_true rfl) ?_
  intro p e s m below meth c hx hb hml hr hlocks hown hin0 hts hsz hE0 hP hD ls hl
  subst hsz
  have hown : s.vm.findClass RX3 = some m.cls := hown
  have hA : ∀ q, s.heap.size ≤ q → va_A (wC g ad mc M sig z) s.heap.size q := fun q h => Or.inr h
  have hE := hE0
  have hS : va_S (va_A (wC g ad mc M sig z) s.heap.size) s.heap s.heap [] := va_S.rf
  have hl : lv_has ls 3 [(0, .ref (ad 0)), (1, .int (nI a)), (2, .int (nI s_))] := hl
  have hL := hV.L
  refine lv_aload_n hx hb dX3_hill_0 rfl (lv_at hl 0 rfl) ?_
  refine lv_iload_n hx hb dX3_hill_1 rfl (lv_at hl 1 rfl) ?_
  refine q_roV (As := [.int (nI a)]) (rest := []) ⟨hx, hb, hml, hown, hts⟩ (c_X3_checkCode hM hV (x := nI a) (inR_nI ha_ (by omega))) (cwV 1 hts gX3_hill_X3_checkCode rfl rfl rfl (by decide +kernel) ⟨Nat.le_of_ble_eq_true rfl, Nat.le_of_ble_eq_true rfl⟩) hE (fun q h => hA q (Nat.le_trans hS.1 h)) hP (va_recv hE.K hP (ci := 4) (q0 := 0) rfl rfl) rfl hl.1 rfl (Nat.le_of_ble_eq_true rfl) dX3_hill_2 ⟨Nat.le_of_ble_eq_true rfl, Nat.le_of_ble_eq_true rfl⟩ ?_
  refine lv_aload_n hx hb dX3_hill_5 rfl (lv_at hl 0 rfl) ?_
  refine lv_iload_n hx hb dX3_hill_6 rfl (lv_at hl 2 rfl) ?_
  refine q_roV (As := [.int (nI s_)]) (rest := []) ⟨hx, hb, hml, hown, hts⟩ (c_X3_checkStrength hM hV (x := nI s_) (inB_nI (by omega) (by omega) (by omega))) (cwV 1 hts gX3_hill_X3_checkStrength rfl rfl rfl (by decide +kernel) ⟨Nat.le_of_ble_eq_true rfl, Nat.le_of_ble_eq_true rfl⟩) hE (fun q h => hA q (Nat.le_trans hS.1 h)) hP (va_recv hE.K hP (ci := 4) (q0 := 0) rfl rfl) rfl hl.1 rfl (Nat.le_of_ble_eq_true rfl) dX3_hill_7 ⟨Nat.le_of_ble_eq_true rfl, Nat.le_of_ble_eq_true rfl⟩ ?_
  refine lv_aload_n hx hb dX3_hill_10 rfl (lv_at hl 0 rfl) ?_
  refine va_get (v := .ref (ad 5)) (C := RX3) (T := TX3) (N := 3) hx hb hts (q_sub wsX30 99 rfl) hown hE.K hP 0 rfl rfl 2 (by decide) (hts _ (List.mem_of_getElem? (i := 3) rfl)) (fun _ h9 => h9) rfl dX3_hill_11 ?_
  refine q_roV (As := []) (rest := []) ⟨hx, hb, hml, hown, hts⟩ (c_size ) (cwV 0 hts gX3_hill_Jx4a65c_size_8abf5 rfl rfl rfl (by decide +kernel) ⟨Nat.le_of_ble_eq_true rfl, Nat.le_of_ble_eq_true rfl⟩) hE (fun q h => hA q (Nat.le_trans hS.1 h)) (hP 5 _ rfl) (va_recv hE.K hP (ci := 0) (q0 := 5) rfl rfl) rfl hl.1 rfl (Nat.le_of_ble_eq_true rfl) dX3_hill_14 ⟨Nat.le_of_ble_eq_true rfl, Nat.le_of_ble_eq_true rfl⟩ ?_
  refine lv_bipush (v := nI 8) hx hb dX3_hill_17 (by decide) ?_
  refine q_icmp_lt (tgt := 32) hx hb (by omega) (by omega) dX3_hill_19 (by decide) (fun c_1 => ?_) (fun c_1 => ?_)
  · refine lv_aload_n hx hb dX3_hill_32 rfl (lv_at hl 0 rfl) ?_
    refine va_get (v := .ref (ad 5)) (C := RX3) (T := TX3) (N := 3) hx hb hts (q_sub wsX30 99 rfl) hown hE.K hP 0 rfl rfl 2 (by decide) (hts _ (List.mem_of_getElem? (i := 3) rfl)) (fun _ h9 => h9) rfl dX3_hill_33 ?_
    refine va_new (ci := 2) (fs := [.int 0, .int 0, .int 0, .int 0, .null]) (C := RX1) (T := TX1) (N := 5) hx hb hts (q_sub wsX10 102 rfl) tyX1 tyX1_ok hown (hts _ (List.mem_of_getElem? (i := 4) rfl)) (hts _ (List.mem_of_getElem? (i := 5) rfl)) (hts _ (List.mem_of_getElem? (i := 6) rfl)) hE.K hP hD hS hA rfl (fun j hj => by rcases (show j = 0 ∨ j = 1 ∨ j = 2 ∨ j = 3 ∨ j = 4 by omega) with rfl | rfl | rfl | rfl | rfl <;> rfl) (Nat.le_of_ble_eq_true rfl) (Nat.le_of_ble_eq_true rfl) dX3_hill_36 (fun h_ H hP hD hS => ?_)
    have hP : va_P g.1 vwCl (wC g ad mc M sig z ++ ([(h_, .inr (2, [.int 0, .int 0, .int 0, .int 0, .null]))] : va_W)) H := hP
    have hD : va_D (va_A (wC g ad mc M sig z) s.heap.size) (wC g ad mc M sig z ++ ([(h_, .inr (2, [.int 0, .int 0, .int 0, .int 0, .null]))] : va_W)) := hD
    have hE := hE0.kept hS.2.1
    refine lv_dup hx hb dX3_hill_39 rfl ?_
    refine lv_iload_n hx hb dX3_hill_40 rfl (lv_at hl 1 rfl) ?_
    refine lv_iload_n hx hb dX3_hill_41 rfl (lv_at hl 2 rfl) ?_
    refine q_wrI (wr := wC g ad mc M sig z) (As := [.int (nI a), .int (nI s_)]) (rest := [.ref h_, .ref (ad 5)]) ⟨hx, hb, hml, hown, hts⟩ (c_X1_init (h0 := h_) (a := a) (s_ := s_)) (cwI 2 hts gX3_hill_X1_init rfl rfl rfl (hts _ (List.mem_of_getElem? (i := 6) rfl)) (hts _ (List.mem_of_getElem? (i := 33) rfl)) (hts _ (List.mem_of_getElem? (i := 34) rfl)) rfl (by decide +kernel) ⟨Nat.le_of_ble_eq_true rfl, Nat.le_of_ble_eq_true rfl⟩) hE hP hD hS hA rfl hl.1 rfl (Nat.le_of_ble_eq_true rfl) dX3_hill_42 ⟨Nat.le_of_ble_eq_true rfl, Nat.le_of_ble_eq_true rfl⟩ (fun w_ H locs hP hD hS hE => ?_)
    have hP : va_P g.1 vwCl (wC g ad mc M sig z ++ hNew g h_ w_ a s_) H := hP
    have hD : va_D (va_A (wC g ad mc M sig z) s.heap.size) (wC g ad mc M sig z ++ hNew g h_ w_ a s_) := hD
    rcases hM with hM | hM
    · have hr_ : (wC g ad mc M sig z ++ hNew g h_ w_ a s_)[M + 6]? = some (h_, .inr (2, [.int (nI a), .int (nI s_), .int (nI 0), .int (nI 0), .ref w_])) := by rw [List.getElem?_append_right (by rw [wC_len]; exact Nat.le_refl _), wC_len, Nat.sub_self]; rfl
      refine q_wrV (wr := []) (As := [.ref h_]) (rest := []) ⟨hx, hb, hml, hown, hts⟩ (c_addA (n := sn z) (by omega) (q_apL (wC_5 (by omega))) (q_apL (wC_e (by omega))) (by omega) hr_ (by omega)) (cwV 1 hts gX3_hill_Jx4a65c_add_9ea2d rfl rfl rfl (by decide +kernel) ⟨Nat.le_of_ble_eq_true rfl, Nat.le_of_ble_eq_true rfl⟩) hE hP hD hS hA (va_recv hE.K hP (ci := 0) (q0 := 5) rfl rfl) rfl hl.1 rfl (Nat.le_of_ble_eq_true rfl) dX3_hill_45 ⟨Nat.le_of_ble_eq_true rfl, Nat.le_of_ble_eq_true rfl⟩ (fun _u H locs hP hD hS hE => ?_)
      have hP : va_P g.1 vwCl (wC g (adH ad (sn z) (ad 6) h_ w_) (mc + nI 1) (2 * sn z + 3) sig (zhl z a s_)) H := q_preP (wC_hillA hM) hP
      have hD : va_D (va_A (wC g ad mc M sig z) s.heap.size) (wC g (adH ad (sn z) (ad 6) h_ w_) (mc + nI 1) (2 * sn z + 3) sig (zhl z a s_)) := q_preD (wC_hillA hM) hD
      refine lv_pop hx hb dX3_hill_48 rfl ?_
      refine lv_aload_n hx hb dX3_hill_49 rfl (lv_at hl 0 rfl) ?_
      refine va_get (v := .ref (ad 5)) (C := RX3) (T := TX3) (N := 3) hx hb hts (q_sub wsX30 99 rfl) hown hE.K hP 0 wC_hx rfl 2 (by decide) (hts _ (List.mem_of_getElem? (i := 3) rfl)) (fun _ h9 => h9) rfl dX3_hill_50 ?_
      refine q_roV (As := []) (rest := []) ⟨hx, hb, hml, hown, hts⟩ (c_size ) (cwV 0 hts gX3_hill_Jx4a65c_size_8abf5 rfl rfl rfl (by decide +kernel) ⟨Nat.le_of_ble_eq_true rfl, Nat.le_of_ble_eq_true rfl⟩) hE (fun q h => hA q (Nat.le_trans hS.1 h)) (hP 5 _ wC_h5) (va_recv hE.K hP (ci := 0) (q0 := 5) rfl wC_h5) rfl hl.1 rfl (Nat.le_of_ble_eq_true rfl) dX3_hill_53 ⟨Nat.le_of_ble_eq_true rfl, Nat.le_of_ble_eq_true rfl⟩ ?_
      refine lv_iconst (v := nI 1) hx hb dX3_hill_56 (by decide) ?_
      refine q_isub (v := nI (sn z)) hx hb dX3_hill_57 (show nI (sn z + 1) - nI 1 = nI (sn z + 1 - 1) from pk_sub (by omega)) ?_
      refine W.widen (k := 3) (n := 27) (Nat.le_of_ble_eq_true rfl) (Nat.le_of_ble_eq_true rfl) ?_
      exact q_wiret (ad 6, h_, w_) hx hb hr hlocks hP hD hS dX3_hill_58 rfl
    · have hr_ : (wC g ad mc M sig z ++ hNew g h_ w_ a s_)[M + 6]? = some (h_, .inr (2, [.int (nI a), .int (nI s_), .int (nI 0), .int (nI 0), .ref w_])) := by rw [List.getElem?_append_right (by rw [wC_len]; exact Nat.le_refl _), wC_len, Nat.sub_self]; rfl
      have h5_ : (wC g ad mc M sig z)[5]? = some (ad 5, .inr (0, [.int mc, .ref (gE g), .int (nI 0)])) := by rw [hM.1]; show some (ad 5, Sum.inr (0, [_, _, Value.int (nI (sn z))])) = _; rw [hM.2]; rfl
      refine q_wrV (wr := []) (As := [.ref h_]) (rest := []) ⟨hx, hb, hml, hown, hts⟩ (c_addB (q_apL h5_) hr_ (by omega)) (cwV 1 hts gX3_hill_Jx4a65c_add_9ea2d rfl rfl rfl (by decide +kernel) ⟨Nat.le_of_ble_eq_true rfl, Nat.le_of_ble_eq_true rfl⟩) hE hP hD hS hA (va_recv hE.K hP (ci := 0) (q0 := 5) rfl rfl) rfl hl.1 rfl (Nat.le_of_ble_eq_true rfl) dX3_hill_45 ⟨Nat.le_of_ble_eq_true rfl, Nat.le_of_ble_eq_true rfl⟩ (fun u_ H locs hP hD hS hE => ?_)
      have hP : va_P g.1 vwCl (wC g (adH ad (sn z) (u_) h_ w_) (mc + nI 1) (2 * sn z + 3) sig (zhl z a s_)) H := q_pmP p678 (wC_hillB hM.1 hM.2) hP
      have hD : va_D (va_A (wC g ad mc M sig z) s.heap.size) (wC g (adH ad (sn z) (u_) h_ w_) (mc + nI 1) (2 * sn z + 3) sig (zhl z a s_)) := q_pmD p678 p678_i (wC_hillB hM.1 hM.2) hD
      refine lv_pop hx hb dX3_hill_48 rfl ?_
      refine lv_aload_n hx hb dX3_hill_49 rfl (lv_at hl 0 rfl) ?_
      refine va_get (v := .ref (ad 5)) (C := RX3) (T := TX3) (N := 3) hx hb hts (q_sub wsX30 99 rfl) hown hE.K hP 0 wC_hx rfl 2 (by decide) (hts _ (List.mem_of_getElem? (i := 3) rfl)) (fun _ h9 => h9) rfl dX3_hill_50 ?_
      refine q_roV (As := []) (rest := []) ⟨hx, hb, hml, hown, hts⟩ (c_size ) (cwV 0 hts gX3_hill_Jx4a65c_size_8abf5 rfl rfl rfl (by decide +kernel) ⟨Nat.le_of_ble_eq_true rfl, Nat.le_of_ble_eq_true rfl⟩) hE (fun q h => hA q (Nat.le_trans hS.1 h)) (hP 5 _ wC_h5) (va_recv hE.K hP (ci := 0) (q0 := 5) rfl wC_h5) rfl hl.1 rfl (Nat.le_of_ble_eq_true rfl) dX3_hill_53 ⟨Nat.le_of_ble_eq_true rfl, Nat.le_of_ble_eq_true rfl⟩ ?_
      refine lv_iconst (v := nI 1) hx hb dX3_hill_56 (by decide) ?_
      refine q_isub (v := nI (sn z)) hx hb dX3_hill_57 (show nI (sn z + 1) - nI 1 = nI (sn z + 1 - 1) from pk_sub (by omega)) ?_
      refine W.widen (k := 3) (n := 27) (Nat.le_of_ble_eq_true rfl) (Nat.le_of_ble_eq_true rfl) ?_
      exact q_wiret (u_, h_, w_) hx hb hr hlocks hP hD hS dX3_hill_58 rfl
  · exact absurd c_1 (by omega)
set_option maxHeartbeats 4000000 in
set_option maxRecDepth 100000 in
theorem c_X3_mean {l : Launch} {g : gT} {ad : Nat → Nat} {mc : Int32} {M : Nat} {sig : Nat → Int32} {z : sT} (hM : wM M (sn z)) (hV : VS z) (hbd : ∀ t, bd (atF (sst z) sig t) 171) : RO l yX3_mean wsX3_mean ({ frames := 4, cells := 0, slots := 0, locals := 86 } : Room) [.ref (ad 0)] g (fun H => va_P g.1 vwCl (wC g ad mc M sig z) H) (some (.double (mnV z (atF (sst z) sig)))) := by
  refine RO.of (cc := cX3_mean) (maxL := 2) (ret := (some .double)) (by decide) rfl (Nat.le_of_ble_eq_true rfl) ?_
  intro p e s m below meth c hx hb hml hr hlocks hown hts hE hF ls hl
  have hown : s.vm.findClass RX3 = some m.cls := hown
  have hA : ∀ q, s.heap.size ≤ q → q_n s.heap q := fun _ h => h
  have hP := hF
  have hl : lv_has ls 2 [(0, .ref (ad 0))] := hl
  have hL := hV.L
  have hn := hV.n
  have h_x : va_at g.1 vwCl (ad 0, .inr (4, [.ref (ad 1), .ref (ad 2), .ref (ad 5)])) s.heap := hP 0 _ rfl
  have h_c : va_at g.1 vwCl (ad 1, .inr (1, [.int (nI (sL z))])) s.heap := hP 1 _ rfl
  have h_k : va_at g.1 vwCl (ad 2, .inr (3, [.ref (ad 3), .ref (ad 4), .ref (ad 1)])) s.heap := hP 2 _ rfl
  have h_st : va_at g.1 vwCl (ad 3, .inl (gI g, 20, .inl (sst z))) s.heap := hP 3 _ rfl
  have h_sg : va_at g.1 vwCl (ad 4, .inl (gI g, 207, .inl sig)) s.heap := hP 4 _ rfl
  have h_l : va_at g.1 vwCl (ad 5, .inr (0, [.int mc, .ref (if M = 0 then gE g else ad 6), .int (nI (sn z))])) s.heap := hP 5 _ rfl
  have he_ := endA_le hV (Nat.le_refl (sn z))
  refine lv_aload_n hx hb dX3_mean_0 rfl (lv_at hl 0 rfl) ?_
  refine q_roV (As := []) (rest := []) ⟨hx, hb, hml, hown, hts⟩ (c_X3_endOfAll hM hV) (cwV 0 hts gX3_mean_X3_endOfAll rfl rfl rfl (by decide +kernel) ⟨Nat.le_of_ble_eq_true rfl, Nat.le_of_ble_eq_true rfl⟩) hE hA hP (va_recv hE.K (q_P1 h_x) (ci := 4) (q0 := 0) rfl rfl) rfl hl.1 rfl (Nat.le_of_ble_eq_true rfl) dX3_mean_1 ⟨Nat.zero_le _, Nat.zero_le _⟩ ?_
  refine lv_istore_n (lv' := [(1, .int (nI (endA z (sn z)))), (0, .ref (ad 0))]) hx hb dX3_mean_4 rfl hl (by decide) rfl (fun ls hl => ?_)
  refine lv_iload_n hx hb dX3_mean_5 rfl (lv_at hl 0 rfl) ?_
  refine q_if_gt (tgt := 11) hx hb (by omega) dX3_mean_6 (by decide) (fun c_e => ?_) (fun c_e => ?_)
  · refine lv_aload_n hx hb dX3_mean_11 rfl (lv_at hl 1 rfl) ?_
    refine va_get (v := .ref (ad 2)) (C := RX3) (T := TX3) (N := 3) hx hb hts (q_sub wsX30 60 rfl) hown hE.K (q_P1 h_x) 0 rfl rfl 1 (by decide) (hts _ (List.mem_of_getElem? (i := 1) rfl)) (fun _ h9 => h9) rfl dX3_mean_12 ?_
    refine lv_iload_n hx hb dX3_mean_15 rfl (lv_at hl 0 rfl) ?_
    refine q_roV (As := [.int (nI (endA z (sn z)))]) (rest := []) ⟨hx, hb, hml, hown, hts⟩ (c_X2_sum (n := endA z (sn z)) (by omega)) (cwV 1 hts gX3_mean_X2_sum rfl rfl rfl (by decide +kernel) ⟨Nat.le_of_ble_eq_true rfl, Nat.le_of_ble_eq_true rfl⟩) hE hA ⟨h_k, h_st, h_sg⟩ (va_recv hE.K (q_P1 h_k) (ci := 3) (q0 := 0) rfl rfl) rfl hl.1 rfl (Nat.le_of_ble_eq_true rfl) dX3_mean_16 ⟨Nat.zero_le _, Nat.zero_le _⟩ ?_
    refine lv_i2d hx hb dX3_mean_19 ?_
    refine lv_iload_n hx hb dX3_mean_20 rfl (lv_at hl 0 rfl) ?_
    refine lv_i2d hx hb dX3_mean_21 ?_
    refine lv_ddiv hx hb dX3_mean_22 (mnV_ok hV hbd c_e) ?_
    exact q_dret hx hb hr hlocks dX3_mean_23 (by unfold mnV; rw [if_neg (by omega)])
  · refine lv_dconst0 hx hb dX3_mean_9 ?_
    exact q_dret hx hb hr hlocks dX3_mean_10 (by unfold mnV; rw [if_pos (by omega)])
