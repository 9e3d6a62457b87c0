/-! ===== what ties the class's signals to the reference's ===== -/
abbrev wwM (z : sT) (k s_ : Nat) : Nat := allW (zsr z k s_) (kM (zsr z k s_)) (sn z)
theorem tuS_in (f : Nat → Nat) : ∀ n, 1 ≤ tuS f n ∧ tuS f n ≤ n + 1
  | 0 => ⟨Nat.le_refl 1, Nat.le_refl 1⟩
  | n + 1 => by
    have := tuS_in f n
    rw [tuS]; split <;> omega
def sglD (d : Int32) (z : sT) (k n t : Nat) : Int32 := if sdl z k ≤ t ∧ t - sdl z k < sL z * n then d * swd z k ((t - sdl z k) / sL z) * chip (scd z k) ((t - sdl z k) % sL z) else 0
theorem sgl_D {z : sT} {k t : Nat} : sgl z k t = sglD (nI (ssr z k)) z k (ssd z k) t := rfl
theorem sglD_c {d : Int32} {z : sT} {k t : Nat} (hL : 0 < sL z) : ∀ n, sumI (fun w => cW d z k w t) n = sglD d z k n t
  | 0 => by
    unfold sglD
    rw [if_neg (by omega)]; rfl
  | n + 1 => by
    show sumI (fun w => cW d z k w t) n + cW d z k n t = _
    rw [sglD_c hL n]
    unfold sglD cW
    have e : sL z * (n + 1) = sL z * n + sL z := Nat.mul_succ _ _
    have e2 : n * sL z = sL z * n := Nat.mul_comm _ _
    rw [e, e2]
    by_cases c1 : sdl z k ≤ t ∧ t - sdl z k < sL z * n
    · have p1 : ¬ (sL z * n + sdl z k ≤ t ∧ t < sL z * n + sdl z k + sL z) := by omega
      have p2 : sdl z k ≤ t ∧ t - sdl z k < sL z * n + sL z := by omega
      rw [if_pos c1, if_neg p1, if_pos p2]; grind
    · rw [if_neg c1]
      by_cases c2 : sL z * n + sdl z k ≤ t ∧ t < sL z * n + sdl z k + sL z
      · have p2 : sdl z k ≤ t ∧ t - sdl z k < sL z * n + sL z := by omega
        rw [if_pos c2, if_pos p2]
        have e3 : (t - sdl z k) / sL z = n := by
          rw [Nat.div_eq_iff hL]
          rw [e2]; omega
        have e4 : (t - sdl z k) % sL z = t - (sL z * n + sdl z k) := by
          have := Nat.div_add_mod (t - sdl z k) (sL z)
          rw [e3] at this; omega
        rw [e3, e4]; grind
      · have p2 : ¬ (sdl z k ≤ t ∧ t - sdl z k < sL z * n + sL z) := by omega
        rw [if_neg c2, if_neg p2]; grind
theorem sgl_c {z : sT} {k t : Nat} (hL : 0 < sL z) : sgl z k t = sumI (fun w => cW (nI (ssr z k)) z k w t) (ssd z k) := by rw [sgl_D, sglD_c hL]
def SG (z : sT) (sig : Nat → Int32) : Prop := ∀ t, t < 207 → sig t = sumI (fun h => sgl z h t) (sn z)
theorem skM_s {z : sT} {t : Nat} : ∀ n, skM z t n = sst z (t % 20) + sumI (fun h => sgl z h t) n
  | 0 => by show sst z (t % 20) = sst z (t % 20) + 0; grind
  | n + 1 => by
    show skM z t n + sgl z n t = sst z (t % 20) + (sumI (fun h => sgl z h t) n + sgl z n t)
    rw [skM_s n]; grind
theorem sumI_0 {f : Nat → Int32} : ∀ n, (∀ h, h < n → f h = 0) → sumI f n = 0
  | 0, _ => rfl
  | n + 1, h => by
    show sumI f n + f n = 0
    rw [sumI_0 n (fun k hk => h k (by omega)), h n (by omega)]; rfl
theorem sumI_eq {f f1 : Nat → Int32} : ∀ n, (∀ h, h < n → f h = f1 h) → sumI f n = sumI f1 n
  | 0, _ => rfl
  | n + 1, h => by
    show sumI f n + f n = sumI f1 n + f1 n
    rw [sumI_eq n (fun k hk => h k (by omega)), h n (by omega)]
theorem sumI_one {f f1 : Nat → Int32} {k : Nat} (h : ∀ j, j ≠ k → f1 j = f j) : ∀ n, k < n → sumI f1 n = sumI f n + (f1 k - f k)
  | 0, hk => absurd hk (Nat.not_lt_zero k)
  | n + 1, hk => by
    show sumI f1 n + f1 n = sumI f n + f n + (f1 k - f k)
    by_cases c : k = n
    · subst c
      rw [sumI_eq k (fun j hj => h j (by omega))]; grind
    · rw [sumI_one h n (by omega), h n (Ne.symm c)]; grind
theorem SG.K {z : sT} {sig : Nat → Int32} (hV : VS z) (h : SG z sig) : atF (sst z) sig = kM z := by
  funext t
  show _ = skM z t (sn z)
  rw [skM_s]
  unfold atF
  by_cases c : t < 207
  · rw [if_pos c, h t c]; grind
  · rw [if_neg c, sumI_0]
    · grind
    · intro k hk
      have hb := hV.h hk
      have hd := hV.hL hk
      have hL := hV.L
      have h2 := Nat.mul_le_mul hL.2 hb.2.2.2
      unfold sgl
      rw [if_neg (by omega)]; rfl
theorem cW_sub {a b : Int32} {z : sT} {k w t : Nat} : cW (a - b) z k w t = cW a z k w t - cW b z k w t := by
  unfold cW
  split
  · grind
  · rfl
theorem sumI_sub {f f1 f2 : Nat → Int32} (e : ∀ w, f w = f1 w - f2 w) : ∀ n, sumI f n = sumI f1 n - sumI f2 n
  | 0 => by show (0 : Int32) = 0 - 0; decide
  | n + 1 => by
    show sumI f n + f n = sumI f1 n + f1 n - (sumI f2 n + f2 n)
    rw [sumI_sub e n, e n]; grind
/-- the change of one hill's signals -/
theorem SG.one {z z1 : sT} {sig sig1 : Nat → Int32} {k : Nat} (h : SG z sig) (hn : sn z1 = sn z) (hk : k < sn z) (ho : ∀ j t, j ≠ k → sgl z1 j t = sgl z j t) (hs : ∀ t, sig1 t = sig t + (sgl z1 k t - sgl z k t)) : SG z1 sig1 := by
  intro t ht
  rw [hs t, h t ht, hn, sumI_one (f := fun h => sgl z h t) (fun j hj => ho j t hj) (sn z) hk]
theorem sgl_of {z z1 : sT} {j t : Nat} (e1 : sL z1 = sL z) (e2 : scd z1 j = scd z j) (e3 : ssr z1 j = ssr z j) (e4 : sdl z1 j = sdl z j) (e5 : ssd z1 j = ssd z j) (e6 : swd z1 j = swd z j) : sgl z1 j t = sgl z j t := by
  unfold sgl
  rw [e1, e2, e3, e4, e5, e6]
theorem SG.sr {z : sT} {sig : Nat → Int32} {k s_ : Nat} (hV : VS z) (h : SG z sig) (hk : k < sn z) : SG (zsr z k s_) (adWs sig (nI s_ - nI (ssr z k)) z k (ssd z k)) := by
  refine h.one rfl hk (fun j t hj => sgl_of rfl rfl (upN_n hj) rfl rfl rfl) (fun t => ?_)
  have e : ssr (zsr z k s_) k = s_ := upN_s
  rw [adWs_c, sumI_sub (fun w => cW_sub) (ssd z k), sgl_c (z := zsr z k s_) hV.L.1, sgl_c hV.L.1, e]
  rfl
theorem SG.dl {z : sT} {sig : Nat → Int32} {k d_ : Nat} (hV : VS z) (h : SG z sig) (hk : k < sn z) : SG (zdl z k d_) (adWs (adWs sig (-nI (ssr z k)) z k (ssd z k)) (nI (ssr z k)) (zdl z k d_) k (ssd z k)) := by
  refine h.one rfl hk (fun j t hj => sgl_of rfl rfl rfl (upN_n hj) rfl rfl) (fun t => ?_)
  rw [adWs_c, adWs_c, sumI_neg (fun w => cW_neg) (ssd z k), sgl_c (z := zdl z k d_) hV.L.1, sgl_c (z := z) hV.L.1]
  show sig t + -sumI (fun w => cW (nI (ssr z k)) z k w t) (ssd z k) + sumI (fun w => cW (nI (ssr z k)) (zdl z k d_) k w t) (ssd z k) = sig t + (sumI (fun w => cW (nI (ssr z k)) (zdl z k d_) k w t) (ssd z k) - sumI (fun w => cW (nI (ssr z k)) z k w t) (ssd z k))
  grind
theorem SG.hush {z : sT} {sig : Nat → Int32} {k : Nat} (hV : VS z) (h : SG z sig) (hk : k < sn z) : SG (zsd z k 0) (adWs sig (-nI (ssr z k)) z k (ssd z k)) := by
  refine h.one rfl hk (fun j t hj => sgl_of rfl rfl rfl rfl (upN_n hj) rfl) (fun t => ?_)
  have e : ssd (zsd z k 0) k = 0 := upN_s
  rw [adWs_c, sumI_neg (fun w => cW_neg) (ssd z k), sgl_c (z := zsd z k 0) hV.L.1, sgl_c (z := z) hV.L.1, e]
  show sig t + -sumI (fun w => cW (nI (ssr z k)) z k w t) (ssd z k) = sig t + (0 - sumI (fun w => cW (nI (ssr z k)) z k w t) (ssd z k))
  grind
theorem SG.say {z : sT} {sig : Nat → Int32} {k : Nat} {x : Int32} (hV : VS z) (h : SG z sig) (hk : k < sn z) : SG (zsay z k x) (adW sig (nI (ssr z k)) (zsay z k x) k (ssd z k) (sL z)) := by
  refine h.one rfl hk (fun j t hj => sgl_of rfl rfl rfl rfl (upN_n hj) (if_neg hj)) (fun t => ?_)
  have e : ssd (zsay z k x) k = ssd z k + 1 := upN_s
  have e2 : ∀ w, w < ssd z k → cW (nI (ssr z k)) (zsay z k x) k w t = cW (nI (ssr z k)) z k w t := by
    intro w hw
    have e3 : swd (zsay z k x) k w = swd z k w := by
      show (if k = k then upd (swd z k) (ssd z k) x else swd z k) w = _
      rw [if_pos rfl]
      show (if w = ssd z k then x else swd z k w) = _
      rw [if_neg (by omega)]
    unfold cW
    rw [e3]
  rw [adW_c (z := zsay z k x), sgl_c (z := zsay z k x) hV.L.1, sgl_c (z := z) hV.L.1, e]
  show sig t + cW (nI (ssr z k)) (zsay z k x) k (ssd z k) t = sig t + (sumI (fun w => cW (nI (ssr z k)) (zsay z k x) k w t) (ssd z k) + cW (nI (ssr z k)) (zsay z k x) k (ssd z k) t - sumI (fun w => cW (nI (ssr z k)) z k w t) (ssd z k))
  rw [sumI_eq (ssd z k) e2]
  grind
theorem SG.cl {z : sT} {sig : Nat → Int32} {L : Nat} : SG (zcl z L) (fillF sig (nI 0) 207) := by
  intro t ht
  show fillF sig (nI 0) 207 t = 0
  unfold fillF
  rw [if_pos ht]; rfl
theorem SG.hl {z : sT} {sig : Nat → Int32} {a s_ : Nat} (h : SG z sig) : SG (zhl z a s_) sig := by
  intro t ht
  rw [h t ht]
  show _ = sumI (fun h => sgl (zhl z a s_) h t) (sn z) + sgl (zhl z a s_) (sn z) t
  have e : sgl (zhl z a s_) (sn z) t = 0 := by
    have e1 : ssd (zhl z a s_) (sn z) = 0 := upN_s
    unfold sgl
    rw [e1, if_neg (by omega)]; rfl
  rw [e, sumI_eq (sn z) (fun j hj => (sgl_of (z1 := zhl z a s_) (z := z) rfl (upN_n (by omega)) (upN_n (by omega)) (upN_n (by omega)) (upN_n (by omega)) (if_neg (by omega))).symm)]
  grind
theorem RS.hush {z : sT} {sa : Nat → Int32} {k : Nat} (h : RS z sa) : RS (zsd z k 0) sa := by
  intro j hj w hw
  by_cases c : j = k
  · subst c
    have e : ssd (zsd z j 0) j = 0 := upN_s
    rw [e] at hw; omega
  · have e : ssd (zsd z k 0) j = ssd z j := upN_n c
    rw [e] at hw
    exact h j hj w hw
theorem RS.say {z : sT} {sa : Nat → Int32} {k : Nat} {x : Int32} (hV : VS z) (hsd : ssd z k < 12) (h : RS z sa) : RS (zsay z k x) (upd sa (12 * k + ssd z k) x) := by
  intro j hj w hw
  show (if 12 * j + w = 12 * k + ssd z k then x else sa (12 * j + w)) = (if j = k then upd (swd z k) (ssd z k) x else swd z j) w
  have hj : j < sn z := hj
  by_cases c : j = k
  · subst c
    have e : ssd (zsay z j x) j = ssd z j + 1 := upN_s
    rw [e] at hw
    rw [if_pos rfl]
    show _ = if w = ssd z j then x else swd z j w
    by_cases c2 : w = ssd z j
    · rw [if_pos (by omega), if_pos c2]
    · rw [if_neg (by omega), if_neg c2]
      exact h j hj w (by omega)
  · have e : ssd (zsay z k x) j = ssd z j := upN_n c
    rw [e] at hw
    have h12 := (hV.h hj).2.2.2
    rw [if_neg c, if_neg (by omega)]
    exact h j hj w hw
theorem RS.hl {z : sT} {sa : Nat → Int32} {a s_ : Nat} (h : RS z sa) : RS (zhl z a s_) sa := by
  intro j hj w hw
  have hj : j < sn z + 1 := hj
  by_cases c : j = sn z
  · subst c
    have e : ssd (zhl z a s_) (sn z) = 0 := upN_s
    rw [e] at hw; omega
  · have e : ssd (zhl z a s_) j = ssd z j := upN_n c
    rw [e] at hw
    show _ = (if j = sn z then (fun _ => 0) else swd z j) w
    rw [if_neg c]
    exact h j (by omega) w hw
/-- all that holds between two calls -/
def IV (z : sT) (M : Nat) (sig sa : Nat → Int32) : Prop := VS z ∧ wM M (sn z) ∧ RS z sa ∧ SG z sig
section IVs
variable {z : sT} {M : Nat} {sig sa : Nat → Int32}
theorem IV.K (h : IV z M sig sa) : atF (sst z) sig = kM z := h.2.2.2.K h.1
theorem IV.init : IV z0 0 (fun _ => 0) (fun _ => 0) := ⟨VS.init, Or.inr ⟨rfl, rfl⟩, fun j hj => absurd hj (Nat.not_lt_zero j), fun _ _ => rfl⟩
theorem IV.cl (h : IV z M sig sa) {q : Nat} (hq : q ≤ 4) : IV (zcl z (2 ^ q)) (min M 1) (fillF sig (nI 0) 207) sa := ⟨h.1.cl hq, wM_min h.2.1, fun j hj => absurd hj (Nat.not_lt_zero j), SG.cl⟩
theorem IV.hl (h : IV z M sig sa) {a s_ : Nat} (hn : sn z < 8) (ha : a < sL z) (h1 : 1 ≤ s_) (h2 : s_ ≤ 9) : IV (zhl z a s_) (2 * sn z + 3) sig sa := ⟨h.1.hl hn ha h1 h2, Or.inl rfl, h.2.2.1.hl, h.2.2.2.hl⟩
theorem IV.say (h : IV z M sig sa) {k y : Nat} (hk : k < sn z) (hsd : ssd z k < 12) : IV (zsay z k (sayX y)) M (adW sig (nI (ssr z k)) (zsay z k (sayX y)) k (ssd z k) (sL z)) (upd sa (12 * k + ssd z k) (sayX y)) := ⟨h.1.say hsd (sayX_pm y), h.2.1, h.2.2.1.say h.1 hsd, h.2.2.2.say h.1 hk⟩
theorem IV.hush (h : IV z M sig sa) {k : Nat} (hk : k < sn z) : IV (zsd z k 0) M (adWs sig (-nI (ssr z k)) z k (ssd z k)) sa := ⟨h.1.hush, h.2.1, h.2.2.1.hush, h.2.2.2.hush h.1 hk⟩
theorem IV.dl (h : IV z M sig sa) {k d_ : Nat} (hk : k < sn z) (hd : d_ < sL z) : IV (zdl z k d_) M (adWs (adWs sig (-nI (ssr z k)) z k (ssd z k)) (nI (ssr z k)) (zdl z k d_) k (ssd z k)) sa := ⟨h.1.dl hd, h.2.1, h.2.2.1, h.2.2.2.dl h.1 hk⟩
theorem IV.sr (h : IV z M sig sa) {k s_ : Nat} (hk : k < sn z) (h1 : 1 ≤ s_) (h2 : s_ ≤ 9) : IV (zsr z k s_) M (adWs sig (nI s_ - nI (ssr z k)) z k (ssd z k)) sa := ⟨h.1.sr h1 h2, h.2.1, h.2.2.1, h.2.2.2.sr h.1 hk⟩
theorem IV.st (h : IV z M sig sa) {p : Nat} {v : Int32} (hv : inB v (-99) 99) : IV (zst z p v) M sig sa := ⟨h.1.st hv, h.2.1, h.2.2.1, h.2.2.2⟩
theorem IV.ww (h : IV z M sig sa) {k s_ : Nat} (hk : k < sn z) (h1 : 1 ≤ s_) (h2 : s_ ≤ 9) : wwF z sig k s_ = wwM z k s_ := by
  have e := (h.sr hk h1 h2).K
  show allW z (atF (sst z) (adWs sig (nI s_ - nI (ssr z k)) z k (ssd z k))) (sn z) = allW (zsr z k s_) (kM (zsr z k s_)) (sn z)
  rw [← e]; rfl
theorem tuS_eq {f f1 : Nat → Nat} {N : Nat} (h : ∀ s, 1 ≤ s → s ≤ N + 1 → f s = f1 s) : ∀ n, n ≤ N → tuS f n = tuS f1 n
  | 0, _ => rfl
  | n + 1, hn => by
    have h1 := tuS_in f1 n
    rw [tuS, tuS, tuS_eq h n (by omega), h (n + 2) (by omega) (by omega), h (tuS f1 n) (by omega) (by omega)]
theorem IV.tu (h : IV z M sig sa) {k : Nat} (hk : k < sn z) : tuS (wwF z sig k) 8 = tuS (wwM z k) 8 := tuS_eq (N := 8) (fun s h1 h2 => h.ww hk h1 (by omega)) 8 (by omega)
theorem IV.bd (h : IV z M sig sa) (t : Nat) : bd (atF (sst z) sig t) 171 := by rw [h.K]; exact bd_kM h.1 t
end IVs
