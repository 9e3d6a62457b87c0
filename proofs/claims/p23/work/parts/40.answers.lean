/-! ===== the answers, by the sky of the document; the run up to the checks ===== -/
theorem k_sky {l : Launch} {g : gT} {ad : Nat → Nat} {mc : Int32} {M : Nat} {sig : Nat → Int32} {z : sT} (hI : IW z M sig) {t : Nat} (ht : t < 1000) : RO l yX3_sky wsX3_sky ({ frames := 1, cells := 0, slots := 0, locals := 22 } : Room) [.ref (ad 0), .int (nI t)] g (fun H => va_P g.1 vwCl (wC g ad mc M sig z) H) (some (.int (kM z t))) := by
  have h := c_X3_sky (l := l) (g := g) (ad := ad) (mc := mc) (sig := sig) hI.M hI.V ht
  rw [hI.K] at h
  exact h
theorem k_hear {l : Launch} {g : gT} {ad : Nat → Nat} {mc : Int32} {M : Nat} {sig : Nat → Int32} {z : sT} (hI : IW z M sig) {a t : Nat} (ha : a < sL z) (ht : t < 1000) : RO l yX3_hear wsX3_hear ({ frames := 3, cells := 0, slots := 0, locals := 66 } : Room) [.ref (ad 0), .int (nI a), .int (nI t)] g (fun H => va_P g.1 vwCl (wC g ad mc M sig z) H) (some (.int (hearF (sL z) (kM z) a t))) := by
  have h := c_X3_hear (l := l) (g := g) (ad := ad) (mc := mc) (sig := sig) hI.M hI.V ha ht
  rw [hI.K] at h
  exact h
theorem k_word0 {l : Launch} {g : gT} {ad : Nat → Nat} {mc : Int32} {M : Nat} {sig : Nat → Int32} {z : sT} (hI : IW z M sig) {k w : Nat} (hk : k < sn z) (hw : w < ssd z k) : RO l yX3_word wsX3_word ({ frames := 4, cells := 0, slots := 0, locals := 88 } : Room) [.ref (ad 0), .int (nI k), .int (nI w), .int (nI 0)] g (fun H => va_P g.1 vwCl (wC g ad mc M sig z) H) (some (.int (swd z k w))) := by
  have h := c_X3_word (l := l) (g := g) (ad := ad) (mc := mc) (sig := sig) hI.M hI.V hk hw (q := 0) (by decide)
  rw [hI.K] at h
  exact h
theorem k_word1 {l : Launch} {g : gT} {ad : Nat → Nat} {mc : Int32} {M : Nat} {sig : Nat → Int32} {z : sT} (hI : IW z M sig) {k w : Nat} (hk : k < sn z) (hw : w < ssd z k) : RO l yX3_word wsX3_word ({ frames := 4, cells := 0, slots := 0, locals := 88 } : Room) [.ref (ad 0), .int (nI k), .int (nI w), .int (nI 1)] g (fun H => va_P g.1 vwCl (wC g ad mc M sig z) H) (some (.int (hearF (sL z) (kM z) (scd z k) (w * sL z + sdl z k)))) := by
  have h := c_X3_word (l := l) (g := g) (ad := ad) (mc := mc) (sig := sig) hI.M hI.V hk hw (q := 1) (by decide)
  rw [hI.K] at h
  exact h
theorem k_word2 {l : Launch} {g : gT} {ad : Nat → Nat} {mc : Int32} {M : Nat} {sig : Nat → Int32} {z : sT} (hI : IW z M sig) {k w : Nat} (hk : k < sn z) (hw : w < ssd z k) : RO l yX3_word wsX3_word ({ frames := 4, cells := 0, slots := 0, locals := 88 } : Room) [.ref (ad 0), .int (nI k), .int (nI w), .int (nI 2)] g (fun H => va_P g.1 vwCl (wC g ad mc M sig z) H) (some (.int (nI (wrC (hearF (sL z) (kM z) (scd z k) (w * sL z + sdl z k)) (swd z k w))))) := by
  have h := c_X3_word (l := l) (g := g) (ad := ad) (mc := mc) (sig := sig) hI.M hI.V hk hw (q := 2) (by decide)
  rw [hI.K] at h
  exact h
theorem k_about {l : Launch} {g : gT} {ad : Nat → Nat} {mc : Int32} {M : Nat} {sig : Nat → Int32} {z : sT} (hI : IW z M sig) {k q : Nat} (hk : k < sn z) (hq : q < 7) : RO l yX3_about wsX3_about ({ frames := 5, cells := 0, slots := 0, locals := 112 } : Room) [.ref (ad 0), .int (nI k), .int (nI q)] g (fun H => va_P g.1 vwCl (wC g ad mc M sig z) H) (some (.int (abtV z (kM z) k q))) := by
  have h := c_X3_about (l := l) (g := g) (ad := ad) (mc := mc) (sig := sig) hI.M hI.V hk hq
  rw [hI.K] at h
  exact h
theorem k_about0 {l : Launch} {g : gT} {ad : Nat → Nat} {mc : Int32} {M : Nat} {sig : Nat → Int32} {z : sT} (hI : IW z M sig) {k : Nat} (hk : k < sn z) : RO l yX3_about wsX3_about ({ frames := 5, cells := 0, slots := 0, locals := 112 } : Room) [.ref (ad 0), .int (nI k), .int (nI 0)] g (fun H => va_P g.1 vwCl (wC g ad mc M sig z) H) (some (.int (nI (scd z k)))) := by
  have h := c_X3_about (l := l) (g := g) (ad := ad) (mc := mc) (sig := sig) hI.M hI.V hk (q := 0) (by decide)
  rw [hI.K] at h
  exact h
theorem k_about1 {l : Launch} {g : gT} {ad : Nat → Nat} {mc : Int32} {M : Nat} {sig : Nat → Int32} {z : sT} (hI : IW z M sig) {k : Nat} (hk : k < sn z) : RO l yX3_about wsX3_about ({ frames := 5, cells := 0, slots := 0, locals := 112 } : Room) [.ref (ad 0), .int (nI k), .int (nI 1)] g (fun H => va_P g.1 vwCl (wC g ad mc M sig z) H) (some (.int (nI (ssr z k)))) := by
  have h := c_X3_about (l := l) (g := g) (ad := ad) (mc := mc) (sig := sig) hI.M hI.V hk (q := 1) (by decide)
  rw [hI.K] at h
  exact h
theorem k_about2 {l : Launch} {g : gT} {ad : Nat → Nat} {mc : Int32} {M : Nat} {sig : Nat → Int32} {z : sT} (hI : IW z M sig) {k : Nat} (hk : k < sn z) : RO l yX3_about wsX3_about ({ frames := 5, cells := 0, slots := 0, locals := 112 } : Room) [.ref (ad 0), .int (nI k), .int (nI 2)] g (fun H => va_P g.1 vwCl (wC g ad mc M sig z) H) (some (.int (nI (sdl z k)))) := by
  have h := c_X3_about (l := l) (g := g) (ad := ad) (mc := mc) (sig := sig) hI.M hI.V hk (q := 2) (by decide)
  rw [hI.K] at h
  exact h
theorem k_about3 {l : Launch} {g : gT} {ad : Nat → Nat} {mc : Int32} {M : Nat} {sig : Nat → Int32} {z : sT} (hI : IW z M sig) {k : Nat} (hk : k < sn z) : RO l yX3_about wsX3_about ({ frames := 5, cells := 0, slots := 0, locals := 112 } : Room) [.ref (ad 0), .int (nI k), .int (nI 3)] g (fun H => va_P g.1 vwCl (wC g ad mc M sig z) H) (some (.int (nI (ssd z k)))) := by
  have h := c_X3_about (l := l) (g := g) (ad := ad) (mc := mc) (sig := sig) hI.M hI.V hk (q := 3) (by decide)
  rw [hI.K] at h
  exact h
theorem k_about4 {l : Launch} {g : gT} {ad : Nat → Nat} {mc : Int32} {M : Nat} {sig : Nat → Int32} {z : sT} (hI : IW z M sig) {k : Nat} (hk : k < sn z) : RO l yX3_about wsX3_about ({ frames := 5, cells := 0, slots := 0, locals := 112 } : Room) [.ref (ad 0), .int (nI k), .int (nI 4)] g (fun H => va_P g.1 vwCl (wC g ad mc M sig z) H) (some (.int (nI (wrF (sL z) (kM z) (scd z k) (sdl z k) (swd z k) (ssd z k))))) := by
  have h := c_X3_about (l := l) (g := g) (ad := ad) (mc := mc) (sig := sig) hI.M hI.V hk (q := 4) (by decide)
  rw [hI.K] at h
  exact h
theorem k_about5 {l : Launch} {g : gT} {ad : Nat → Nat} {mc : Int32} {M : Nat} {sig : Nat → Int32} {z : sT} (hI : IW z M sig) {k : Nat} (hk : k < sn z) : RO l yX3_about wsX3_about ({ frames := 5, cells := 0, slots := 0, locals := 112 } : Room) [.ref (ad 0), .int (nI k), .int (nI 5)] g (fun H => va_P g.1 vwCl (wC g ad mc M sig z) H) (some (.int (nI (endF (sL z) (ssd z k) (sdl z k))))) := by
  have h := c_X3_about (l := l) (g := g) (ad := ad) (mc := mc) (sig := sig) hI.M hI.V hk (q := 5) (by decide)
  rw [hI.K] at h
  exact h
theorem k_about6 {l : Launch} {g : gT} {ad : Nat → Nat} {mc : Int32} {M : Nat} {sig : Nat → Int32} {z : sT} (hI : IW z M sig) {k : Nat} (hk : k < sn z) : RO l yX3_about wsX3_about ({ frames := 5, cells := 0, slots := 0, locals := 112 } : Room) [.ref (ad 0), .int (nI k), .int (nI 6)] g (fun H => va_P g.1 vwCl (wC g ad mc M sig z) H) (some (.int (fnF (fun w => hearF (sL z) (kM z) (scd z k) (w * sL z + sdl z k)) (ssd z k)))) := by
  have h := c_X3_about (l := l) (g := g) (ad := ad) (mc := mc) (sig := sig) hI.M hI.V hk (q := 6) (by decide)
  rw [hI.K] at h
  exact h
theorem k_count {l : Launch} {g : gT} {ad : Nat → Nat} {mc : Int32} {M : Nat} {sig : Nat → Int32} {z : sT} (hI : IW z M sig) {q : Nat} (hq : q < 7) : RO l yX3_count wsX3_count ({ frames := 6, cells := 0, slots := 0, locals := 133 } : Room) [.ref (ad 0), .int (nI q)] g (fun H => va_P g.1 vwCl (wC g ad mc M sig z) H) (some (.int (cntV z (kM z) q))) := by
  have h := c_X3_count (l := l) (g := g) (ad := ad) (mc := mc) (sig := sig) hI.M hI.V hq
  rw [hI.K] at h
  exact h
theorem k_count0 {l : Launch} {g : gT} {ad : Nat → Nat} {mc : Int32} {M : Nat} {sig : Nat → Int32} {z : sT} (hI : IW z M sig)  : RO l yX3_count wsX3_count ({ frames := 6, cells := 0, slots := 0, locals := 133 } : Room) [.ref (ad 0), .int (nI 0)] g (fun H => va_P g.1 vwCl (wC g ad mc M sig z) H) (some (.int (nI (sL z)))) := by
  have h := c_X3_count (l := l) (g := g) (ad := ad) (mc := mc) (sig := sig) hI.M hI.V (q := 0) (by decide)
  rw [hI.K] at h
  exact h
theorem k_count1 {l : Launch} {g : gT} {ad : Nat → Nat} {mc : Int32} {M : Nat} {sig : Nat → Int32} {z : sT} (hI : IW z M sig)  : RO l yX3_count wsX3_count ({ frames := 6, cells := 0, slots := 0, locals := 133 } : Room) [.ref (ad 0), .int (nI 1)] g (fun H => va_P g.1 vwCl (wC g ad mc M sig z) H) (some (.int (nI (sn z)))) := by
  have h := c_X3_count (l := l) (g := g) (ad := ad) (mc := mc) (sig := sig) hI.M hI.V (q := 1) (by decide)
  rw [hI.K] at h
  exact h
theorem k_count2 {l : Launch} {g : gT} {ad : Nat → Nat} {mc : Int32} {M : Nat} {sig : Nat → Int32} {z : sT} (hI : IW z M sig)  : RO l yX3_count wsX3_count ({ frames := 6, cells := 0, slots := 0, locals := 133 } : Room) [.ref (ad 0), .int (nI 2)] g (fun H => va_P g.1 vwCl (wC g ad mc M sig z) H) (some (.int (nI (sumN (ssd z) (sn z))))) := by
  have h := c_X3_count (l := l) (g := g) (ad := ad) (mc := mc) (sig := sig) hI.M hI.V (q := 2) (by decide)
  rw [hI.K] at h
  exact h
theorem k_count3 {l : Launch} {g : gT} {ad : Nat → Nat} {mc : Int32} {M : Nat} {sig : Nat → Int32} {z : sT} (hI : IW z M sig)  : RO l yX3_count wsX3_count ({ frames := 6, cells := 0, slots := 0, locals := 133 } : Room) [.ref (ad 0), .int (nI 3)] g (fun H => va_P g.1 vwCl (wC g ad mc M sig z) H) (some (.int (nI (allW z (kM z) (sn z))))) := by
  have h := c_X3_count (l := l) (g := g) (ad := ad) (mc := mc) (sig := sig) hI.M hI.V (q := 3) (by decide)
  rw [hI.K] at h
  exact h
theorem k_count4 {l : Launch} {g : gT} {ad : Nat → Nat} {mc : Int32} {M : Nat} {sig : Nat → Int32} {z : sT} (hI : IW z M sig)  : RO l yX3_count wsX3_count ({ frames := 6, cells := 0, slots := 0, locals := 133 } : Room) [.ref (ad 0), .int (nI 4)] g (fun H => va_P g.1 vwCl (wC g ad mc M sig z) H) (some (.int (nI (endA z (sn z))))) := by
  have h := c_X3_count (l := l) (g := g) (ad := ad) (mc := mc) (sig := sig) hI.M hI.V (q := 4) (by decide)
  rw [hI.K] at h
  exact h
theorem k_count5 {l : Launch} {g : gT} {ad : Nat → Nat} {mc : Int32} {M : Nat} {sig : Nat → Int32} {z : sT} (hI : IW z M sig)  : RO l yX3_count wsX3_count ({ frames := 6, cells := 0, slots := 0, locals := 133 } : Room) [.ref (ad 0), .int (nI 5)] g (fun H => va_P g.1 vwCl (wC g ad mc M sig z) H) (some (.int (hiF (kM z) (endA z (sn z))))) := by
  have h := c_X3_count (l := l) (g := g) (ad := ad) (mc := mc) (sig := sig) hI.M hI.V (q := 5) (by decide)
  rw [hI.K] at h
  exact h
theorem k_count6 {l : Launch} {g : gT} {ad : Nat → Nat} {mc : Int32} {M : Nat} {sig : Nat → Int32} {z : sT} (hI : IW z M sig)  : RO l yX3_count wsX3_count ({ frames := 6, cells := 0, slots := 0, locals := 133 } : Room) [.ref (ad 0), .int (nI 6)] g (fun H => va_P g.1 vwCl (wC g ad mc M sig z) H) (some (.int (nI (freeN z)))) := by
  have h := c_X3_count (l := l) (g := g) (ad := ad) (mc := mc) (sig := sig) hI.M hI.V (q := 6) (by decide)
  rw [hI.K] at h
  exact h
theorem k_digest {l : Launch} {g : gT} {ad : Nat → Nat} {mc : Int32} {M : Nat} {sig : Nat → Int32} {z : sT} (hI : IW z M sig)  : RO l yX3_digest wsX3_digest ({ frames := 7, cells := 0, slots := 0, locals := 163 } : Room) [.ref (ad 0)] g (fun H => va_P g.1 vwCl (wC g ad mc M sig z) H) (some (.long (dgA z (kM z)))) := by
  have h := c_X3_digest (l := l) (g := g) (ad := ad) (mc := mc) (sig := sig) hI.M hI.V 
  rw [hI.K] at h
  exact h
theorem k_mean {l : Launch} {g : gT} {ad : Nat → Nat} {mc : Int32} {M : Nat} {sig : Nat → Int32} {z : sT} (hI : IW z M sig)  : RO l yX3_mean wsX3_mean ({ frames := 4, cells := 0, slots := 0, locals := 86 } : Room) [.ref (ad 0)] g (fun H => va_P g.1 vwCl (wC g ad mc M sig z) H) (some (.double (mnV z (kM z)))) := by
  have h := c_X3_mean (l := l) (g := g) (ad := ad) (mc := mc) (sig := sig) hI.M hI.V (fun t => by rw [hI.K]; exact bd_kM hI.V t)
  rw [hI.K] at h
  exact h
theorem k_alike {l : Launch} {g : gT} {ad : Nat → Nat} {mc : Int32} {M : Nat} {sig : Nat → Int32} {z : sT} (hI : IW z M sig) {a b s_ : Nat} (ha : a < sL z) (hb : b < sL z) (hs : s_ < sL z) : RO l yX3_alike wsX3_alike ({ frames := 3, cells := 0, slots := 0, locals := 68 } : Room) [.ref (ad 0), .int (nI a), .int (nI b), .int (nI s_)] g (fun H => va_P g.1 vwCl (wC g ad mc M sig z) H) (some (.int (likF (sL z) a b s_))) := by
  have h := c_X3_alike (l := l) (g := g) (ad := ad) (mc := mc) (sig := sig) hI.M hI.V ha hb hs
  exact h
theorem k_shift {l : Launch} {g : gT} {ad : Nat → Nat} {mc : Int32} {M : Nat} {sig : Nat → Int32} {z : sT} (hI : IW z M sig) {a b : Nat} (ha : a < sL z) (hb : b < sL z) : RO l yX3_shift wsX3_shift ({ frames := 3, cells := 0, slots := 0, locals := 68 } : Room) [.ref (ad 0), .int (nI a), .int (nI b)] g (fun H => va_P g.1 vwCl (wC g ad mc M sig z) H) (some (.int (nI (shB (sL z) a b (sL z - 1))))) := by
  have h := c_X3_shift (l := l) (g := g) (ad := ad) (mc := mc) (sig := sig) hI.M hI.V ha hb
  exact h
theorem k_advise {l : Launch} {g : gT} {ad : Nat → Nat} {mc : Int32} {M : Nat} {sig : Nat → Int32} {z : sT} (hI : IW z M sig) {b : Nat} (hb : b < sL z) : RO l yX3_advise wsX3_advise ({ frames := 4, cells := 0, slots := 0, locals := 94 } : Room) [.ref (ad 0), .int (nI b)] g (fun H => va_P g.1 vwCl (wC g ad mc M sig z) H) (some (.int ((advS z b (sL z)).1))) := by
  have h := c_X3_advise (l := l) (g := g) (ad := ad) (mc := mc) (sig := sig) hI.M hI.V hb
  exact h
theorem IW.ww {z : sT} {M : Nat} {sig : Nat → Int32} (h : IW z M sig) {k s_ : Nat} (hk : k < sn z) (h1 : 1 ≤ s_) (h2 : s_ ≤ 9) : wwF z sig k s_ = wwM z k s_ := by obtain ⟨sa, h⟩ := h; exact h.ww hk h1 h2
theorem IW.tu {z : sT} {M : Nat} {sig : Nat → Int32} (h : IW z M sig) {k : Nat} (hk : k < sn z) : tuS (wwF z sig k) 8 = tuS (wwM z k) 8 := by obtain ⟨sa, h⟩ := h; exact h.tu hk
theorem k_would {l : Launch} {g : gT} {ad : Nat → Nat} {mc : Int32} {M : Nat} {sig : Nat → Int32} {z : sT} (hI : IW z M sig) {sz : Nat} {k s_ : Nat} (hk : k < sn z) (h1 : 1 ≤ s_) (h9 : s_ ≤ 9) : WR (S := Unit) l yX3_would wsX3_would ({ frames := 7, cells := 0, slots := 0, locals := 157 } : Room) [.ref (ad 0), .int (nI k), .int (nI s_)] g (wC g ad mc M sig z) sz (fun _ : Unit => wC g ad mc M sig z) (fun _ => some (.int (nI (wwM z k s_)))) 0 0 := by
  have h := c_X3_would (l := l) (g := g) (sz := sz) (ad := ad) (mc := mc) (sig := sig) hI.M hI.V hk h1 h9
  rw [hI.ww hk h1 h9] at h
  exact h
theorem k_tune {l : Launch} {g : gT} {ad : Nat → Nat} {mc : Int32} {M : Nat} {sig : Nat → Int32} {z : sT} (hI : IW z M sig) {sz : Nat} {k : Nat} (hk : k < sn z) : WR (S := Unit) l yX3_tune wsX3_tune ({ frames := 7, cells := 0, slots := 0, locals := 157 } : Room) [.ref (ad 0), .int (nI k)] g (wC g ad mc M sig z) sz (fun _ : Unit => wC g ad mc M sig z) (fun _ => some (.int (nI (tuS (wwM z k) 8)))) 0 0 := by
  have h := c_X3_tune (l := l) (g := g) (sz := sz) (ad := ad) (mc := mc) (sig := sig) hI.M hI.V hk
  rw [hI.tu hk] at h
  exact h
theorem k_act {l : Launch} (hl0 : l.stackTraces = false) {g : gT} {sz : Nat} {x : Int32} (u : aT) {b0 a0 : Nat} (hu : aO b0 a0 u) : WR (S := {u : aT // aO b0 a0 u}) l yL_act wsL_act ({ frames := 7, cells := 40, slots := 400, locals := 130 } : Room) [.ref a0, .ref b0, .int x] g (wA g u) sz (fun u => wA g u.1) (fun _ => some (.int (nI 1))) 40 400 := by
  obtain ⟨b, ad, mc, M, sig, z⟩ := u
  obtain ⟨h1, h2, hI⟩ := hu
  have h1 : b 0 = b0 := h1
  have h2 : ad 0 = a0 := h2
  subst h1
  subst h2
  exact c_L_act hl0 hI
