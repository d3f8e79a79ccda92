theorem zinv {α β : Type} (f : Nat → α → Nat → Option β) (n : Nat) (I : Nat → α → Prop) (P : Option β → Prop)
    (hz : ∀ fu a, I n a → P (f (fu + 1) a n))
    (hs : ∀ fu a k, k < n → I k a → (∃ a', I (k + 1) a' ∧ f (fu + 1) a k = f fu a' (k + 1)) ∨ P (f (fu + 1) a k)) :
    ∀ d k fu a, k + d = n → d < fu → I k a → P (f fu a k) := by
  intro d
  induction d with
  | zero =>
    intro k fu a hk hf hI
    obtain ⟨g, rfl⟩ : ∃ g, fu = g + 1 := ⟨fu - 1, by omega⟩
    have : k = n := by omega
    subst this
    exact hz g a hI
  | succ d ih =>
    intro k fu a hk hf hI
    obtain ⟨g, rfl⟩ : ∃ g, fu = g + 1 := ⟨fu - 1, by omega⟩
    rcases hs g a k (by omega) hI with ⟨a', h1, h2⟩ | h
    · rw [h2]
      exact ih (k + 1) g a' (by omega) (by omega) h1
    · exact h
theorem zex_succ {P : Nat → Prop} {k : Nat} : (∃ e, e < k + 1 ∧ P e) ↔ (∃ e, e < k ∧ P e) ∨ P k := by
  constructor
  · rintro ⟨e, he, hp⟩
    by_cases h : e = k
    · subst h; exact Or.inr hp
    · exact Or.inl ⟨e, by omega, hp⟩
  · rintro (⟨e, he, hp⟩ | hp)
    · exact ⟨e, by omega, hp⟩
    · exact ⟨k, by omega, hp⟩
theorem zor_yes {A B c : Prop} (h : c) : (A ∨ (c ∧ B)) ↔ (A ∨ B) := ⟨fun q => q.imp id And.right, fun q => q.imp id (fun z => ⟨h, z⟩)⟩
theorem zor_no {A B c : Prop} (h : ¬ c) : (A ∨ (c ∧ B)) ↔ A := ⟨fun q => q.elim id (fun z => absurd z.1 h), Or.inl⟩
theorem zex_zero {P : Nat → Prop} : ¬ ∃ e, e < 0 ∧ P e := fun ⟨_, h, _⟩ => absurd h (Nat.not_lt_zero _)
abbrev zE : Type := Nat × (Nat → Nat) × (Nat → Nat) × (Nat → Nat) × (Nat → Nat) × (Nat → Bool) × (Nat → Int64) × (Nat → Int64)
def en (D : zE) : Nat := D.1
def esi (D : zE) : Nat → Nat := D.2.1
def enu (D : zE) : Nat → Nat := D.2.2.1
def eix (D : zE) : Nat → Nat := D.2.2.2.1
def ech (D : zE) : Nat → Nat := D.2.2.2.2.1
def ein (D : zE) : Nat → Bool := D.2.2.2.2.2.1
def ean (D : zE) : Nat → Int64 := D.2.2.2.2.2.2.1
def epa (D : zE) : Nat → Int64 := D.2.2.2.2.2.2.2
def ecnt (D : zE) (r : Nat) : Nat → Nat
  | 0 => 0
  | k + 1 => ecnt D r k + if esi D k = r then 1 else 0
theorem ecnt_le (D : zE) (r k : Nat) : ecnt D r k ≤ k := by
  induction k with
  | zero => exact Nat.le_refl 0
  | succ k ih => unfold ecnt; split <;> omega
theorem ecnt_mono (D : zE) (r : Nat) {a b : Nat} (h : a ≤ b) : ecnt D r a ≤ ecnt D r b := by
  obtain ⟨d, rfl⟩ := Nat.exists_eq_add_of_le h
  clear h
  induction d with
  | zero => exact Nat.le_refl _
  | succ d ih =>
    show _ ≤ ecnt D r (a + d) + _
    omega
def zbel (n : Nat) (s : Int64) : Prop := ∀ x, zm s x → x < n
def zcl (D : zE) (s : Int64) : Prop := ∀ e, zm s e → ∀ x, zm (ean D e) x → zm s x
def eOK (D : zE) : Prop :=
  en D ≤ 40 ∧ (∀ e, e < en D → esi D e < 3) ∧ (∀ e, e < en D → enu D e = ecnt D (esi D e) e) ∧
  (∀ e, e < en D → zbel e (ean D e)) ∧ (∀ e, e < en D → zcl D (ean D e)) ∧
  (∀ e, e < en D → ∀ x, zm (epa D e) x ↔ zm (ean D e) x ∧ ¬ ∃ f, zm (ean D e) f ∧ zm (ean D f) x) ∧
  (∀ e, e < en D → eix D e ≤ 40) ∧ (∀ e, e < en D → ech D e ≤ 126) ∧ (∀ e f, e < f → f < en D → esi D e = esi D f → zm (ean D f) e)
theorem eOK.n {D : zE} (h : eOK D) : en D ≤ 40 := h.1
theorem eOK.si {D : zE} (h : eOK D) {e : Nat} (he : e < en D) : esi D e < 3 := h.2.1 e he
theorem eOK.nu {D : zE} (h : eOK D) {e : Nat} (he : e < en D) : enu D e = ecnt D (esi D e) e := h.2.2.1 e he
theorem eOK.nu40 {D : zE} (h : eOK D) {e : Nat} (he : e < en D) : enu D e < 40 := by
  rw [h.nu he]
  have := ecnt_le D (esi D e) e
  have := h.n
  omega
theorem eOK.sub {D : zE} (h : eOK D) {e : Nat} (he : e < en D) : zbel e (ean D e) := h.2.2.2.1 e he
theorem eOK.cl {D : zE} (h : eOK D) {e : Nat} (he : e < en D) : zcl D (ean D e) := h.2.2.2.2.1 e he
theorem eOK.pa {D : zE} (h : eOK D) {e : Nat} (he : e < en D) : ∀ x, zm (epa D e) x ↔ zm (ean D e) x ∧ ¬ ∃ f, zm (ean D e) f ∧ zm (ean D f) x := h.2.2.2.2.2.1 e he
theorem eOK.ix {D : zE} (h : eOK D) {e : Nat} (he : e < en D) : eix D e ≤ 40 := h.2.2.2.2.2.2.1 e he
theorem eOK.ch {D : zE} (h : eOK D) {e : Nat} (he : e < en D) : ech D e ≤ 126 := h.2.2.2.2.2.2.2.1 e he
theorem eOK.own {D : zE} (h : eOK D) {e f : Nat} (hef : e < f) (hf : f < en D) (hs : esi D e = esi D f) : zm (ean D f) e := h.2.2.2.2.2.2.2.2 e f hef hf hs
theorem eOK.paan {D : zE} (h : eOK D) {e : Nat} (he : e < en D) {x : Nat} (hx : zm (epa D e) x) : zm (ean D e) x := ((h.pa he x).mp hx).1
def cE (D : zE) (u : xS) : Prop :=
  xs_i u 0 = zi (en D) ∧ (∀ e, e < en D → xs_I u 0 e = zi (esi D e)) ∧ (∀ e, e < en D → xs_I u 1 e = zi (enu D e)) ∧
  (∀ e, e < en D → xs_I u 2 e = zi (eix D e)) ∧ (∀ e, e < en D → xs_I u 3 e = if ein D e then zi (ech D e) else -1) ∧
  (∀ e, e < en D → xs_L u 0 e = epa D e) ∧ (∀ e, e < en D → xs_L u 1 e = ean D e) ∧
  (∀ e, e < en D → xs_I u 4 (esi D e * 40 + enu D e) = zi e) ∧ (∀ r, r < 3 → xs_I u 5 r = zi (ecnt D r (en D)))
theorem cE.n {D : zE} {u : xS} (h : cE D u) : xs_i u 0 = zi (en D) := h.1
theorem cE.si {D : zE} {u : xS} (h : cE D u) {e : Nat} (he : e < en D) : xs_I u 0 e = zi (esi D e) := h.2.1 e he
theorem cE.nu {D : zE} {u : xS} (h : cE D u) {e : Nat} (he : e < en D) : xs_I u 1 e = zi (enu D e) := h.2.2.1 e he
theorem cE.ix {D : zE} {u : xS} (h : cE D u) {e : Nat} (he : e < en D) : xs_I u 2 e = zi (eix D e) := h.2.2.2.1 e he
theorem cE.ch {D : zE} {u : xS} (h : cE D u) {e : Nat} (he : e < en D) : xs_I u 3 e = if ein D e then zi (ech D e) else -1 := h.2.2.2.2.1 e he
theorem cE.pa {D : zE} {u : xS} (h : cE D u) {e : Nat} (he : e < en D) : xs_L u 0 e = epa D e := h.2.2.2.2.2.1 e he
theorem cE.an {D : zE} {u : xS} (h : cE D u) {e : Nat} (he : e < en D) : xs_L u 1 e = ean D e := h.2.2.2.2.2.2.1 e he
theorem cE.sl {D : zE} {u : xS} (h : cE D u) {e : Nat} (he : e < en D) : xs_I u 4 (esi D e * 40 + enu D e) = zi e := h.2.2.2.2.2.2.2.1 e he
theorem cE.ma {D : zE} {u : xS} (h : cE D u) {r : Nat} (hr : r < 3) : xs_I u 5 r = zi (ecnt D r (en D)) := h.2.2.2.2.2.2.2.2 r hr
def mE (D : zE) (v : xS) : Prop :=
  xs_i v 0 = zi (en D) ∧ (∀ e, e < en D → xs_I v 0 e = zi (esi D e)) ∧ (∀ e, e < en D → xs_I v 1 e = zi (enu D e)) ∧
  (∀ e, e < en D → xs_I v 2 e = zb (ein D e)) ∧ (∀ e, e < en D → xs_I v 3 e = zi (eix D e)) ∧
  (∀ e, e < en D → ein D e → xs_I v 4 e = zi (ech D e)) ∧ (∀ e, e < en D → xs_L v 0 e = ean D e) ∧ (∀ e, e < en D → xs_L v 1 e = epa D e)
theorem mE.n {D : zE} {v : xS} (h : mE D v) : xs_i v 0 = zi (en D) := h.1
theorem mE.si {D : zE} {v : xS} (h : mE D v) {e : Nat} (he : e < en D) : xs_I v 0 e = zi (esi D e) := h.2.1 e he
theorem mE.nu {D : zE} {v : xS} (h : mE D v) {e : Nat} (he : e < en D) : xs_I v 1 e = zi (enu D e) := h.2.2.1 e he
theorem mE.ins {D : zE} {v : xS} (h : mE D v) {e : Nat} (he : e < en D) : xs_I v 2 e = zb (ein D e) := h.2.2.2.1 e he
theorem mE.ix {D : zE} {v : xS} (h : mE D v) {e : Nat} (he : e < en D) : xs_I v 3 e = zi (eix D e) := h.2.2.2.2.1 e he
theorem mE.ch {D : zE} {v : xS} (h : mE D v) {e : Nat} (he : e < en D) (hi : ein D e) : xs_I v 4 e = zi (ech D e) := h.2.2.2.2.2.1 e he hi
theorem mE.an {D : zE} {v : xS} (h : mE D v) {e : Nat} (he : e < en D) : xs_L v 0 e = ean D e := h.2.2.2.2.2.2.1 e he
theorem mE.pa {D : zE} {v : xS} (h : mE D v) {e : Nat} (he : e < en D) : xs_L v 1 e = epa D e := h.2.2.2.2.2.2.2 e he
theorem zle_n {a b : Nat} (ha : a ≤ 1000) (hb : b ≤ 1000) (h : b ≤ a) : zi b ≤ zi a := (zle (by omega) (by omega)).mpr h
theorem zle_nn {a b : Nat} (ha : a ≤ 1000) (hb : b ≤ 1000) (h : a < b) : ¬ zi b ≤ zi a := fun q => absurd ((zle (by omega) (by omega)).mp q) (by omega)
theorem z_parentsOfAll {D : zE} {u : xS} (hO : eOK D) (hu : cE D u) (s : Int64) : ∃ r, m_History_parentsOfAll s u = some r ∧ ∀ x, zm r x ↔ ∃ e, e < en D ∧ zm s e ∧ zm (epa D e) x := by
  have hn := hO.n
  refine zinv (fun fu (a : Int64) k => m_History_parentsOfAll_l5 fu s a (zi k) u) (en D) (fun k a => ∀ x, zm a x ↔ ∃ e, e < k ∧ zm s e ∧ zm (epa D e) x) (fun o => ∃ r, o = some r ∧ ∀ x, zm r x ↔ ∃ e, e < en D ∧ zm s e ∧ zm (epa D e) x) ?_ ?_ (en D) 0 xFU 0 (by omega) (by unfold xFU; omega) ?_
  · intro fu a hI
    refine ⟨a, ?_, hI⟩
    show m_History_parentsOfAll_s5 _ _ _ _ _ = _
    unfold m_History_parentsOfAll_s5
    rw [hu.n, if_pos (zle_n (by omega) (by omega) (Nat.le_refl _))]
  · intro fu a k hk hI
    refine Or.inl ?_
    show ∃ a', _ ∧ m_History_parentsOfAll_s5 _ _ _ _ _ = _
    unfold m_History_parentsOfAll_s5
    rw [hu.n, if_neg (zle_nn (by omega) (by omega) hk), zb1 (z_has (by omega)), zsucc]
    by_cases h : zm s k
    · rw [if_neg (fun q => (zb_eq0.mp q) h), zg (zin (by omega) (by omega)), zi_nat (by omega), hu.pa hk]
      exact ⟨_, fun x => by rw [zm_or, hI, zex_succ, zor_yes h], rfl⟩
    · rw [if_pos (zb_eq0.mpr h)]
      exact ⟨_, fun x => by rw [hI, zex_succ, zor_no h], rfl⟩
  · intro x
    exact ⟨fun h => absurd h zm_zero, fun h => absurd h zex_zero⟩
theorem z_withAncestors {D : zE} {u : xS} (hO : eOK D) (hu : cE D u) (s : Int64) : ∃ r, m_History_withAncestors s u = some r ∧ ∀ x, zm r x ↔ zm s x ∨ ∃ e, e < en D ∧ zm s e ∧ zm (ean D e) x := by
  have hn := hO.n
  refine zinv (fun fu (a : Int64) k => m_History_withAncestors_l5 fu s a (zi k) u) (en D) (fun k a => ∀ x, zm a x ↔ zm s x ∨ ∃ e, e < k ∧ zm s e ∧ zm (ean D e) x) (fun o => ∃ r, o = some r ∧ ∀ x, zm r x ↔ zm s x ∨ ∃ e, e < en D ∧ zm s e ∧ zm (ean D e) x) ?_ ?_ (en D) 0 xFU s (by omega) (by unfold xFU; omega) ?_
  · intro fu a hI
    refine ⟨a, ?_, hI⟩
    show m_History_withAncestors_s5 _ _ _ _ _ = _
    unfold m_History_withAncestors_s5
    rw [hu.n, if_pos (zle_n (by omega) (by omega) (Nat.le_refl _))]
  · intro fu a k hk hI
    refine Or.inl ?_
    show ∃ a', _ ∧ m_History_withAncestors_s5 _ _ _ _ _ = _
    unfold m_History_withAncestors_s5
    rw [hu.n, if_neg (zle_nn (by omega) (by omega) hk), zb1 (z_has (by omega)), zsucc]
    by_cases h : zm s k
    · rw [if_neg (fun q => (zb_eq0.mp q) h), zg (zin (by omega) (by omega)), zi_nat (by omega), hu.an hk]
      exact ⟨_, fun x => by rw [zm_or, hI, zex_succ, zor_yes h, or_assoc], rfl⟩
    · rw [if_pos (zb_eq0.mpr h)]
      exact ⟨_, fun x => by rw [hI, zex_succ, zor_no h], rfl⟩
  · intro x
    exact ⟨Or.inl, fun h => h.elim id (fun h => absurd h zex_zero)⟩
theorem z_whole {D : zE} {v : xS} (hO : eOK D) (hv : mE D v) (s : Int64) : ∃ r, m_Model_whole s v = some r ∧ ∀ x, zm r x ↔ zm s x ∨ ∃ e, e < en D ∧ zm s e ∧ zm (ean D e) x := by
  have hn := hO.n
  refine zinv (fun fu (a : Int64) k => m_Model_whole_l5 fu s a (zi k) v) (en D) (fun k a => ∀ x, zm a x ↔ zm s x ∨ ∃ e, e < k ∧ zm s e ∧ zm (ean D e) x) (fun o => ∃ r, o = some r ∧ ∀ x, zm r x ↔ zm s x ∨ ∃ e, e < en D ∧ zm s e ∧ zm (ean D e) x) ?_ ?_ (en D) 0 xFU s (by omega) (by unfold xFU; omega) ?_
  · intro fu a hI
    refine ⟨a, ?_, hI⟩
    show m_Model_whole_s5 _ _ _ _ _ = _
    unfold m_Model_whole_s5
    rw [hv.n, if_pos (zle_n (by omega) (by omega) (Nat.le_refl _))]
  · intro fu a k hk hI
    refine Or.inl ?_
    show ∃ a', _ ∧ m_Model_whole_s5 _ _ _ _ _ = _
    unfold m_Model_whole_s5
    rw [hv.n, if_neg (zle_nn (by omega) (by omega) hk), zb1 (z_in (by omega)), zsucc]
    by_cases h : zm s k
    · rw [if_neg (fun q => (zb_eq0.mp q) h), zg (zin (by omega) (by omega)), zi_nat (by omega), hv.an hk]
      exact ⟨_, fun x => by rw [zm_or, hI, zex_succ, zor_yes h, or_assoc], rfl⟩
    · rw [if_pos (zb_eq0.mpr h)]
      exact ⟨_, fun x => by rw [zm_or, hI, zex_succ, zor_no h]; exact or_iff_left zm_zero, rfl⟩
  · intro x
    exact ⟨Or.inl, fun h => h.elim id (fun h => absurd h zex_zero)⟩
theorem z_tips {D : zE} {v : xS} (hO : eOK D) (hv : mE D v) (s : Int64) : ∃ r, m_Model_tips s v = some r ∧ ∀ x, zm r x ↔ zm s x ∧ ¬ ∃ e, e < en D ∧ zm s e ∧ zm (ean D e) x := by
  have hn := hO.n
  refine zinv (fun fu (a : Int64) k => m_Model_tips_l5 fu s a (zi k) v) (en D) (fun k a => ∀ x, zm a x ↔ ∃ e, e < k ∧ zm s e ∧ zm (ean D e) x) (fun o => ∃ r, o = some r ∧ ∀ x, zm r x ↔ zm s x ∧ ¬ ∃ e, e < en D ∧ zm s e ∧ zm (ean D e) x) ?_ ?_ (en D) 0 xFU 0 (by omega) (by unfold xFU; omega) ?_
  · intro fu a hI
    refine ⟨s &&& (a ^^^ (-1 : Int64)), ?_, fun x => by rw [zm_diff, hI]⟩
    show m_Model_tips_s5 _ _ _ _ _ = _
    unfold m_Model_tips_s5
    rw [hv.n, if_pos (zle_n (by omega) (by omega) (Nat.le_refl _))]
  · intro fu a k hk hI
    refine Or.inl ?_
    show ∃ a', _ ∧ m_Model_tips_s5 _ _ _ _ _ = _
    unfold m_Model_tips_s5
    rw [hv.n, if_neg (zle_nn (by omega) (by omega) hk), zb1 (z_in (by omega)), zsucc]
    by_cases h : zm s k
    · rw [if_neg (fun q => (zb_eq0.mp q) h), zg (zin (by omega) (by omega)), zi_nat (by omega), hv.an hk]
      exact ⟨_, fun x => by rw [zm_or, hI, zex_succ, zor_yes h], rfl⟩
    · rw [if_pos (zb_eq0.mpr h)]
      exact ⟨_, fun x => by rw [zm_or, hI, zex_succ, zor_no h]; exact or_iff_left zm_zero, rfl⟩
  · intro x
    exact ⟨fun h => absurd h zm_zero, fun h => absurd h zex_zero⟩
theorem zheads {D : zE} (hO : eOK D) {s : Int64} (hc : zcl D s) (x : Nat) : (∃ e, e < en D ∧ zm s e ∧ zm (epa D e) x) ↔ (∃ e, e < en D ∧ zm s e ∧ zm (ean D e) x) := by
  constructor
  · rintro ⟨e, he, hs, hp⟩
    exact ⟨e, he, hs, hO.paan he hp⟩
  · rintro ⟨e, he, hs, ha⟩
    induction e using Nat.strongRecOn with
    | ind e ih =>
      by_cases hp : zm (epa D e) x
      · exact ⟨e, he, hs, hp⟩
      · have h := (not_congr (hO.pa he x)).mp hp
        have h2 : ∃ f, zm (ean D e) f ∧ zm (ean D f) x := by
          by_cases q : ∃ f, zm (ean D e) f ∧ zm (ean D f) x
          · exact q
          · exact absurd ⟨ha, q⟩ h
        obtain ⟨f, hf, hx⟩ := h2
        have := hO.sub he f hf
        exact ih f this (by omega) (hc e hs f hf) hx
theorem z_heads {D : zE} {u v : xS} (hO : eOK D) (hu : cE D u) (hv : mE D v) {s : Int64} (hc : zcl D s) : ∃ r, m_History_headsOf s u = some r ∧ m_Model_tips s v = some r ∧ ∀ x, zm r x ↔ zm s x ∧ ¬ ∃ e, e < en D ∧ zm s e ∧ zm (ean D e) x := by
  obtain ⟨r, h1, h2⟩ := z_tips hO hv s
  obtain ⟨p, h3, h4⟩ := z_parentsOfAll hO hu s
  refine ⟨r, ?_, h1, h2⟩
  unfold m_History_headsOf
  rw [zb1 h3]
  refine congrArg some (zm_ext fun x => ?_)
  rw [zm_diff, h4, h2, zheads hO hc]
theorem z_withAnc {D : zE} {u v : xS} (hO : eOK D) (hu : cE D u) (hv : mE D v) (s : Int64) : ∃ r, m_History_withAncestors s u = some r ∧ m_Model_whole s v = some r ∧ ∀ x, zm r x ↔ zm s x ∨ ∃ e, e < en D ∧ zm s e ∧ zm (ean D e) x := by
  obtain ⟨r, h1, h2⟩ := z_whole hO hv s
  obtain ⟨p, h3, h4⟩ := z_withAncestors hO hu s
  refine ⟨r, ?_, h1, h2⟩
  rw [h3]
  exact congrArg some (zm_ext fun x => by rw [h4, h2])
