def mR (R : List Int32) (v : xS) : Prop := xs_i v 3 = zi R.length ∧ ∀ k y, R[k]? = some y → xs_I v 16 k = y
def mw (D : zE) (L : List Nat) (v : xS) : Prop := mE D v ∧ mN L v
theorem mw.fr {D : zE} {L : List Nat} {u x : xS} (h : mw D L u) (f : zfr [16] [] [3] [] u x) : mw D L x := ⟨h.1.fr f (by decide) (by decide) (by decide), h.2.fr f (by decide) (by decide)⟩
theorem z_madd {R : List Int32} {v : xS} (h : mR R v) (hl : R.length < 460) (y : Int32) : zfr [16] [] [3] [] v (xs_si (xs_sI v 16 R.length y) 3 (zi (R.length + 1))) ∧ mR (R ++ [y]) (xs_si (xs_sI v 16 R.length y) 3 (zi (R.length + 1))) := by
  refine ⟨(zfr_sI List.mem_cons_self).tr (zfr_si List.mem_cons_self), ?_, ?_⟩
  · rw [zii, List.length_append]; rfl
  · intro k z hz
    rw [zIi, zII]
    by_cases q : k < R.length
    · rw [zupn (by omega)]
      rw [List.getElem?_append_left q] at hz
      exact h.2 k z hz
    · rw [List.getElem?_append_right (by omega)] at hz
      have : k - R.length = 0 := by
        by_cases w : k - R.length = 0
        · exact w
        · rw [List.getElem?_eq_none (by simp; omega)] at hz; cases hz
      rw [this] at hz
      have hz : some y = some z := hz
      cases hz
      rw [show k = R.length from by omega, zup]
theorem z_mput {R : List Int32} {v : xS} (h : mR R v) {n : Nat} (hn : n < 256) (hl : R.length + (zput n).length ≤ 460) : ∃ x, m_Model_put (zi n) v = some x ∧ zfr [16] [] [3] [] v x ∧ mR (R ++ zput n) x := by
  have last : ∀ {R : List Int32} {v : xS} (k : Nat) (n : Nat) (fu : Nat), mR R v → R.length < 460 → n ≤ 127 → ∃ x, m_Model_put_l4 (fu + 1) (zi n) (zi k) v = some x ∧ zfr [16] [] [3] [] v x ∧ mR (R ++ [zi n]) x := by
    intro R v k n fu h hl hn
    obtain ⟨x1, x2⟩ := z_madd h hl (zi n)
    refine ⟨_, ?_, x1, x2⟩
    show m_Model_put_s4 _ _ _ _ = _
    unfold m_Model_put_s4 m_Model_put_b55
    rw [if_pos (show zi n ≤ (127 : Int32) from zle_n (a := 127) (by omega) (by omega) hn), ite_self, h.1, zg (zin hl (by omega)), zlet, zlet, zi_nat (by omega), ziI, h.1, zsucc]
  unfold m_Model_put
  unfold zput at hl ⊢
  by_cases q : 127 < n
  · rw [if_pos q] at hl ⊢
    have hl : R.length + 2 ≤ 460 := hl
    obtain ⟨x1, x2⟩ := z_madd h (by omega) (zi (128 + n % 128))
    obtain ⟨y, y1, y2, y3⟩ := last 1 (n / 128) 198 x2 (by rw [List.length_append]; show R.length + 1 < 460; omega) (by omega)
    refine ⟨y, ?_, x1.tr y2, ?_⟩
    · show m_Model_put_s4 _ _ _ _ = _
      unfold m_Model_put_s4
      rw [if_neg (by decide), if_neg (show ¬ zi n ≤ (127 : Int32) from zle_nn (b := n) (a := 127) (by omega) (by omega) q), h.1, zg (zin (by omega) (by omega)), zlet, zlet, zi_nat (by omega), ziI, h.1, zsucc, z_rem128 hn, z_div128 hn]
      exact y1
    · rw [List.append_assoc] at y3; exact y3
  · rw [if_neg q] at hl ⊢
    have hl : R.length + 1 ≤ 460 := hl
    exact last 0 n 199 h (by omega) (by omega)
theorem z_mputSigned {R : List Int32} {v : xS} (h : mR R v) {a b : Nat} (ha : a ≤ 126) (hb : b ≤ 126) (hl : R.length + (zput (zsg a b)).length ≤ 460) : ∃ x, m_Model_putSigned (zi a - zi b) v = some x ∧ zfr [16] [] [3] [] v x ∧ mR (R ++ zput (zsg a b)) x := by
  obtain ⟨x, x1, x2, x3⟩ := z_mput h (zsg_lt ha hb) hl
  refine ⟨x, ?_, x2, x3⟩
  have e := z_signed ha hb
  unfold m_Model_putSigned m_Model_putSigned_b17
  by_cases q : 0 ≤ zi a - zi b
  · rw [if_pos q] at e
    rw [if_pos q, e, zb1 x1]
  · rw [if_neg q] at e
    rw [if_neg q, e, zb1 x1]
theorem mN.at {L : List Nat} {v : xS} (h : mN L v) {k e : Nat} (he : L[k]? = some e) : xs_I v 15 k = zi e := h.2 k e he
theorem z_mkinds {D : zE} (hO : eOK D) {L : List Nat} (hL : L.length ≤ 40) (hM : ∀ e, e ∈ L → e < en D) : ∀ d p c fu gu (b : Bool) (R : List Int32) (v : xS), p + c + d = L.length → d < fu → d < gu → mw D L v → mR R v → R.length + (ekin D b c (L.drop (p + c))).length ≤ 460 →
    ∃ x, m_Model_putRuns_l104 (m_Model_putRuns_l93 gu) fu (zb b) (zi p) (zi c) v = some x ∧ zfr [16] [] [3] [] v x ∧ mR (R ++ ekin D b c (L.drop (p + c))) x := by
  have hn := hO.n
  intro d
  induction d with
  | zero =>
    intro p c fu gu b R v hk hf hg hw hR hl
    obtain ⟨g, rfl⟩ : ∃ g, fu = g + 1 := ⟨fu - 1, by omega⟩
    obtain ⟨h, rfl⟩ : ∃ g, gu = g + 1 := ⟨gu - 1, by omega⟩
    rw [List.drop_eq_nil_of_le (by omega)] at hl ⊢
    obtain ⟨x, x1, x2, x3⟩ := z_mput hR (n := c) (by omega) hl
    have hwx := hw.fr x2
    refine ⟨x, ?_, x2, x3⟩
    show m_Model_putRuns_s104 _ _ _ _ _ _ = _
    unfold m_Model_putRuns_s104 m_Model_putRuns_b139
    have fin : ∀ q : Int32, m_Model_putRuns_l93 (h + 1) q (zi (p + c)) x = some x := by
      intro q
      show m_Model_putRuns_s93 _ _ _ _ = _
      unfold m_Model_putRuns_s93
      rw [hwx.2.1, if_pos (zle_n (by omega) (by omega) (by omega))]
    rw [zadd, hw.2.1, if_pos (zle_n (by omega) (by omega) (by omega)), zb1 x1, fin, fin, ite_self]
  | succ d ih =>
    intro p c fu gu b R v hk hf hg hw hR hl
    obtain ⟨g, rfl⟩ : ∃ g, fu = g + 1 := ⟨fu - 1, by omega⟩
    obtain ⟨h, rfl⟩ : ∃ g, gu = g + 1 := ⟨gu - 1, by omega⟩
    obtain ⟨e, he⟩ : ∃ x, L[p + c]? = some x := ⟨_, List.getElem?_eq_getElem (by omega)⟩
    have hen := hM e (List.mem_of_getElem? he)
    rw [zdrop_step he] at hl ⊢
    unfold ekin at hl ⊢
    show ∃ x, m_Model_putRuns_s104 _ _ _ _ _ _ = _ ∧ _
    unfold m_Model_putRuns_s104 m_Model_putRuns_b139
    rw [zadd, hw.2.1, if_neg (zle_nn (by omega) (by omega) (by omega)), zg (zin (by omega) (by omega)), zi_nat (by omega), hw.2.at he, zg (zin (by omega) (by omega)), zi_nat (by omega), hw.1.ins hen, zsucc]
    by_cases q : ein D e = b
    · rw [if_pos q] at hl ⊢
      rw [if_pos (by rw [q])]
      exact ih p (c + 1) g (h + 1) b R v (by omega) (by omega) (by omega) hw hR hl
    · rw [if_neg q] at hl ⊢
      rw [List.length_append] at hl
      obtain ⟨x, x1, x2, x3⟩ := z_mput hR (n := c) (by omega) (by omega)
      have hwx := hw.fr x2
      have nb : zb (ein D e) ≠ zb b := by
        cases h1 : ein D e <;> cases h2 : b
        · rw [h1, h2] at q; exact absurd rfl q
        · decide
        · decide
        · rw [h1, h2] at q; exact absurd rfl q
      have eb : ein D e = !b := by
        cases h1 : ein D e <;> cases h2 : b
        · rw [h1, h2] at q; exact absurd rfl q
        · rfl
        · rfl
        · rw [h1, h2] at q; exact absurd rfl q
      obtain ⟨y, y1, y2, y3⟩ := ih (p + c) 1 199 h (!b) _ x (by omega) (by omega) (by omega) hwx x3 (by rw [List.length_append]; omega)
      have step : m_Model_putRuns_l93 (h + 1) (zb (!b)) (zi (p + c)) x = some y := by
        show m_Model_putRuns_s93 _ _ _ _ = _
        unfold m_Model_putRuns_s93
        rw [hwx.2.1, if_neg (zle_nn (by omega) (by omega) (by omega))]
        show m_Model_putRuns_s104 _ _ _ _ _ _ = _
        unfold m_Model_putRuns_s104
        rw [show zi (p + c) + (0 : Int32) = zi (p + c) from zadd (p + c) 0, hwx.2.1, if_neg (zle_nn (by omega) (by omega) (by omega)), zg (zin (by omega) (by omega)), zi_nat (by omega), hwx.2.at he, zg (zin (by omega) (by omega)), zi_nat (by omega), hwx.1.ins hen, if_pos (by rw [eb])]
        exact y1
      rw [if_neg nb, zb1 x1]
      refine ⟨y, ?_, x2.tr y2, ?_⟩
      · cases b with
        | false => rw [if_pos (by decide)]; exact step
        | true => rw [if_neg (by decide)]; exact step
      · rw [List.append_assoc] at y3; exact y3
theorem z_msites {D : zE} (hO : eOK D) {L : List Nat} (hL : L.length ≤ 40) (hM : ∀ e, e ∈ L → e < en D) : ∀ d p c fu gu (f : Nat) (R : List Int32) (v : xS), p + c + d = L.length → d < fu → d < gu → 0 < c → L[p]? = some f → mw D L v → mR R v → R.length + (eruns D f c (L.drop (p + c))).length ≤ 460 →
    ∃ x, m_Model_putRuns_l19 (m_Model_putRuns_l2 gu) fu (zi p) (zi f) (zi c) v = m_Model_putRuns_l93 xFU 1 0 x ∧ zfr [16] [] [3] [] v x ∧ mR (R ++ eruns D f c (L.drop (p + c))) x := by
  have hn := hO.n
  have runs : ∀ {R : List Int32} {f c p : Nat} {v : xS} (K : Int32 → xS → Option xS), f < en D → c ≤ 40 → mw D L v → mR R v → R.length + (zput (esi D f) ++ zput (enu D f) ++ zput c).length ≤ 460 → ∃ x, m_Model_putRuns_b57 K (zi p) (zi f) (zi c) v = K (zi (p + c)) x ∧ zfr [16] [] [3] [] v x ∧ mR (R ++ (zput (esi D f) ++ zput (enu D f) ++ zput c)) x := by
    intro R f c p v K hf hc hw hR hl
    have h1 := hO.si hf
    have h2 := hO.nu40 hf
    rw [List.length_append, List.length_append] at hl
    unfold m_Model_putRuns_b57
    obtain ⟨u1, a1, a2, a3⟩ := z_mput hR (n := esi D f) (by omega) (by omega)
    have hw1 := hw.fr a2
    obtain ⟨u2, b1, b2, b3⟩ := z_mput a3 (n := enu D f) (by omega) (by rw [List.length_append]; omega)
    obtain ⟨u3, c1, c2, c3⟩ := z_mput b3 (n := c) (by omega) (by rw [List.length_append, List.length_append]; omega)
    refine ⟨u3, ?_, (a2.tr b2).tr c2, ?_⟩
    · rw [zg (zin (by omega) (by omega)), zi_nat (by omega), hw.1.si hf, zb1 a1, hw1.1.nu hf, zb1 b1, zb1 c1, zadd]
    · rw [List.append_assoc, List.append_assoc] at c3
      rw [List.append_assoc]; exact c3
  intro d
  induction d with
  | zero =>
    intro p c fu gu f R v hk hf hg hc hpf hw hR hl
    obtain ⟨g, rfl⟩ : ∃ g, fu = g + 1 := ⟨fu - 1, by omega⟩
    obtain ⟨h, rfl⟩ : ∃ g, gu = g + 1 := ⟨gu - 1, by omega⟩
    have hfn := hM f (List.mem_of_getElem? hpf)
    rw [List.drop_eq_nil_of_le (by omega)] at hl ⊢
    obtain ⟨x, x1, x2, x3⟩ := runs (p := p) (m_Model_putRuns_l2 (h + 1)) hfn (show c ≤ 40 by omega) hw hR hl
    have hwx := hw.fr x2
    refine ⟨x, ?_, x2, x3⟩
    show m_Model_putRuns_s19 _ _ _ _ _ _ = _
    unfold m_Model_putRuns_s19
    rw [zadd, hw.2.1, if_pos (zle_n (by omega) (by omega) (by omega)), x1]
    show m_Model_putRuns_s2 _ _ _ = _
    unfold m_Model_putRuns_s2
    rw [hwx.2.1, if_pos (zle_n (by omega) (by omega) (by omega))]
  | succ d ih =>
    intro p c fu gu f R v hk hf hg hc hpf hw hR hl
    obtain ⟨g, rfl⟩ : ∃ g, fu = g + 1 := ⟨fu - 1, by omega⟩
    obtain ⟨h, rfl⟩ : ∃ g, gu = g + 1 := ⟨gu - 1, by omega⟩
    have hfn := hM f (List.mem_of_getElem? hpf)
    obtain ⟨e, he⟩ : ∃ x, L[p + c]? = some x := ⟨_, List.getElem?_eq_getElem (by omega)⟩
    have hen := hM e (List.mem_of_getElem? he)
    have s1 := hO.si hfn
    have s2 := hO.si hen
    rw [zdrop_step he] at hl ⊢
    unfold eruns at hl ⊢
    show ∃ x, m_Model_putRuns_s19 _ _ _ _ _ _ = _ ∧ _
    unfold m_Model_putRuns_s19
    rw [zadd, hw.2.1, if_neg (zle_nn (by omega) (by omega) (by omega)), zg (zin (by omega) (by omega)), zi_nat (a := p + c) (by omega), hw.2.at he, zg (zin (by omega) (by omega)), zg (zin (by omega) (by omega)), zi_nat (a := e) (by omega), zi_nat (a := f) (by omega), hw.1.si hen, hw.1.si hfn, zsucc]
    by_cases q : esi D e = esi D f
    · rw [if_pos q] at hl ⊢
      rw [if_pos (by rw [q])]
      exact ih p (c + 1) g (h + 1) f R v (by omega) (by omega) (by omega) (by omega) hpf hw hR hl
    · rw [if_neg q] at hl ⊢
      rw [if_neg (fun z => q ((zeq (by omega) (by omega)).mp z))]
      rw [List.length_append] at hl
      obtain ⟨x, x1, x2, x3⟩ := runs (p := p) (m_Model_putRuns_l2 (h + 1)) hfn (show c ≤ 40 by omega) hw hR (by omega)
      have hwx := hw.fr x2
      obtain ⟨y, y1, y2, y3⟩ := ih (p + c) 1 200 h e _ x (by omega) (by omega) (by omega) (by omega) he hwx x3 (by rw [List.length_append]; omega)
      refine ⟨y, ?_, x2.tr y2, ?_⟩
      · rw [x1]
        show m_Model_putRuns_s2 _ _ _ = _
        unfold m_Model_putRuns_s2
        rw [hwx.2.1, if_neg (zle_nn (by omega) (by omega) (by omega)), zg (zin (by omega) (by omega)), zi_nat (by omega), hwx.2.at he]
        exact y1
      · rw [List.append_assoc] at y3; exact y3
theorem z_mruns {D : zE} (hO : eOK D) {L : List Nat} (hL : L.length ≤ 40) (hne : L ≠ []) (hM : ∀ e, e ∈ L → e < en D) {R : List Int32} {v : xS} (hw : mw D L v) (hR : mR R v) (hl : R.length + ((esites D L).length + (ekin D true 0 L).length) ≤ 460) :
    ∃ x, m_Model_putRuns v = some x ∧ zfr [16] [] [3] [] v x ∧ mR (R ++ (esites D L ++ ekin D true 0 L)) x := by
  obtain ⟨f, t, hft⟩ : ∃ f t, L = f :: t := List.exists_cons_of_ne_nil hne
  have hd1 : L.drop (0 + 1) = t := by rw [hft]; rfl
  have hes : esites D L = eruns D f 1 (L.drop (0 + 1)) := by rw [hd1, hft]; rfl
  have h0f : L[0]? = some f := by rw [hft]; rfl
  have hpos : 1 ≤ L.length := by rw [hft, List.length_cons]; omega
  obtain ⟨x, x1, x2, x3⟩ := z_msites hO hL hM (L.length - 1) 0 1 200 199 f R v (by omega) (by omega) (by omega) (by omega) h0f hw hR (by rw [← hes]; omega)
  rw [← hes] at x3
  have hwx := hw.fr x2
  obtain ⟨y, y1, y2, y3⟩ := z_mkinds hO hL hM L.length 0 0 200 199 true _ x (by omega) (by omega) (by omega) hwx x3 (by rw [List.drop_zero, List.length_append]; omega)
  rw [List.drop_zero, List.append_assoc] at y3
  refine ⟨y, ?_, x2.tr y2, y3⟩
  unfold m_Model_putRuns
  show m_Model_putRuns_s2 _ _ _ = _
  unfold m_Model_putRuns_s2
  rw [hw.2.1, if_neg (show ¬ zi L.length ≤ (0 : Int32) from fun q => absurd ((zle (b := 0) (by omega) (by omega)).mp q) (by omega)), zg (show xin (0 : Int32) 40 from by decide), show (0 : Int32).toNatClampNeg = 0 from rfl, hw.2.at h0f]
  refine x1.trans ?_
  show m_Model_putRuns_s93 _ _ _ _ = _
  unfold m_Model_putRuns_s93
  rw [hwx.2.1, if_neg (show ¬ zi L.length ≤ (0 : Int32) from fun q => absurd ((zle (b := 0) (by omega) (by omega)).mp q) (by omega))]
  exact y1
