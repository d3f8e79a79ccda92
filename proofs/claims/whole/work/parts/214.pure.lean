theorem zput_len (v : Nat) (h : v ≤ 127) : (zput v).length = 1 := by unfold zput; rw [if_neg (by omega)]; rfl
theorem zput_le (v : Nat) : (zput v).length ≤ 2 := by unfold zput; split <;> simp
theorem z_and127 {v : Nat} (h : v < 256) : (128 : Int32) + (zi v &&& (127 : Int32)) = zi (128 + v % 128) := by
  have : ∀ v : Fin 256, (128 : Int32) + (zi v.val &&& (127 : Int32)) = zi (128 + v.val % 128) := by decide +kernel
  exact this ⟨v, h⟩
theorem z_shr7 {v : Nat} (h : v < 256) : zi v >>> ((7 : Int32) &&& 31) = zi (v / 128) := by
  have : ∀ v : Fin 256, zi v.val >>> ((7 : Int32) &&& 31) = zi (v.val / 128) := by decide +kernel
  exact this ⟨v, h⟩
theorem z_div128 {v : Nat} (h : v < 256) : zi v / (128 : Int32) = zi (v / 128) := by
  have : ∀ v : Fin 256, zi v.val / (128 : Int32) = zi (v.val / 128) := by decide +kernel
  exact this ⟨v, h⟩
theorem z_rem128 {v : Nat} (h : v < 256) : (zi v - zi v / (128 : Int32) * (128 : Int32)) + (128 : Int32) = zi (128 + v % 128) := by
  have : ∀ v : Fin 256, (zi v.val - zi v.val / (128 : Int32) * (128 : Int32)) + (128 : Int32) = zi (128 + v.val % 128) := by decide +kernel
  exact this ⟨v, h⟩
theorem zpre {R A : List Int32} {y : Int32} {k : Nat} (h : R[k]? = some y) : (R ++ A)[k]? = some y := by
  obtain ⟨hk, rfl⟩ := List.getElem?_eq_some_iff.mp h
  rw [List.getElem?_append_left hk, List.getElem?_eq_getElem hk]
theorem z_add {R : List Int32} {j : Nat} {u : xS} (h : cR R j u) (hl : R.length < 442) (y : Int32) : ∃ x, m_OctetRow_add j y u = some x ∧ zfr [14 + j] [] [30 + j] [] u x ∧ cR (R ++ [y]) j x := by
  unfold m_OctetRow_add
  rw [h.1, if_neg (show ¬ (442 : Int32) ≤ zi R.length from zle_nn (b := 442) (by omega) (by omega) hl), zg (zin hl (by omega)), zlet, zlet, zi_nat (by omega), ziI, h.1, zsucc]
  refine ⟨_, rfl, (zfr_sI List.mem_cons_self).tr (zfr_si List.mem_cons_self), ?_, ?_⟩
  · rw [zii, List.length_append]; rfl
  · intro k z hz
    rw [zIi, zII]
    by_cases q : k < R.length
    · rw [zupn (by omega)]
      rw [List.getElem?_append_left q] at hz
      exact h.2 k z hz
    · rw [List.getElem?_append_right (by omega)] at hz
      have : k - R.length = 0 := by
        by_cases w : k - R.length = 0
        · exact w
        · rw [List.getElem?_eq_none (by simp; omega)] at hz; cases hz
      rw [this] at hz
      have hz : some y = some z := hz
      cases hz
      rw [show k = R.length from by omega, zup]
theorem z_put {R : List Int32} {j : Nat} {u : xS} (h : cR R j u) {v : Nat} (hv : v < 256) (hl : R.length + (zput v).length ≤ 442) : ∃ x, m_OctetRow_put j (zi v) u = some x ∧ zfr [14 + j] [] [30 + j] [] u x ∧ cR (R ++ zput v) j x := by
  have last : ∀ {R : List Int32} {u : xS} (k : Nat) (v : Nat) (fu : Nat), cR R j u → R.length < 442 → v ≤ 127 → ∃ x, m_OctetRow_put_l4 (fu + 1) j (zi v) (zi k) u = some x ∧ zfr [14 + j] [] [30 + j] [] u x ∧ cR (R ++ [zi v]) j x := by
    intro R u k v fu h hl hv
    obtain ⟨x, x1, x2, x3⟩ := z_add h hl (zi v)
    refine ⟨x, ?_, x2, x3⟩
    show m_OctetRow_put_s4 _ _ _ _ _ = _
    unfold m_OctetRow_put_s4 m_OctetRow_put_b38
    rw [zb1 x1, if_pos (show zi v ≤ (127 : Int32) from zle_n (a := 127) (by omega) (by omega) hv), ite_self]
  unfold m_OctetRow_put
  unfold zput at hl ⊢
  by_cases q : 127 < v
  · rw [if_pos q] at hl ⊢
    have hl : R.length + 2 ≤ 442 := hl
    obtain ⟨x, x1, x2, x3⟩ := z_add h (by omega) (zi (128 + v % 128))
    obtain ⟨y, y1, y2, y3⟩ := last 2 (v / 128) 198 x3 (by rw [List.length_append]; show R.length + 1 < 442; omega) (by omega)
    refine ⟨y, ?_, x2.tr y2, ?_⟩
    · show m_OctetRow_put_s4 _ _ _ _ _ = _
      unfold m_OctetRow_put_s4
      rw [if_neg (by decide), if_neg (show ¬ zi v ≤ (127 : Int32) from zle_nn (b := v) (a := 127) (by omega) (by omega) q), z_and127 hv, zb1 x1, z_shr7 hv]
      exact y1
    · rw [List.append_assoc] at y3; exact y3
  · rw [if_neg q] at hl ⊢
    have hl : R.length + 1 ≤ 442 := hl
    exact last 1 v 199 h (by omega) (by omega)
theorem zsg_lt {a b : Nat} (ha : a ≤ 126) (hb : b ≤ 126) : zsg a b < 256 := by unfold zsg; split <;> omega
theorem z_signed {a b : Nat} (ha : a ≤ 126) (hb : b ≤ 126) : (if 0 ≤ zi a - zi b then (2 : Int32) * (zi a - zi b) else ((-2 : Int32) * (zi a - zi b)) - (1 : Int32)) = zi (zsg a b) := by
  have e2 : ∀ d : Fin 128, (2 : Int32) * zi d.val = zi (2 * d.val) := by decide +kernel
  have e3 : ∀ d : Fin 128, 0 < d.val → ¬ (0 : Int32) ≤ - zi d.val ∧ ((-2 : Int32) * (- zi d.val)) - (1 : Int32) = zi (2 * d.val - 1) := by decide +kernel
  unfold zsg
  by_cases h : a < b
  · rw [if_pos h]
    have e1 : zi a - zi b = - zi (b - a) := by rw [← zsub (show a ≤ b by omega)]; exact (Int32.neg_sub).symm
    have := e3 ⟨b - a, by omega⟩ (by show 0 < b - a; omega)
    rw [e1, if_neg this.1]
    exact this.2
  · rw [if_neg h, zsub (by omega), if_pos (zge0 (by omega))]
    exact e2 ⟨a - b, by omega⟩
theorem z_putSigned {R : List Int32} {j : Nat} {u : xS} (h : cR R j u) {a b : Nat} (ha : a ≤ 126) (hb : b ≤ 126) (hl : R.length + (zput (zsg a b)).length ≤ 442) : ∃ x, m_OctetRow_putSigned j (zi a - zi b) u = some x ∧ zfr [14 + j] [] [30 + j] [] u x ∧ cR (R ++ zput (zsg a b)) j x := by
  obtain ⟨x, x1, x2, x3⟩ := z_put h (zsg_lt ha hb) hl
  refine ⟨x, ?_, x2, x3⟩
  have e := z_signed ha hb
  unfold m_OctetRow_putSigned m_OctetRow_putSigned_b17
  by_cases q : 0 ≤ zi a - zi b
  · rw [if_pos q] at e
    rw [if_pos q, e, zb1 x1]
  · rw [if_neg q] at e
    rw [if_neg q, e, zb1 x1]
def cw (D : zE) (L : List Nat) (u : xS) : Prop := cE D u ∧ cN L u
theorem cw.fr {D : zE} {L : List Nat} {j : Nat} {u x : xS} (h : cw D L u) (f : zfr [14 + j] [] [30 + j] [] u x) : cw D L x :=
  ⟨h.1.fr f (fun k hk => by simp <;> omega) (by decide) (by simp <;> omega), h.2.fr f (by simp <;> omega) (by simp <;> omega)⟩
theorem z_siteOf {D : zE} {u : xS} (hO : eOK D) (hu : cE D u) {e : Nat} (he : e < en D) : m_History_siteOf (zi e) u = some (zi (esi D e)) := by
  have hn := hO.n
  unfold m_History_siteOf
  rw [zg (zin (by omega) (by omega)), zi_nat (by omega), hu.si he]
theorem z_numberOf {D : zE} {u : xS} (hO : eOK D) (hu : cE D u) {e : Nat} (he : e < en D) : m_History_numberOf (zi e) u = some (zi (enu D e)) := by
  have hn := hO.n
  unfold m_History_numberOf
  rw [zg (zin (by omega) (by omega)), zi_nat (by omega), hu.nu he]
theorem z_indexOf {D : zE} {u : xS} (hO : eOK D) (hu : cE D u) {e : Nat} (he : e < en D) : m_History_indexOf (zi e) u = some (zi (eix D e)) := by
  have hn := hO.n
  unfold m_History_indexOf
  rw [zg (zin (by omega) (by omega)), zi_nat (by omega), hu.ix he]
theorem z_characterOf {D : zE} {u : xS} (hO : eOK D) (hu : cE D u) {e : Nat} (he : e < en D) (hi : ein D e) : m_History_characterOf (zi e) u = some (zi (ech D e)) := by
  have hn := hO.n
  unfold m_History_characterOf
  rw [zg (zin (by omega) (by omega)), zi_nat (by omega), hu.ch he, if_pos hi]
theorem z_parentsOf {D : zE} {u : xS} (hO : eOK D) (hu : cE D u) {e : Nat} (he : e < en D) : m_History_parentsOf (zi e) u = some (epa D e) := by
  have hn := hO.n
  unfold m_History_parentsOf
  rw [zg (zin (by omega) (by omega)), zi_nat (by omega), hu.pa he]
theorem z_wruns {D : zE} (hO : eOK D) {L : List Nat} (hL : L.length ≤ 40) (hM : ∀ e, e ∈ L → e < en D) {j : Nat} {R : List Int32} {f c : Nat} (hf : f < en D) (hc : c ≤ 40) {k p : Nat} (hp : L[p]? = some f) {u : xS} (hw : cw D L u) (hR : cR R j u) (hl : R.length + (zput (esi D f) ++ zput (enu D f) ++ zput c).length ≤ 442) (hk : zi k - zi p = zi c) (K : Nat → Int32 → Int32 → xS → Option xS) :
    ∃ x, m_Message_writeSites_b49 K j (zi p) (zi k) (zi (esi D f)) u = K j (zi k) (zi (k + 1)) x ∧ zfr [14 + j] [] [30 + j] [] u x ∧ cR (R ++ (zput (esi D f) ++ zput (enu D f) ++ zput c)) j x := by
  have hn := hO.n
  have h1 := hO.si hf
  have h2 := hO.nu40 hf
  rw [List.length_append, List.length_append] at hl
  unfold m_Message_writeSites_b49
  obtain ⟨u1, a1, a2, a3⟩ := z_put hR (v := esi D f) (by omega) (by omega)
  have hw1 := hw.fr a2
  obtain ⟨u2, b1, b2, b3⟩ := z_put a3 (v := enu D f) (by omega) (by rw [List.length_append]; omega)
  have hw2 := hw1.fr b2
  obtain ⟨u3, c1, c2, c3⟩ := z_put b3 (v := c) (by omega) (by rw [List.length_append, List.length_append]; omega)
  refine ⟨u3, ?_, (a2.tr b2).tr c2, ?_⟩
  · rw [zb1 a1, zb1 (z_get hw1.2 hL hp), zb1 (z_numberOf hO hw1.1 hf), zb1 b1, hk, zb1 c1, zsucc]
  · rw [List.append_assoc, List.append_assoc] at c3
    rw [List.append_assoc]; exact c3
theorem z_wsites {D : zE} (hO : eOK D) {L : List Nat} (hL : L.length ≤ 40) (hM : ∀ e, e ∈ L → e < en D) {j : Nat} : ∀ d k p c fu (R : List Int32) (f : Nat) (u : xS), k + d = L.length → d + 1 < fu → p + c = k → L[p]? = some f → cw D L u → cR R j u → R.length + (eruns D f c (L.drop k)).length ≤ 442 →
    ∃ x, m_Message_writeSites_l5 fu j (zi p) (zi k) u = some x ∧ zfr [14 + j] [] [30 + j] [] u x ∧ cR (R ++ eruns D f c (L.drop k)) j x := by
  have hn := hO.n
  intro d
  induction d with
  | zero =>
    intro k p c fu R f u hk hf hp hpf hw hR hl
    obtain ⟨g, rfl⟩ : ∃ g, fu = g + 1 + 1 := ⟨fu - 2, by omega⟩
    have hfn := hM f (List.mem_of_getElem? hpf)
    rw [List.drop_eq_nil_of_le (by omega)] at hl ⊢
    obtain ⟨x, x1, x2, x3⟩ := z_wruns hO hL hM hfn (show c ≤ 40 by omega) (k := k) hpf hw hR hl (by rw [zsub (by omega)]; congr 1; omega) (m_Message_writeSites_l5 (g + 1))
    refine ⟨x, ?_, x2, x3⟩
    show m_Message_writeSites_s5 _ _ _ _ _ = _
    unfold m_Message_writeSites_s5 m_Line_size
    rw [zb1 rfl, hw.2.1, if_neg (fun q => absurd ((zlt (by omega) (by omega)).mp q) (by omega)), zb1 (z_get hw.2 hL hpf), zb1 (z_siteOf hO hw.1 hfn), zb1 rfl, if_pos (by rw [show k = L.length from by omega]), x1]
    have hw2 := hw.fr x2
    show m_Message_writeSites_s5 _ _ _ _ _ = _
    unfold m_Message_writeSites_s5 m_Line_size
    rw [zb1 rfl, hw2.2.1, if_pos ((zlt (by omega) (by omega)).mpr (by omega))]
  | succ d ih =>
    intro k p c fu R f u hk hf hp hpf hw hR hl
    obtain ⟨g, rfl⟩ : ∃ g, fu = g + 1 := ⟨fu - 1, by omega⟩
    have hfn := hM f (List.mem_of_getElem? hpf)
    obtain ⟨e, he⟩ : ∃ x, L[k]? = some x := ⟨_, List.getElem?_eq_getElem (by omega)⟩
    have hen := hM e (List.mem_of_getElem? he)
    rw [zdrop_step he] at hl ⊢
    unfold eruns at hl ⊢
    show ∃ x, m_Message_writeSites_s5 _ _ _ _ _ = _ ∧ _
    unfold m_Message_writeSites_s5 m_Line_size
    have s1 := hO.si hfn
    have s2 := hO.si hen
    rw [zb1 rfl, hw.2.1, if_neg (fun q => absurd ((zlt (by omega) (by omega)).mp q) (by omega)), zb1 (z_get hw.2 hL hpf), zb1 (z_siteOf hO hw.1 hfn), zb1 rfl, if_neg (fun q => absurd ((zeq (by omega) (by omega)).mp q) (by omega)), zb1 (z_get hw.2 hL he), zb1 (z_siteOf hO hw.1 hen), zsucc]
    by_cases q : esi D e = esi D f
    · rw [if_pos q] at hl ⊢
      rw [if_pos (by rw [q])]
      exact ih (k + 1) p (c + 1) g R f u (by omega) (by omega) (by omega) hpf hw hR hl
    · rw [if_neg q] at hl ⊢
      rw [if_neg (fun z => q ((zeq (by omega) (by omega)).mp z))]
      rw [List.length_append] at hl
      obtain ⟨x, x1, x2, x3⟩ := z_wruns hO hL hM hfn (show c ≤ 40 by omega) (k := k) hpf hw hR (by omega) (by rw [zsub (by omega)]; congr 1; omega) (m_Message_writeSites_l5 g)
      obtain ⟨y, y1, y2, y3⟩ := ih (k + 1) k 1 g _ e x (by omega) (by omega) (by omega) he (hw.fr x2) x3 (by rw [List.length_append]; omega)
      refine ⟨y, x1.trans y1, x2.tr y2, ?_⟩
      rw [List.append_assoc] at y3; exact y3
theorem z_wkinds {D : zE} (hO : eOK D) {L : List Nat} (hL : L.length ≤ 40) (hM : ∀ e, e ∈ L → e < en D) {j : Nat} : ∀ d k c fu (b : Bool) (R : List Int32) (u : xS), k + d = L.length → d < fu → c ≤ k → cw D L u → cR R j u → R.length + (ekin D b c (L.drop k)).length ≤ 442 →
    ∃ x, m_Message_writeKinds_l8 fu j (zb b) (zi c) (zi k) u = some x ∧ zfr [14 + j] [] [30 + j] [] u x ∧ cR (R ++ ekin D b c (L.drop k)) j x := by
  have hn := hO.n
  intro d
  induction d with
  | zero =>
    intro k c fu b R u hk hf hc hw hR hl
    obtain ⟨g, rfl⟩ : ∃ g, fu = g + 1 := ⟨fu - 1, by omega⟩
    rw [List.drop_eq_nil_of_le (by omega)] at hl ⊢
    obtain ⟨x, x1, x2, x3⟩ := z_put hR (v := c) (by omega) hl
    refine ⟨x, ?_, x2, x3⟩
    show m_Message_writeKinds_s8 _ _ _ _ _ _ = _
    unfold m_Message_writeKinds_s8 m_Line_size
    rw [zb1 rfl, hw.2.1, if_pos (zle_n (by omega) (by omega) (by omega)), zb1 x1]
  | succ d ih =>
    intro k c fu b R u hk hf hc hw hR hl
    obtain ⟨g, rfl⟩ : ∃ g, fu = g + 1 := ⟨fu - 1, by omega⟩
    obtain ⟨e, he⟩ : ∃ x, L[k]? = some x := ⟨_, List.getElem?_eq_getElem (by omega)⟩
    have hen := hM e (List.mem_of_getElem? he)
    rw [zdrop_step he] at hl ⊢
    unfold ekin at hl ⊢
    show ∃ x, m_Message_writeKinds_s8 _ _ _ _ _ _ = _ ∧ _
    unfold m_Message_writeKinds_s8 m_Line_size
    rw [zb1 rfl, hw.2.1, if_neg (zle_nn (by omega) (by omega) (by omega)), zb1 (z_get hw.2 hL he), zb1 (z_isInsert hO hw.1 hen), zsucc, zsucc]
    by_cases q : ein D e = b
    · rw [if_pos q] at hl ⊢
      rw [if_pos (by rw [q])]
      exact ih (k + 1) (c + 1) g b R u (by omega) (by omega) (by omega) hw hR hl
    · rw [if_neg q] at hl ⊢
      rw [List.length_append] at hl
      obtain ⟨x, x1, x2, x3⟩ := z_put hR (v := c) (by omega) (by omega)
      have nb : zb (ein D e) ≠ zb b := by
        cases h1 : ein D e <;> cases h2 : b
        · rw [h1, h2] at q; exact absurd rfl q
        · decide
        · decide
        · rw [h1, h2] at q; exact absurd rfl q
      rw [if_neg nb, zb1 x1]
      obtain ⟨y, y1, y2, y3⟩ := ih (k + 1) 1 g (!b) _ x (by omega) (by omega) (by omega) (hw.fr x2) x3 (by rw [List.length_append]; omega)
      refine ⟨y, ?_, x2.tr y2, ?_⟩
      · cases b with
        | false => rw [if_pos (by decide)]; exact y1
        | true => rw [if_neg (by decide)]; exact y1
      · rw [List.append_assoc] at y3; exact y3
theorem z_windices {D : zE} (hO : eOK D) {L : List Nat} (hL : L.length ≤ 40) (hM : ∀ e, e ∈ L → e < en D) {j : Nat} : ∀ d k p fu (R : List Int32) (u : xS), k + d = L.length → d < fu → p ≤ 40 → cw D L u → cR R j u → R.length + (eidx D p (L.drop k)).length ≤ 442 →
    ∃ x, m_Message_writeIndices_l5 fu j (zi p) (zi k) u = some x ∧ zfr [14 + j] [] [30 + j] [] u x ∧ cR (R ++ eidx D p (L.drop k)) j x := by
  have hn := hO.n
  intro d
  induction d with
  | zero =>
    intro k p fu R u hk hf hp hw hR hl
    obtain ⟨g, rfl⟩ : ∃ g, fu = g + 1 := ⟨fu - 1, by omega⟩
    refine ⟨u, ?_, zfr.rf, ?_⟩
    · show m_Message_writeIndices_s5 _ _ _ _ _ = _
      unfold m_Message_writeIndices_s5 m_Line_size
      rw [zb1 rfl, hw.2.1, if_pos (zle_n (by omega) (by omega) (by omega))]
    · rw [List.drop_eq_nil_of_le (by omega)]
      show cR (R ++ []) j u
      rw [List.append_nil]; exact hR
  | succ d ih =>
    intro k p fu R u hk hf hp hw hR hl
    obtain ⟨g, rfl⟩ : ∃ g, fu = g + 1 := ⟨fu - 1, by omega⟩
    obtain ⟨e, he⟩ : ∃ x, L[k]? = some x := ⟨_, List.getElem?_eq_getElem (by omega)⟩
    have hen := hM e (List.mem_of_getElem? he)
    have hix := hO.ix hen
    rw [zdrop_step he] at hl ⊢
    unfold eidx at hl ⊢
    rw [List.length_append] at hl
    show ∃ x, m_Message_writeIndices_s5 _ _ _ _ _ = _ ∧ _
    unfold m_Message_writeIndices_s5 m_Line_size
    obtain ⟨x, x1, x2, x3⟩ := z_putSigned hR (a := eix D e) (b := p) (by omega) (by omega) (by omega)
    obtain ⟨y, y1, y2, y3⟩ := ih (k + 1) (eix D e) g _ x (by omega) (by omega) hix (hw.fr x2) x3 (by rw [List.length_append]; omega)
    rw [zb1 rfl, hw.2.1, if_neg (zle_nn (by omega) (by omega) (by omega)), zb1 (z_get hw.2 hL he), zb1 (z_indexOf hO hw.1 hen), zsucc, zb1 x1]
    refine ⟨y, y1, x2.tr y2, ?_⟩
    rw [List.append_assoc] at y3; exact y3
theorem z_wchars {D : zE} (hO : eOK D) {L : List Nat} (hL : L.length ≤ 40) (hM : ∀ e, e ∈ L → e < en D) {j : Nat} : ∀ d k p fu (R : List Int32) (u : xS), k + d = L.length → d < fu → p ≤ 126 → cw D L u → cR R j u → R.length + (echs D p (L.drop k)).length ≤ 442 →
    ∃ x, m_Message_writeCharacters_l5 fu j (zi p) (zi k) u = some x ∧ zfr [14 + j] [] [30 + j] [] u x ∧ cR (R ++ echs D p (L.drop k)) j x := by
  have hn := hO.n
  intro d
  induction d with
  | zero =>
    intro k p fu R u hk hf hp hw hR hl
    obtain ⟨g, rfl⟩ : ∃ g, fu = g + 1 := ⟨fu - 1, by omega⟩
    refine ⟨u, ?_, zfr.rf, ?_⟩
    · show m_Message_writeCharacters_s5 _ _ _ _ _ = _
      unfold m_Message_writeCharacters_s5 m_Line_size
      rw [zb1 rfl, hw.2.1, if_pos (zle_n (by omega) (by omega) (by omega))]
    · rw [List.drop_eq_nil_of_le (by omega)]
      show cR (R ++ []) j u
      rw [List.append_nil]; exact hR
  | succ d ih =>
    intro k p fu R u hk hf hp hw hR hl
    obtain ⟨g, rfl⟩ : ∃ g, fu = g + 1 := ⟨fu - 1, by omega⟩
    obtain ⟨e, he⟩ : ∃ x, L[k]? = some x := ⟨_, List.getElem?_eq_getElem (by omega)⟩
    have hen := hM e (List.mem_of_getElem? he)
    have hch := hO.ch hen
    rw [zdrop_step he] at hl ⊢
    unfold echs at hl ⊢
    show ∃ x, m_Message_writeCharacters_s5 _ _ _ _ _ = _ ∧ _
    unfold m_Message_writeCharacters_s5 m_Line_size
    rw [zb1 rfl, hw.2.1, if_neg (zle_nn (by omega) (by omega) (by omega)), zb1 (z_get hw.2 hL he), zb1 (z_isInsert hO hw.1 hen), zsucc]
    by_cases q : ein D e
    · rw [if_pos q] at hl ⊢
      rw [List.length_append] at hl
      obtain ⟨x, x1, x2, x3⟩ := z_putSigned hR (a := ech D e) (b := p) (by omega) (by omega) (by omega)
      obtain ⟨y, y1, y2, y3⟩ := ih (k + 1) (ech D e) g _ x (by omega) (by omega) hch (hw.fr x2) x3 (by rw [List.length_append]; omega)
      rw [if_neg (fun z => (zb_eq0.mp z) q), zb1 (z_get hw.2 hL he), zb1 (z_characterOf hO hw.1 hen q), zb1 x1]
      refine ⟨y, y1, x2.tr y2, ?_⟩
      rw [List.append_assoc] at y3; exact y3
    · rw [if_neg q] at hl ⊢
      rw [if_pos (zb_eq0.mpr q)]
      exact ih (k + 1) p g R u (by omega) (by omega) hp hw hR hl
