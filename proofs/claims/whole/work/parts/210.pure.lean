abbrev zK : Type := List Nat × (Nat → Nat) × (Nat → Bool)
def krow (C : zK) : List Nat := C.1
def kpl (C : zK) : Nat → Nat := C.2.1
def krt (C : zK) : Nat → Bool := C.2.2
def zh (p : Nat) : Int32 := if p = 40 then -1 else zi p
def kup (C : zK) : Nat → Nat → Nat
  | 0, e => e
  | k + 1, e => kup C k (kpl C e)
def kchain (C : zK) (e x : Nat) : Prop := x ≠ 40 ∧ ∃ k, kup C k e = x ∧ ∀ j, j < k → kup C j e ≠ 40
def kdep (C : zK) : Nat → Nat → Nat
  | 0, _ => 0
  | f + 1, e => if e = 40 then 0 else kdep C f (kpl C e) + 1
def erank (D : zE) (e : Nat) : Nat := esi D e * 64 + enu D e
def kdig (D : zE) (C : zK) (e : Nat) : Nat := if krt C e then 300 + erank D e else erank D e
def kpath (D : zE) (C : zK) : Nat → Nat → List Nat
  | 0, _ => []
  | f + 1, e => if e = 40 then [] else kpath D C f (kpl C e) ++ [kdig D C e]
def kkey (D : zE) (C : zK) (e : Nat) : List Nat := kpath D C 41 e ++ [200]
def klt : List Nat → List Nat → Prop
  | _, [] => False
  | [], _ :: _ => True
  | a :: s, b :: t => a < b ∨ (a = b ∧ klt s t)
def kOK (D : zE) (C : zK) : Prop :=
  (krow C).Pairwise (· ≠ ·) ∧ (∀ e, e ∈ krow C ↔ e < en D ∧ ein D e) ∧ (∀ e, e < en D → ¬ ein D e → kpl C e < e ∧ ein D (kpl C e)) ∧
  (∀ e, e < en D → ein D e → kpl C e = 40 ∨ (kpl C e < e ∧ ein D (kpl C e))) ∧ (∀ e, e < en D → kpl C e = 40 ∨ zm (ean D e) (kpl C e)) ∧
  (krow C).Pairwise (fun x y => klt (kkey D C x) (kkey D C y)) ∧ (∀ e, e < en D → ein D e → kpl C e = 40 → krt C e)
theorem kOK.nd {D : zE} {C : zK} (h : kOK D C) : (krow C).Pairwise (· ≠ ·) := h.1
theorem kOK.mem {D : zE} {C : zK} (h : kOK D C) {e : Nat} : e ∈ krow C ↔ e < en D ∧ ein D e := h.2.1 e
theorem kOK.del {D : zE} {C : zK} (h : kOK D C) {e : Nat} (he : e < en D) (hi : ¬ ein D e) : kpl C e < e ∧ ein D (kpl C e) := h.2.2.1 e he hi
theorem kOK.ins {D : zE} {C : zK} (h : kOK D C) {e : Nat} (he : e < en D) (hi : ein D e) : kpl C e = 40 ∨ (kpl C e < e ∧ ein D (kpl C e)) := h.2.2.2.1 e he hi
theorem kOK.an {D : zE} {C : zK} (h : kOK D C) {e : Nat} (he : e < en D) : kpl C e = 40 ∨ zm (ean D e) (kpl C e) := h.2.2.2.2.1 e he
theorem kOK.so {D : zE} {C : zK} (h : kOK D C) : (krow C).Pairwise (fun x y => klt (kkey D C x) (kkey D C y)) := h.2.2.2.2.2.1
theorem kOK.st {D : zE} {C : zK} (h : kOK D C) {e : Nat} (he : e < en D) (hi : ein D e) (hp : kpl C e = 40) : krt C e := h.2.2.2.2.2.2 e he hi hp
theorem kOK.len {D : zE} {C : zK} (hO : eOK D) (h : kOK D C) : (krow C).length ≤ en D := by
  have := List.Nodup.length_le_of_subset (l₁ := krow C) (l₂ := List.range (en D)) h.nd (fun x hx => List.mem_range.mpr (h.mem.mp hx).1)
  rw [List.length_range] at this
  exact this
def cC (D : zE) (C : zK) (u : xS) : Prop :=
  xs_i u 1 = zi (krow C).length ∧ (∀ k x, (krow C)[k]? = some x → xs_I u 6 k = zi x) ∧
  (∀ e, e < en D → ein D e → xs_I u 7 e = zh (kpl C e) ∧ xs_I u 8 e = zb (krt C e) ∧ ∀ x, zm (xs_L u 2 e) x ↔ kchain C e x) ∧
  (∀ e, e < en D → ¬ ein D e → xs_I u 9 e = zi (kpl C e)) ∧
  (∀ x, zm (xs_l u 0) x ↔ x < en D ∧ ¬ ein D x) ∧ (∀ x, zm (xs_l u 1) x ↔ x < en D ∧ ein D x)
theorem cC.len {D : zE} {C : zK} {u : xS} (h : cC D C u) : xs_i u 1 = zi (krow C).length := h.1
theorem cC.row {D : zE} {C : zK} {u : xS} (h : cC D C u) {k x : Nat} (q : (krow C)[k]? = some x) : xs_I u 6 k = zi x := h.2.1 k x q
theorem cC.pl {D : zE} {C : zK} {u : xS} (h : cC D C u) {e : Nat} (he : e < en D) (hi : ein D e) : xs_I u 7 e = zh (kpl C e) := (h.2.2.1 e he hi).1
theorem cC.rt {D : zE} {C : zK} {u : xS} (h : cC D C u) {e : Nat} (he : e < en D) (hi : ein D e) : xs_I u 8 e = zb (krt C e) := (h.2.2.1 e he hi).2.1
theorem cC.ch {D : zE} {C : zK} {u : xS} (h : cC D C u) {e : Nat} (he : e < en D) (hi : ein D e) : ∀ x, zm (xs_L u 2 e) x ↔ kchain C e x := (h.2.2.1 e he hi).2.2
theorem cC.tk {D : zE} {C : zK} {u : xS} (h : cC D C u) {e : Nat} (he : e < en D) (hi : ¬ ein D e) : xs_I u 9 e = zi (kpl C e) := h.2.2.2.1 e he hi
theorem cC.de {D : zE} {C : zK} {u : xS} (h : cC D C u) : ∀ x, zm (xs_l u 0) x ↔ x < en D ∧ ¬ ein D x := h.2.2.2.2.1
theorem cC.ins {D : zE} {C : zK} {u : xS} (h : cC D C u) : ∀ x, zm (xs_l u 1) x ↔ x < en D ∧ ein D x := h.2.2.2.2.2
def mC (D : zE) (C : zK) (v : xS) : Prop :=
  xs_i v 1 = zi (krow C).length ∧ (∀ k x, (krow C)[k]? = some x → xs_I v 8 k = zi x) ∧ (∀ e, e < en D → xs_I v 5 e = zi (kpl C e)) ∧
  (∀ e, e < en D → ein D e → xs_I v 6 e = zb (krt C e)) ∧ (∀ e, e < en D → ein D e → xs_I v 7 e = zi (kdep C 41 e)) ∧ xs_I v 7 40 = 0
theorem mC.len {D : zE} {C : zK} {v : xS} (h : mC D C v) : xs_i v 1 = zi (krow C).length := h.1
theorem mC.row {D : zE} {C : zK} {v : xS} (h : mC D C v) {k x : Nat} (q : (krow C)[k]? = some x) : xs_I v 8 k = zi x := h.2.1 k x q
theorem mC.pl {D : zE} {C : zK} {v : xS} (h : mC D C v) {e : Nat} (he : e < en D) : xs_I v 5 e = zi (kpl C e) := h.2.2.1 e he
theorem mC.rt {D : zE} {C : zK} {v : xS} (h : mC D C v) {e : Nat} (he : e < en D) (hi : ein D e) : xs_I v 6 e = zb (krt C e) := h.2.2.2.1 e he hi
theorem mC.dp {D : zE} {C : zK} {v : xS} (h : mC D C v) {e : Nat} (he : e < en D) (hi : ein D e) : xs_I v 7 e = zi (kdep C 41 e) := h.2.2.2.2.1 e he hi
theorem mC.d0 {D : zE} {C : zK} {v : xS} (h : mC D C v) : xs_I v 7 40 = 0 := h.2.2.2.2.2
def khid (D : zE) (C : zK) (s : Int64) (x : Nat) : Prop := ∃ d, d < en D ∧ (zm s d ∧ ¬ ein D d) ∧ x = kpl C d
theorem z_hidden {D : zE} {C : zK} {v : xS} (hO : eOK D) (hK : kOK D C) (hv : mE D v) (hc : mC D C v) (s : Int64) : ∃ r, m_Model_hidden s v = some r ∧ ∀ x, zm r x ↔ khid D C s x := by
  have hn := hO.n
  refine zinv (fun fu (a : Int64) k => m_Model_hidden_l5 fu s a (zi k) v) (en D) (fun k a => ∀ x, zm a x ↔ ∃ d, d < k ∧ (zm s d ∧ ¬ ein D d) ∧ x = kpl C d) (fun o => ∃ r, o = some r ∧ ∀ x, zm r x ↔ khid D C s x) ?_ ?_ (en D) 0 xFU 0 (by omega) (by unfold xFU; omega) ?_
  · intro fu a hI
    refine ⟨a, ?_, hI⟩
    show m_Model_hidden_s5 _ _ _ _ _ = _
    unfold m_Model_hidden_s5
    rw [hv.n, if_pos (zle_n (by omega) (by omega) (Nat.le_refl _))]
  · intro fu a k hk hI
    refine Or.inl ?_
    show ∃ a', _ ∧ m_Model_hidden_s5 _ _ _ _ _ = _
    unfold m_Model_hidden_s5
    rw [hv.n, if_neg (zle_nn (by omega) (by omega) hk), zb1 (z_in (by omega)), zsucc, zg (zin (by omega) (by omega)), zg (zin (by omega) (by omega)), zi_nat (by omega), hv.ins hk, hc.pl hk, zb1 (z_one _)]
    by_cases h : zm s k
    · rw [if_neg (fun q => (zb_eq0.mp q) h)]
      by_cases h2 : ein D k
      · rw [if_neg (fun q => (zb_eq0.mp q) h2)]
        exact ⟨_, fun x => by rw [hI, zex_succ, zor_no (fun q => q.2 h2)], rfl⟩
      · rw [if_pos (zb_eq0.mpr h2)]
        have := hK.del hk h2
        exact ⟨_, fun x => by rw [zm_or, hI, zex_succ, zor_yes ⟨h, h2⟩, zm_bit (by omega)], rfl⟩
    · rw [if_pos (zb_eq0.mpr h)]
      exact ⟨_, fun x => by rw [hI, zex_succ, zor_no (fun q => h q.1)], rfl⟩
  · intro x
    exact ⟨fun h => absurd h zm_zero, fun h => absurd h zex_zero⟩
theorem z_shownIn {D : zE} {C : zK} {u : xS} (hO : eOK D) (hK : kOK D C) (hc : cC D C u) (s : Int64) : ∃ r, m_CharacterList_shownIn s u = some r ∧ ∀ x, zm r x ↔ (zm s x ∧ x < en D ∧ ein D x) ∧ ¬ khid D C s x := by
  have hn := hO.n
  have key : ∃ a, m_CharacterList_shownIn s u = some ((s &&& (xs_l u 1)) &&& (a ^^^ (-1 : Int64))) ∧ ∀ x, zm a x ↔ khid D C s x := by
    refine zinv (fun fu (a : Int64) k => m_CharacterList_shownIn_l5 fu s a (zi k) u) 40 (fun k a => ∀ x, zm a x ↔ ∃ d, d < k ∧ (d < en D ∧ zm s d ∧ ¬ ein D d) ∧ x = kpl C d) (fun o => ∃ a, o = some ((s &&& (xs_l u 1)) &&& (a ^^^ (-1 : Int64))) ∧ ∀ x, zm a x ↔ khid D C s x) ?_ ?_ 40 0 xFU 0 (by omega) (by decide) ?_
    · intro fu a hI
      refine ⟨a, ?_, fun x => (hI x).trans ⟨fun ⟨d, h1, h2, h3⟩ => ⟨d, h2.1, h2.2, h3⟩, fun ⟨d, h1, h2, h3⟩ => ⟨d, by omega, ⟨h1, h2⟩, h3⟩⟩⟩
      show m_CharacterList_shownIn_s5 _ _ _ _ _ = _
      unfold m_CharacterList_shownIn_s5
      rw [if_pos (show (40 : Int32) ≤ zi 40 from by decide)]
    · intro fu a k hk hI
      refine Or.inl ?_
      show ∃ a', _ ∧ m_CharacterList_shownIn_s5 _ _ _ _ _ = _
      unfold m_CharacterList_shownIn_s5
      rw [if_neg (show ¬ (40 : Int32) ≤ zi k from zle_nn (b := 40) (by omega) (by omega) hk), zb1 (z_has (by omega)), zsucc, zg (zin (by omega) (by omega)), zi_nat (by omega)]
      by_cases h : zm (s &&& xs_l u 0) k
      · rw [if_neg (fun q => (zb_eq0.mp q) h)]
        have h := zm_and.mp h
        have h2 := (hc.de k).mp h.2
        have h3 := hK.del h2.1 h2.2
        rw [hc.tk h2.1 h2.2, zb1 (z_bit _)]
        exact ⟨_, fun x => by rw [zm_or, hI, zex_succ, zor_yes ⟨h2.1, h.1, h2.2⟩, zm_bit (by omega)], rfl⟩
      · rw [if_pos (zb_eq0.mpr h)]
        exact ⟨_, fun x => by rw [hI, zex_succ, zor_no (fun q => h (zm_and.mpr ⟨q.2.1, (hc.de k).mpr ⟨q.1, q.2.2⟩⟩))], rfl⟩
    · intro x
      exact ⟨fun h => absurd h zm_zero, fun h => absurd h zex_zero⟩
  obtain ⟨a, h1, h2⟩ := key
  exact ⟨_, h1, fun x => by rw [zm_diff, zm_and, h2, hc.ins]⟩
theorem z_shown {D : zE} {C : zK} {u v : xS} (hO : eOK D) (hK : kOK D C) (hv : mE D v) (hu : cC D C u) (hc : mC D C v) (s : Int64) : ∃ r g, m_CharacterList_shownIn s u = some r ∧ m_Model_hidden s v = some g ∧ (∀ x, zm r x → x ∈ krow C) ∧ (∀ x, x ∈ krow C → (zm r x ↔ zm s x ∧ ¬ zm g x)) ∧ (∀ x, zm g x ↔ khid D C s x) := by
  obtain ⟨r, r1, r2⟩ := z_shownIn hO hK hu s
  obtain ⟨g, g1, g2⟩ := z_hidden hO hK hv hc s
  refine ⟨r, g, r1, g1, fun x hx => hK.mem.mpr ((r2 x).mp hx).1.2, fun x hx => ?_, g2⟩
  rw [r2, g2]
  have := hK.mem.mp hx
  exact ⟨fun h => ⟨h.1.1, h.2⟩, fun h => ⟨⟨h.1, this⟩, h.2⟩⟩
theorem zdrop_step {L : List Nat} {p x : Nat} (h : L[p]? = some x) : L.drop p = x :: L.drop (p + 1) := by
  obtain ⟨hp, rfl⟩ := List.getElem?_eq_some_iff.mp h
  exact List.drop_eq_getElem_cons hp
theorem z_shownAt_loop {D : zE} {C : zK} {u : xS} (hO : eOK D) (hK : kOK D C) (hu : cC D C u) {r : Int64} {i : Int32} : ∀ d p c fu, p + d = (krow C).length → d < fu → c ≤ p → m_CharacterList_shownAt_l6 fu r i (zi c) (zi p) u = some (if i < 0 then -1 else if i.toNatClampNeg < c then -1 else zo ((((krow C).drop p).filter (zm r ·))[i.toNatClampNeg - c]?)) := by
  have hn := hO.n
  have hl := kOK.len hO hK
  intro d
  induction d with
  | zero =>
    intro p c fu hp hf hc
    obtain ⟨g, rfl⟩ : ∃ g, fu = g + 1 := ⟨fu - 1, by omega⟩
    show m_CharacterList_shownAt_s6 _ _ _ _ _ _ = _
    unfold m_CharacterList_shownAt_s6
    rw [hu.len, if_pos (zle_n (by omega) (by omega) (by omega)), List.drop_eq_nil_of_le (by omega)]
    show _ = some (if i < 0 then -1 else if i.toNatClampNeg < c then -1 else -1)
    rw [ite_self, ite_self]
  | succ d ih =>
    intro p c fu hp hf hc
    obtain ⟨g, rfl⟩ : ∃ g, fu = g + 1 := ⟨fu - 1, by omega⟩
    show m_CharacterList_shownAt_s6 _ _ _ _ _ _ = _
    unfold m_CharacterList_shownAt_s6
    obtain ⟨x, hx⟩ : ∃ x, (krow C)[p]? = some x := ⟨_, List.getElem?_eq_getElem (by omega)⟩
    have hxm := hK.mem.mp (List.mem_of_getElem? hx)
    rw [hu.len, if_neg (zle_nn (by omega) (by omega) (by omega)), zg (zin (by omega) (by omega)), zi_nat (by omega), hu.row hx, zb1 (z_has (by omega)), zsucc, zsucc, zdrop_step hx, List.filter_cons]
    cases h : zm r x with
    | false =>
      rw [if_pos (zb_eq0.mpr (by simp)), ih (p + 1) c g (by omega) (by omega) (by omega)]
      rfl
    | true =>
      rw [if_neg (fun q => (zb_eq0.mp q) rfl), if_pos rfl]
      by_cases q : zi c = i
      · subst q
        rw [if_pos rfl, if_neg (znn (by omega)), zi_nat (by omega), if_neg (by omega), Nat.sub_self]; rfl
      · rw [if_neg q, ih (p + 1) (c + 1) g (by omega) (by omega) (by omega)]
        by_cases h0 : i < 0
        · rw [if_pos h0, if_pos h0]
        · obtain ⟨k, hk, rfl⟩ := z_of_nn h0
          have hne : c ≠ k := fun z => q (by rw [z])
          rw [if_neg h0, if_neg h0, zi_nat hk]
          by_cases hl : k < c
          · rw [if_pos hl, if_pos (by omega)]
          · rw [if_neg hl, if_neg (by omega), show k - c = (k - (c + 1)) + 1 from by omega, List.getElem?_cons_succ]
theorem z_shownAt {D : zE} {C : zK} {u : xS} (hO : eOK D) (hK : kOK D C) (hu : cC D C u) (r : Int64) (i : Int32) : m_CharacterList_shownAt r i u = some (if i < 0 then -1 else zo (((krow C).filter (zm r ·))[i.toNatClampNeg]?)) := by
  have hn := hO.n
  have hl := kOK.len hO hK
  have := z_shownAt_loop hO hK hu (r := r) (i := i) (krow C).length 0 0 xFU (by omega) (by unfold xFU; omega) (by omega)
  rw [List.drop_zero, if_neg (Nat.not_lt_zero _), Nat.sub_zero] at this
  exact this
theorem z_mshownAt {D : zE} {C : zK} {v : xS} (hO : eOK D) (hK : kOK D C) (hc : mC D C v) {s g r : Int64} (hg : m_Model_hidden s v = some g) (hr : ∀ x, x ∈ krow C → (zm r x ↔ zm s x ∧ ¬ zm g x)) {k : Nat} (hk : k < 2147483648) : m_Model_shownAt s (zi k) v = some (zo (((krow C).filter (zm r ·))[k]?)) := by
  have hn := hO.n
  have hl := kOK.len hO hK
  unfold m_Model_shownAt
  rw [zb1 hg]
  have key : ∀ d p c fu, p + d = (krow C).length → d < fu → c ≤ p → c ≤ k → m_Model_shownAt_l13 fu s (zi k) g (zi c) (zi p) v = some (zo ((((krow C).drop p).filter (zm r ·))[k - c]?)) := by
    intro d
    induction d with
    | zero =>
      intro p c fu hp hf hc1 hc2
      obtain ⟨q, rfl⟩ : ∃ q, fu = q + 1 := ⟨fu - 1, by omega⟩
      show m_Model_shownAt_s13 _ _ _ _ _ _ _ = _
      unfold m_Model_shownAt_s13
      rw [hc.len, if_pos (zle_n (by omega) (by omega) (by omega)), List.drop_eq_nil_of_le (by omega)]; rfl
    | succ d ih =>
      intro p c fu hp hf hc1 hc2
      obtain ⟨q, rfl⟩ : ∃ q, fu = q + 1 := ⟨fu - 1, by omega⟩
      show m_Model_shownAt_s13 _ _ _ _ _ _ _ = _
      unfold m_Model_shownAt_s13
      obtain ⟨x, hx⟩ : ∃ x, (krow C)[p]? = some x := ⟨_, List.getElem?_eq_getElem (by omega)⟩
      have hxr := List.mem_of_getElem? hx
      have hxm := hK.mem.mp hxr
      have hrx := hr x hxr
      rw [hc.len, if_neg (zle_nn (by omega) (by omega) (by omega)), zg (zin (by omega) (by omega)), zi_nat (by omega), hc.row hx, zb1 (z_in (by omega)), zb1 (z_in (by omega)), zsucc, zsucc, zdrop_step hx, List.filter_cons]
      cases h : zm r x with
      | false =>
        have e1 := ih (p + 1) c q (by omega) (by omega) (by omega) hc2
        by_cases h1 : zm s x
        · have h2 : zm g x := by
            by_cases z : zm g x
            · exact z
            · have := hrx.mpr ⟨h1, z⟩
              rw [h] at this; cases this
          rw [if_neg (fun y => (zb_eq0.mp y) h1), if_neg (fun y => (zb_eq0.mp y) h2), e1]; rfl
        · rw [if_pos (zb_eq0.mpr h1), e1]; rfl
      | true =>
        have h1 := hrx.mp h
        rw [if_neg (fun y => (zb_eq0.mp y) h1.1), if_pos (zb_eq0.mpr h1.2), if_pos rfl]
        by_cases z : c = k
        · subst z; rw [if_pos rfl, Nat.sub_self]; rfl
        · rw [if_neg (fun y => z ((zeq (by omega) hk).mp y)), ih (p + 1) (c + 1) q (by omega) (by omega) (by omega) (by omega), show k - c = (k - (c + 1)) + 1 from by omega, List.getElem?_cons_succ]
  have := key (krow C).length 0 0 xFU (by omega) (by unfold xFU; omega) (by omega) (by omega)
  rw [List.drop_zero, Nat.sub_zero] at this
  exact this
def kbef (r : Int64) (c : Int32) : List Nat → Nat
  | [] => 0
  | x :: t => if zi x = c then 0 else kbef r c t + if zm r x then 1 else 0
theorem kbef_le (r : Int64) (c : Int32) (L : List Nat) : kbef r c L ≤ L.length := by
  induction L with
  | nil => exact Nat.le_refl 0
  | cons x t ih => 
    unfold kbef
    rw [List.length_cons]
    split
    · omega
    · split <;> omega
theorem z_indexIn {D : zE} {C : zK} {u : xS} (hO : eOK D) (hK : kOK D C) (hu : cC D C u) (r : Int64) (i : Int32) : m_CharacterList_indexIn r i u = some (zi (kbef r i (krow C))) := by
  have hn := hO.n
  have hl := kOK.len hO hK
  have key : ∀ d p c fu, p + d = (krow C).length → d < fu → m_CharacterList_indexIn_l6 fu r i (zi c) (zi p) u = some (zi (c + kbef r i ((krow C).drop p))) := by
    intro d
    induction d with
    | zero =>
      intro p c fu hp hf
      obtain ⟨q, rfl⟩ : ∃ q, fu = q + 1 := ⟨fu - 1, by omega⟩
      show m_CharacterList_indexIn_s6 _ _ _ _ _ _ = _
      unfold m_CharacterList_indexIn_s6
      rw [hu.len, if_pos (zle_n (by omega) (by omega) (by omega)), List.drop_eq_nil_of_le (by omega)]; rfl
    | succ d ih =>
      intro p c fu hp hf
      obtain ⟨q, rfl⟩ : ∃ q, fu = q + 1 := ⟨fu - 1, by omega⟩
      show m_CharacterList_indexIn_s6 _ _ _ _ _ _ = _
      unfold m_CharacterList_indexIn_s6
      obtain ⟨x, hx⟩ : ∃ x, (krow C)[p]? = some x := ⟨_, List.getElem?_eq_getElem (by omega)⟩
      have hxm := hK.mem.mp (List.mem_of_getElem? hx)
      rw [hu.len, if_neg (zle_nn (by omega) (by omega) (by omega)), zg (zin (by omega) (by omega)), zi_nat (by omega), hu.row hx, zb1 (z_has (by omega)), zsucc, zsucc, zdrop_step hx]
      unfold kbef
      by_cases h : zi x = i
      · rw [if_pos h, if_pos h]; rfl
      · rw [if_neg h, if_neg h]
        by_cases h1 : zm r x
        · rw [if_neg (fun y => (zb_eq0.mp y) h1), if_pos h1, ih (p + 1) (c + 1) q (by omega) (by omega), show c + 1 + kbef r i ((krow C).drop (p + 1)) = c + (kbef r i ((krow C).drop (p + 1)) + 1) from by omega]
        · rw [if_pos (zb_eq0.mpr h1), if_neg h1, ih (p + 1) c q (by omega) (by omega)]; rfl
  have := key (krow C).length 0 0 xFU (by omega) (by unfold xFU; omega)
  rw [List.drop_zero, Nat.zero_add] at this
  exact this
theorem z_shownBefore {D : zE} {C : zK} {v : xS} (hO : eOK D) (hK : kOK D C) (hc : mC D C v) {s g r : Int64} (hg : m_Model_hidden s v = some g) (hr : ∀ x, x ∈ krow C → (zm r x ↔ zm s x ∧ ¬ zm g x)) (i : Int32) : m_Model_shownBefore s i v = some (zi (kbef r i (krow C))) := by
  have hn := hO.n
  have hl := kOK.len hO hK
  unfold m_Model_shownBefore
  rw [zb1 hg]
  have key : ∀ d p c fu, p + d = (krow C).length → d < fu → m_Model_shownBefore_l13 fu s i g (zi c) (zi p) v = some (zi (c + kbef r i ((krow C).drop p))) := by
    intro d
    induction d with
    | zero =>
      intro p c fu hp hf
      obtain ⟨q, rfl⟩ : ∃ q, fu = q + 1 := ⟨fu - 1, by omega⟩
      show m_Model_shownBefore_s13 _ _ _ _ _ _ _ = _
      unfold m_Model_shownBefore_s13
      rw [hc.len, if_pos (zle_n (by omega) (by omega) (by omega)), List.drop_eq_nil_of_le (by omega)]; rfl
    | succ d ih =>
      intro p c fu hp hf
      obtain ⟨q, rfl⟩ : ∃ q, fu = q + 1 := ⟨fu - 1, by omega⟩
      show m_Model_shownBefore_s13 _ _ _ _ _ _ _ = _
      unfold m_Model_shownBefore_s13
      obtain ⟨x, hx⟩ : ∃ x, (krow C)[p]? = some x := ⟨_, List.getElem?_eq_getElem (by omega)⟩
      have hxr := List.mem_of_getElem? hx
      have hxm := hK.mem.mp hxr
      have hrx := hr x hxr
      rw [hc.len, if_neg (zle_nn (by omega) (by omega) (by omega)), zg (zin (by omega) (by omega)), zi_nat (by omega), hc.row hx, zb1 (z_in (by omega)), zb1 (z_in (by omega)), zsucc, zsucc, show zi c + (0 : Int32) = zi c from zadd c 0, zdrop_step hx]
      unfold kbef
      by_cases h : zi x = i
      · rw [if_pos h, if_pos h]; rfl
      · rw [if_neg h, if_neg h]
        by_cases h1 : zm r x
        · have h2 := hrx.mp h1
          rw [if_neg (fun y => (zb_eq0.mp y) h2.1), if_pos (zb_eq0.mpr h2.2), if_pos h1, ih (p + 1) (c + 1) q (by omega) (by omega), show c + 1 + kbef r i ((krow C).drop (p + 1)) = c + (kbef r i ((krow C).drop (p + 1)) + 1) from by omega]
        · have e1 := ih (p + 1) c q (by omega) (by omega)
          rw [if_neg h1]
          by_cases h2 : zm s x
          · have h3 : zm g x := by
              by_cases z : zm g x
              · exact z
              · exact absurd (hrx.mpr ⟨h2, z⟩) h1
            rw [if_neg (fun y => (zb_eq0.mp y) h2), if_neg (fun y => (zb_eq0.mp y) h3), e1]; rfl
          · rw [if_pos (zb_eq0.mpr h2), e1]; rfl
  have := key (krow C).length 0 0 xFU (by omega) (by unfold xFU; omega)
  rw [List.drop_zero, Nat.zero_add] at this
  exact this
theorem kbef_all {r : Int64} {L : List Nat} (h : ∀ x, x ∈ L → x < 40) : kbef r (-1) L = (L.filter (zm r ·)).length := by
  induction L with
  | nil => rfl
  | cons x t ih =>
    unfold kbef
    rw [if_neg (zne_m1 (by have := h x List.mem_cons_self; omega)), ih (fun y hy => h y (List.mem_cons_of_mem _ hy)), List.filter_cons]
    cases zm r x <;> rfl
theorem zc_range (n : Nat) (s : Int64) : zc n s = ((List.range n).filter (zm s ·)).length := by
  induction n with
  | zero => rfl
  | succ n ih =>
    rw [zc_succ, List.range_succ, List.filter_append, List.length_append, ih]
    congr 1
    rw [List.filter_cons]
    cases zm s n <;> rfl
theorem zc_list {L : List Nat} {s : Int64} (hd : L.Pairwise (· ≠ ·)) (h : ∀ x, x ∈ L → x < 40) (hs : ∀ x, zm s x → x ∈ L) : zc 40 s = (L.filter (zm s ·)).length := by
  rw [zc_range]
  have a1 : ((List.range 40).filter (zm s ·)).Nodup := List.Pairwise.filter _ List.nodup_range
  have a2 : (L.filter (zm s ·)).Nodup := List.Pairwise.filter _ hd
  apply Nat.le_antisymm
  · exact List.Nodup.length_le_of_subset a1 (fun x hx => by
      have := (List.mem_filter.mp hx).2
      exact List.mem_filter.mpr ⟨hs x this, this⟩)
  · exact List.Nodup.length_le_of_subset a2 (fun x hx => by
      have := List.mem_filter.mp hx
      exact List.mem_filter.mpr ⟨List.mem_range.mpr (h x this.1), this.2⟩)
theorem kOK.row40 {D : zE} {C : zK} (hO : eOK D) (hK : kOK D C) : ∀ x, x ∈ krow C → x < 40 := fun x hx => by
  have := (hK.mem.mp hx).1
  have := hO.n
  omega
theorem z_length {D : zE} {C : zK} {u v : xS} (hO : eOK D) (hK : kOK D C) (hv : mE D v) (hu : cC D C u) (hc : mC D C v) (s : Int64) : ∃ r, m_CharacterList_shownIn s u = some r ∧ m_Long_bitCount r = some (zi ((krow C).filter (zm r ·)).length) ∧ m_Model_shownBefore s (-1) v = some (zi ((krow C).filter (zm r ·)).length) ∧ (∀ k, k < 2147483648 → m_Model_shownAt s (zi k) v = some (zo (((krow C).filter (zm r ·))[k]?))) ∧ ((krow C).filter (zm r ·)).length ≤ en D := by
  obtain ⟨r, g, r1, g1, r2, r3, r4⟩ := z_shown hO hK hv hu hc s
  have h40 := kOK.row40 hO hK
  refine ⟨r, r1, ?_, ?_, fun k hk => z_mshownAt hO hK hc g1 r3 hk, ?_⟩
  · rw [z_count (Nat.le_refl 40) (fun x hx => h40 x (r2 x hx)), zc_list hK.nd h40 r2]
  · rw [z_shownBefore hO hK hc g1 r3, kbef_all h40]
  · exact Nat.le_trans (List.length_filter_le _ _) (kOK.len hO hK)
theorem q_length {D : zE} {C : zK} {u v : xS} (hO : eOK D) (hK : kOK D C) (hv : mE D v) (hu : cC D C u) (hc : mC D C v) (hS : zS D u v) (r : Int32) : ∃ x, m_Text_length r u = some x ∧ m_Model_length r v = some x := by
  have hn := hO.n
  unfold m_Text_length m_Model_length
  rcases z_site r with ⟨k, hk, rfl, h1, h2⟩ | ⟨h1, h2⟩
  · obtain ⟨t, t1, t2, t3, _⟩ := z_length hO hK hv hu hc (xs_l u (2 + k))
    rw [zb1 h1, zb1 h2, if_neg (by decide), if_pos rfl, zg (zin hk (by omega)), zg (zin hk (by omega)), zi_nat (by omega), hS.g hk, zb1 t1, zb1 t2, zb1 t3]
    exact ⟨_, rfl, rfl⟩
  · rw [zb1 h1, zb1 h2, if_pos rfl, if_neg (by decide)]
    exact ⟨_, rfl, rfl⟩
theorem q_at {D : zE} {C : zK} {u v : xS} (hO : eOK D) (hK : kOK D C) (hu : cE D u) (hv : mE D v) (huc : cC D C u) (hc : mC D C v) (hS : zS D u v) (r i : Int32) : ∃ x, m_Text_at r i u = some x ∧ m_Model_at r i v = some x := by
  have hn := hO.n
  unfold m_Text_at m_Model_at m_Model_length
  rcases z_site r with ⟨k, hk, rfl, h1, h2⟩ | ⟨h1, h2⟩
  · obtain ⟨t, t1, t2, t3, t4, t5⟩ := z_length hO hK hv huc hc (xs_l u (2 + k))
    rw [zb1 h1, if_neg (by decide), zb1 h2, if_pos rfl, zb1 h2, if_pos rfl, zg (zin hk (by omega)), zg (zin hk (by omega)), zg (zin hk (by omega)), zi_nat (by omega), hS.g hk, zb1 t1, zb1 (z_shownAt hO hK huc t i), zb1 t3, zb1 rfl]
    by_cases h : i < 0
    · rw [if_pos h, if_pos h, if_pos rfl]; exact ⟨_, rfl, rfl⟩
    · obtain ⟨q, hq, rfl⟩ := z_of_nn h
      rw [if_neg h, if_neg h, zi_nat hq, zb1 (t4 q hq)]
      by_cases z : q < ((krow C).filter (zm t ·)).length
      · rw [if_pos ((zlt hq (by omega)).mpr z)]
        have hx := List.getElem?_eq_getElem z
        have hxm := List.mem_filter.mp (List.mem_of_getElem? hx)
        generalize ((krow C).filter (zm t ·))[q] = x at hx hxm
        have hxk := hK.mem.mp hxm.1
        have hch : m_History_characterOf (zi x) u = some (zi (ech D x)) := by
          unfold m_History_characterOf
          rw [zg (zin (by omega) (by omega)), zi_nat (by omega), hu.ch hxk.1, if_pos hxk.2]
        rw [hx, zo_some, if_neg (zne_m1 (by omega)), zb1 hch, zg (zin (by omega) (by omega)), zi_nat (by omega), hv.ch hxk.1 hxk.2]
        exact ⟨_, rfl, rfl⟩
      · rw [if_neg (fun y => z ((zlt hq (by omega)).mp y)), List.getElem?_eq_none (by omega), zo_none, if_pos rfl]
        exact ⟨_, rfl, rfl⟩
  · rw [zb1 h1, zb1 h2, if_pos rfl, if_neg (by decide)]
    exact ⟨_, rfl, rfl⟩
