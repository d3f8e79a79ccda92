def kpos (K : Nat → List Nat) (L : List Nat) (ke : List Nat) (p : Nat) : Prop := p ≤ L.length ∧ (∀ q x, q < p → L[q]? = some x → klt (K x) ke) ∧ ∀ q x, p ≤ q → L[q]? = some x → ¬ klt (K x) ke
theorem zsorted {K : Nat → List Nat} {L : List Nat} (h : L.Pairwise (fun x y => klt (K x) (K y))) {a b x y : Nat} (hab : a < b) (hx : L[a]? = some x) (hy : L[b]? = some y) : klt (K x) (K y) := by
  obtain ⟨h1, rfl⟩ := List.getElem?_eq_some_iff.mp hx
  obtain ⟨h2, rfl⟩ := List.getElem?_eq_some_iff.mp hy
  exact (List.pairwise_iff_getElem.mp h) a b h1 h2 hab
theorem kpos_right {K : Nat → List Nat} {L : List Nat} (h : L.Pairwise (fun x y => klt (K x) (K y))) {ke : List Nat} {S : Nat → Prop} (hS : ∀ x, x ∈ L → (klt (K x) ke ↔ ∃ y, y ∈ L ∧ S y ∧ (y = x ∨ klt (K x) (K y)))) {p : Nat} (hp : p ≤ L.length)
    (h1 : ∀ x, 0 < p → L[p - 1]? = some x → S x) (h2 : ∀ q x, p ≤ q → L[q]? = some x → ¬ S x) : kpos K L ke p := by
  refine ⟨hp, fun q x hq hx => ?_, fun q x hq hx hk => ?_⟩
  · obtain ⟨y, hy⟩ : ∃ y, L[p - 1]? = some y := ⟨_, List.getElem?_eq_getElem (by omega)⟩
    refine (hS x (List.mem_of_getElem? hx)).mpr ⟨y, List.mem_of_getElem? hy, h1 y (by omega) hy, ?_⟩
    by_cases z : q = p - 1
    · subst z; rw [hx] at hy; cases hy; exact Or.inl rfl
    · exact Or.inr (zsorted h (show q < p - 1 by omega) hx hy)
  · obtain ⟨y, hy, hs, ho⟩ := (hS x (List.mem_of_getElem? hx)).mp hk
    obtain ⟨t, ht, hty⟩ := zrow_mem.mp hy
    by_cases z : t < q
    · have := zsorted h z hty hx
      rcases ho with w | w
      · subst w; exact klt_irr this
      · exact klt_irr (klt_tr this w)
    · exact h2 t y (by omega) hty hs
theorem kpos_left {K : Nat → List Nat} {L : List Nat} (h : L.Pairwise (fun x y => klt (K x) (K y))) {ke : List Nat} {S : Nat → Prop} (hS : ∀ x, x ∈ L → (¬ klt (K x) ke ↔ ∃ y, y ∈ L ∧ S y ∧ (y = x ∨ klt (K y) (K x)))) {p : Nat} (hp : p ≤ L.length)
    (h1 : ∀ x, L[p]? = some x → S x) (h2 : ∀ q x, q < p → L[q]? = some x → ¬ S x) : kpos K L ke p := by
  refine ⟨hp, fun q x hq hx => ?_, fun q x hq hx => ?_⟩
  · by_cases hk : klt (K x) ke
    · exact hk
    · obtain ⟨y, hy, hs, ho⟩ := (hS x (List.mem_of_getElem? hx)).mp hk
      obtain ⟨t, ht, hty⟩ := zrow_mem.mp hy
      by_cases z : q < t
      · have := zsorted h z hx hty
        rcases ho with w | w
        · subst w; exact absurd this klt_irr
        · exact absurd (klt_tr this w) klt_irr
      · exact absurd hs (h2 t y (by omega) hty)
  · have hl := (List.getElem?_eq_some_iff.mp hx).1
    obtain ⟨y, hy⟩ : ∃ y, L[p]? = some y := ⟨_, List.getElem?_eq_getElem (by omega)⟩
    refine (hS x (List.mem_of_getElem? hx)).mpr ⟨y, List.mem_of_getElem? hy, h1 y hy, ?_⟩
    by_cases z : q = p
    · subst z; rw [hx] at hy; cases hy; exact Or.inl rfl
    · exact Or.inr (zsorted h (show p < q by omega) hy hx)
theorem kkey_split {D : zE} {C : zK} (hO : eOK D) (hK : kT D C) {x : Nat} (hx : x < en D ∧ ein D x) {H : Nat} (hH : kin D H) {t : List Nat} (h : kkey D C x = kpath D C 41 H ++ t) :
    (x = H ∧ t = [200]) ∨ ∃ c t', kchain C x c ∧ c < en D ∧ ein D c ∧ kpl C c = H ∧ t = kdig D C c :: t' := by
  unfold kkey at h
  have ht : t ≠ [] := by
    intro q
    subst q
    rw [List.append_nil] at h
    have : (200 : Nat) ∈ kpath D C 41 H := by rw [← h]; simp
    exact kpath_dig hO hK H hH 200 this rfl
  obtain ⟨t', y, rfl⟩ : ∃ t' y, t = t' ++ [y] := ⟨t.dropLast, t.getLast ht, (List.dropLast_concat_getLast ht).symm⟩
  rw [← List.append_assoc] at h
  have h2 := List.append_inj' h rfl
  have hy : y = 200 := by have := h2.2; simpa using this.symm
  subst hy
  cases t' with
  | nil =>
    rw [List.append_nil] at h2
    exact Or.inl ⟨kpath_inj hO hK x (Or.inr hx) H hH h2.1, rfl⟩
  | cons d s =>
    obtain ⟨c, c1, c2⟩ := kpre_chain hO hK x (Or.inr hx) (kpath D C 41 H) d s h2.1
    have c3 := kin_of_chain hO hK (Or.inr hx) c1
    rw [kpath_step hO hK c3.1 c3.2] at c2
    have c4 := List.append_inj' c2 rfl
    have c5 : kdig D C c = d := by have := c4.2; simpa using this
    exact Or.inr ⟨c, s ++ [200], c1, c3.1, c3.2, kpath_inj hO hK _ (kin_pl hK c3.1 c3.2) H hH c4.1, by rw [c5]; rfl⟩
theorem kkey_below {D : zE} {C : zK} (hO : eOK D) (hK : kT D C) {x c : Nat} (hx : x < en D ∧ ein D x) (h : kchain C x c) : ∃ t, kkey D C x = kpath D C 41 (kpl C c) ++ (kdig D C c :: t) := by
  have c3 := kin_of_chain hO hK (Or.inr hx) h
  obtain ⟨_, _, t, ht⟩ := kchain_pre hO hK x (Or.inr hx) c h
  unfold kkey
  rw [ht, kpath_step hO hK c3.1 c3.2]
  exact ⟨t ++ [200], by simp⟩
theorem kright {D : zE} {C : zK} (hO : eOK D) (hK : kT D C) {e H : Nat} (he : e < en D ∧ ein D e) (hH : kin D H) (hpl : kpl C e = H) (hrt : krt C e = true) (hst : H = 40 → ∀ c, c < en D → ein D c → kpl C c = 40 → krt C c = true)
    {L : List Nat} (hL : ∀ x, x ∈ L ↔ x < en D ∧ ein D x ∧ x ≠ e) (hlf : ∀ x, x ∈ L → ¬ kchain C x e) {S : Nat → Prop} (hS : ∀ x, x ∈ L → (S x ↔ x = H ∨ ∃ c, kchain C x c ∧ kpl C c = H ∧ krt C c = true ∧ elt D c e)) :
    ∀ x, x ∈ L → (klt (kkey D C x) (kkey D C e) ↔ ∃ y, y ∈ L ∧ S y ∧ (y = x ∨ klt (kkey D C x) (kkey D C y))) := by
  have hn := hO.n
  have hke : kkey D C e = kpath D C 41 H ++ [kdig D C e, 200] := by
    unfold kkey
    rw [kpath_step hO hK he.1 he.2, hpl, List.append_assoc]; rfl
  have hde := (kdig_side hO (C := C) he.1).1 hrt
  have hder : kdig D C e = 300 + erank D e := by unfold kdig; rw [if_pos hrt]
  have hSlt : ∀ y, y ∈ L → S y → klt (kkey D C y) (kkey D C e) := by
    intro y hy hs
    have hyk := (hL y).mp hy
    rcases (hS y hy).mp hs with q | ⟨c, c1, c2, c3, c4⟩
    · subst q
      rw [hke]
      unfold kkey
      rw [klt_app]
      exact Or.inl hde
    · obtain ⟨t, ht⟩ := kkey_below hO hK ⟨hyk.1, hyk.2.1⟩ c1
      have hc := kin_of_chain hO hK (Or.inr ⟨hyk.1, hyk.2.1⟩) c1
      rw [hke, ht, c2, klt_app]
      refine Or.inl ?_
      have := (erank_lt hO hc.1 he.1).mpr c4
      have : kdig D C c = 300 + erank D c := by unfold kdig; rw [if_pos c3]
      omega
  intro x hx
  have hxk := (hL x).mp hx
  constructor
  · intro hlt
    rw [hke] at hlt
    have before : H ≠ 40 → klt (kkey D C x) (kpath D C 41 H ++ [200]) → ∃ y, y ∈ L ∧ S y ∧ (y = x ∨ klt (kkey D C x) (kkey D C y)) := by
      intro h40 hb
      rcases hH with q | q
      · exact absurd q h40
      · have hHe : H ≠ e := fun z => by
          have := hK.ins he.1 he.2
          rw [hpl, z] at this
          omega
        have hHL : H ∈ L := (hL H).mpr ⟨q.1, q.2, hHe⟩
        exact ⟨H, hHL, (hS H hHL).mpr (Or.inl rfl), Or.inr hb⟩
    rcases klt_pre hlt with ⟨t, h1, h2⟩ | hz
    · rcases kkey_split hO hK ⟨hxk.1, hxk.2.1⟩ hH h1 with ⟨q, _⟩ | ⟨c, t', c1, c2, c3, c4, c5⟩
      · exact ⟨x, hx, (hS x hx).mpr (Or.inl q), Or.inl rfl⟩
      · have hce : c ≠ e := fun z => hlf x hx (z ▸ c1)
        rw [c5] at h2
        have hd : kdig D C c < kdig D C e := by
          rcases klt_cons.mp h2 with z | z
          · exact z
          · exact absurd (kdig_inj hO c2 he.1 z.1) hce
        cases hrc : krt C c with
        | true =>
          have : kdig D C c = 300 + erank D c := by unfold kdig; rw [if_pos hrc]
          have := (erank_lt hO c2 he.1).mp (by omega)
          exact ⟨x, hx, (hS x hx).mpr (Or.inr ⟨c, c1, c4, hrc, this⟩), Or.inl rfl⟩
        | false =>
          by_cases h40 : H = 40
          · have := hst h40 c c2 c3 (c4.trans h40)
            rw [hrc] at this; cases this
          · refine before h40 ?_
            rw [h1, c5, klt_app]
            exact Or.inl ((kdig_side hO (C := C) c2).2 hrc)
    · by_cases h40 : H = 40
      · subst h40
        rw [kpath_40] at hz
        exact absurd (hz []) klt_nil_r
      · exact before h40 (hz [200])
  · rintro ⟨y, hy, hs, ho⟩
    have := hSlt y hy hs
    rcases ho with q | q
    · subst q; exact this
    · exact klt_tr q this
theorem kleft {D : zE} {C : zK} (hO : eOK D) (hK : kT D C) {e H : Nat} (he : e < en D ∧ ein D e) (hH : H < en D ∧ ein D H) (hpl : kpl C e = H) (hrt : krt C e = false)
    {L : List Nat} (hL : ∀ x, x ∈ L ↔ x < en D ∧ ein D x ∧ x ≠ e) (hlf : ∀ x, x ∈ L → ¬ kchain C x e) {S : Nat → Prop} (hS : ∀ x, x ∈ L → (S x ↔ x = H ∨ ∃ c, kchain C x c ∧ kpl C c = H ∧ krt C c = false ∧ ¬ elt D c e)) :
    ∀ x, x ∈ L → (¬ klt (kkey D C x) (kkey D C e) ↔ ∃ y, y ∈ L ∧ S y ∧ (y = x ∨ klt (kkey D C y) (kkey D C x))) := by
  have hn := hO.n
  have hHk : kin D H := Or.inr hH
  have hHe : H ≠ e := fun z => by
    have := hK.ins he.1 he.2
    rw [hpl, z] at this
    omega
  have hHL : H ∈ L := (hL H).mpr ⟨hH.1, hH.2, hHe⟩
  have hke : kkey D C e = kpath D C 41 H ++ [kdig D C e, 200] := by
    unfold kkey
    rw [kpath_step hO hK he.1 he.2, hpl, List.append_assoc]; rfl
  have hde := (kdig_side hO (C := C) he.1).2 hrt
  have hder : kdig D C e = erank D e := by unfold kdig; rw [hrt]; rfl
  have hkH : kkey D C H = kpath D C 41 H ++ [200] := rfl
  have hSlt : ∀ y, y ∈ L → S y → klt (kkey D C e) (kkey D C y) := by
    intro y hy hs
    have hyk := (hL y).mp hy
    rcases (hS y hy).mp hs with q | ⟨c, c1, c2, c3, c4⟩
    · subst q
      rw [hke, hkH, klt_app]
      exact Or.inl hde
    · obtain ⟨t, ht⟩ := kkey_below hO hK ⟨hyk.1, hyk.2.1⟩ c1
      have hc := kin_of_chain hO hK (Or.inr ⟨hyk.1, hyk.2.1⟩) c1
      rw [hke, ht, c2, klt_app]
      refine Or.inl ?_
      have hce : c ≠ e := fun z => hlf y hy (z ▸ c1)
      have h1 : elt D e c := by
        rcases elt_tri (D := D) (e := c) (f := e) with z | z | z
        · exact absurd z hce
        · exact absurd z c4
        · exact z
      have := (erank_lt hO he.1 hc.1).mpr h1
      have : kdig D C c = erank D c := by unfold kdig; rw [c3]; rfl
      omega
  intro x hx
  have hxk := (hL x).mp hx
  constructor
  · intro hnl
    have hgt : klt (kkey D C e) (kkey D C x) := by
      rcases klt_tot (s := kkey D C x) (t := kkey D C e) with q | q | q
      · exact absurd (kkey_inj hO hK (Or.inr ⟨hxk.1, hxk.2.1⟩) (Or.inr he) q) hxk.2.2
      · exact absurd q hnl
      · exact q
    rcases klt_tot (s := kkey D C x) (t := kkey D C H) with q | q | q
    · have := kkey_inj hO hK (Or.inr ⟨hxk.1, hxk.2.1⟩) hHk q
      exact ⟨x, hx, (hS x hx).mpr (Or.inl this), Or.inl rfl⟩
    · rw [hkH] at q
      rcases klt_pre q with ⟨t, h1, h2⟩ | hz
      · rcases kkey_split hO hK ⟨hxk.1, hxk.2.1⟩ hHk h1 with ⟨w, _⟩ | ⟨c, t', c1, c2, c3, c4, c5⟩
        · exact ⟨x, hx, (hS x hx).mpr (Or.inl w), Or.inl rfl⟩
        · have hce : c ≠ e := fun z => hlf x hx (z ▸ c1)
          rw [c5] at h2
          have hd : kdig D C c < 200 := by
            rcases klt_cons.mp h2 with z | z
            · exact z
            · exact absurd z.1 (kdig_ne hO c2)
          have hrc : krt C c = false := by
            cases hh : krt C c with
            | false => rfl
            | true => have := (kdig_side hO (C := C) c2).1 hh; omega
          rw [hke, h1, c5, klt_app] at hgt
          have hd2 : kdig D C e < kdig D C c := by
            rcases klt_cons.mp hgt with z | z
            · exact z
            · exact absurd (kdig_inj hO he.1 c2 z.1).symm hce
          have : kdig D C c = erank D c := by unfold kdig; rw [hrc]; rfl
          have h3 := (erank_lt hO he.1 c2).mp (by omega)
          exact ⟨x, hx, (hS x hx).mpr (Or.inr ⟨c, c1, c4, hrc, elt_asym h3⟩), Or.inl rfl⟩
      · have := hz [kdig D C e, 200]
        rw [← hke] at this
        exact absurd this hnl
    · exact ⟨H, hHL, (hS H hHL).mpr (Or.inl rfl), Or.inr q⟩
  · rintro ⟨y, hy, hs, ho⟩ hlt
    have := hSlt y hy hs
    rcases ho with q | q
    · subst q; exact klt_irr (klt_tr hlt this)
    · exact klt_irr (klt_tr hlt (klt_tr this q))
def kinto (L : List Nat) (p e : Nat) : List Nat := L.take p ++ e :: L.drop p
theorem kinto_lt {L : List Nat} {p e q : Nat} (hp : p ≤ L.length) (h : q < p) : (kinto L p e)[q]? = L[q]? := by
  unfold kinto
  rw [List.getElem?_append_left (by rw [List.length_take]; omega), List.getElem?_take, if_pos h]
theorem kinto_at {L : List Nat} {p e : Nat} (hp : p ≤ L.length) : (kinto L p e)[p]? = some e := by
  unfold kinto
  rw [List.getElem?_append_right (by rw [List.length_take]; omega), List.length_take, show p - min p L.length = 0 from by omega, List.getElem?_cons_zero]
theorem kinto_gt {L : List Nat} {p e q : Nat} (hp : p ≤ L.length) (h : p < q) : (kinto L p e)[q]? = L[q - 1]? := by
  unfold kinto
  rw [List.getElem?_append_right (by rw [List.length_take]; omega), List.length_take, show q - min p L.length = (q - 1 - p) + 1 from by omega, List.getElem?_cons_succ, List.getElem?_drop]
  congr 1; omega
theorem kinto_len {L : List Nat} {p e : Nat} (hp : p ≤ L.length) : (kinto L p e).length = L.length + 1 := by
  unfold kinto
  rw [List.length_append, List.length_take, List.length_cons, List.length_drop]; omega
theorem kinto_mem {L : List Nat} {p e x : Nat} : x ∈ kinto L p e ↔ x = e ∨ x ∈ L := by
  unfold kinto
  rw [List.mem_append, List.mem_cons]
  have h : x ∈ L ↔ x ∈ L.take p ∨ x ∈ L.drop p := by
    rw [← List.mem_append, List.take_append_drop]
  rw [h]
  constructor
  · rintro (q | q | q)
    · exact Or.inr (Or.inl q)
    · exact Or.inl q
    · exact Or.inr (Or.inr q)
  · rintro (q | q | q)
    · exact Or.inr (Or.inl q)
    · exact Or.inl q
    · exact Or.inr (Or.inr q)
theorem kinto_pw {R : Nat → Nat → Prop} {L : List Nat} {p e : Nat} (hp : p ≤ L.length) (h : L.Pairwise R) (h1 : ∀ q x, q < p → L[q]? = some x → R x e) (h2 : ∀ q x, p ≤ q → L[q]? = some x → R e x) : (kinto L p e).Pairwise R := by
  unfold kinto
  have h3 : (L.take p ++ L.drop p).Pairwise R := by rw [List.take_append_drop]; exact h
  have h4 := List.pairwise_append.mp h3
  rw [List.pairwise_append]
  refine ⟨h4.1, List.pairwise_cons.mpr ⟨fun x hx => ?_, h4.2.1⟩, fun a ha b hb => ?_⟩
  · obtain ⟨q, hq, hx⟩ := zrow_mem.mp hx
    rw [List.getElem?_drop] at hx
    exact h2 (p + q) x (by omega) hx
  · rcases List.mem_cons.mp hb with z | z
    · subst z
      obtain ⟨q, hq, hx⟩ := zrow_mem.mp ha
      rw [List.length_take] at hq
      rw [List.getElem?_take, if_pos (by omega)] at hx
      exact h1 q a (by omega) hx
    · exact h4.2.2 a ha b z
