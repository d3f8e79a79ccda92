theorem klt_nil_r {s : List Nat} : ¬ klt s [] := by
  intro h
  cases s with
  | nil => exact h
  | cons a t => exact h
theorem klt_cons {a b : Nat} {s t : List Nat} : klt (a :: s) (b :: t) ↔ a < b ∨ (a = b ∧ klt s t) := Iff.rfl
theorem klt_irr : ∀ {s : List Nat}, ¬ klt s s := by
  intro s
  induction s with
  | nil => exact id
  | cons a t ih =>
    intro h
    rcases klt_cons.mp h with q | q
    · omega
    · exact ih q.2
theorem klt_tr : ∀ {s t r : List Nat}, klt s t → klt t r → klt s r := by
  intro s
  induction s with
  | nil =>
    intro t r h1 h2
    cases r with
    | nil => exact absurd h2 klt_nil_r
    | cons c r => exact trivial
  | cons a s ih =>
    intro t r h1 h2
    cases t with
    | nil => exact absurd h1 klt_nil_r
    | cons b t =>
      cases r with
      | nil => exact absurd h2 klt_nil_r
      | cons c r =>
        rcases klt_cons.mp h1 with q | q <;> rcases klt_cons.mp h2 with z | z
        · exact Or.inl (by omega)
        · exact Or.inl (by omega)
        · exact Or.inl (by omega)
        · exact Or.inr ⟨by omega, ih q.2 z.2⟩
theorem klt_tot : ∀ {s t : List Nat}, s = t ∨ klt s t ∨ klt t s := by
  intro s
  induction s with
  | nil =>
    intro t
    cases t with
    | nil => exact Or.inl rfl
    | cons b t => exact Or.inr (Or.inl trivial)
  | cons a s ih =>
    intro t
    cases t with
    | nil => exact Or.inr (Or.inr trivial)
    | cons b t =>
      by_cases q : a < b
      · exact Or.inr (Or.inl (Or.inl q))
      · by_cases z : b < a
        · exact Or.inr (Or.inr (Or.inl z))
        · have : a = b := by omega
          subst this
          rcases ih (t := t) with h | h | h
          · exact Or.inl (by rw [h])
          · exact Or.inr (Or.inl (Or.inr ⟨rfl, h⟩))
          · exact Or.inr (Or.inr (Or.inr ⟨rfl, h⟩))
theorem klt_app : ∀ {p s t : List Nat}, klt (p ++ s) (p ++ t) ↔ klt s t := by
  intro p
  induction p with
  | nil => intro s t; exact Iff.rfl
  | cons a p ih =>
    intro s t
    show klt (a :: (p ++ s)) (a :: (p ++ t)) ↔ _
    rw [klt_cons, ih]
    exact ⟨fun h => h.elim (fun q => absurd q (by omega)) And.right, fun h => Or.inr ⟨rfl, h⟩⟩
theorem klt_pre : ∀ {p s r : List Nat}, klt s (p ++ r) → (∃ t, s = p ++ t ∧ klt t r) ∨ (∀ z, klt s (p ++ z)) := by
  intro p
  induction p with
  | nil => intro s r h; exact Or.inl ⟨s, rfl, h⟩
  | cons a p ih =>
    intro s r h
    cases s with
    | nil => exact Or.inr (fun z => trivial)
    | cons b s =>
      rcases klt_cons.mp h with q | ⟨rfl, q⟩
      · exact Or.inr (fun z => Or.inl q)
      · rcases ih q with ⟨t, rfl, ht⟩ | hz
        · exact Or.inl ⟨t, rfl, ht⟩
        · exact Or.inr (fun z => Or.inr ⟨rfl, hz z⟩)
theorem erank_lt {D : zE} (hO : eOK D) {e f : Nat} (he : e < en D) (hf : f < en D) : erank D e < erank D f ↔ elt D e f := by
  have a1 := hO.nu40 he
  have a2 := hO.nu40 hf
  unfold erank elt
  by_cases h : esi D e = esi D f
  · have := enu_lt hO he hf h
    rw [h]
    constructor
    · intro q; exact Or.inr ⟨rfl, this.mp (by omega)⟩
    · rintro (q | q)
      · omega
      · have := this.mpr q.2; omega
  · omega
theorem erank_inj {D : zE} (hO : eOK D) {e f : Nat} (he : e < en D) (hf : f < en D) (h : erank D e = erank D f) : e = f := by
  have h1 := erank_lt hO he hf
  have h2 := erank_lt hO hf he
  rcases elt_tri (D := D) (e := e) (f := f) with q | q | q
  · exact q
  · have := h1.mpr q; omega
  · have := h2.mpr q; omega
theorem erank_le {D : zE} (hO : eOK D) {e : Nat} (he : e < en D) : erank D e < 200 := by
  have a1 := hO.nu40 he
  have a2 := hO.si he
  unfold erank
  omega
theorem kdig_ne {D : zE} (hO : eOK D) {C : zK} {e : Nat} (he : e < en D) : kdig D C e ≠ 200 := by
  have := erank_le hO he
  unfold kdig
  split <;> omega
theorem kdig_inj {D : zE} (hO : eOK D) {C : zK} {e f : Nat} (he : e < en D) (hf : f < en D) (h : kdig D C e = kdig D C f) : e = f := by
  have h1 := erank_le hO he
  have h2 := erank_le hO hf
  unfold kdig at h
  apply erank_inj hO he hf
  split at h <;> split at h <;> omega
def kT (D : zE) (C : zK) : Prop := ∀ e, e < en D → ein D e → kpl C e = 40 ∨ (kpl C e < e ∧ ein D (kpl C e))
theorem kT.ins {D : zE} {C : zK} (h : kT D C) {e : Nat} (he : e < en D) (hi : ein D e) : kpl C e = 40 ∨ (kpl C e < e ∧ ein D (kpl C e)) := h e he hi
theorem kOK.t {D : zE} {C : zK} (h : kOK D C) : kT D C := h.2.2.2.1
def kin (D : zE) (e : Nat) : Prop := e = 40 ∨ (e < en D ∧ ein D e)
theorem kin_pl {D : zE} {C : zK} (hK : kT D C) {e : Nat} (he : e < en D) (hi : ein D e) : kin D (kpl C e) := by
  rcases hK.ins he hi with q | q
  · exact Or.inl q
  · exact Or.inr ⟨by omega, q.2⟩
theorem kpath_fuel {D : zE} {C : zK} (hO : eOK D) (hK : kT D C) : ∀ (e : Nat), kin D e → ∀ f, (e = 40 ∨ e < f) → 0 < f → kpath D C f e = kpath D C (f + 1) e := by
  intro e
  induction e using Nat.strongRecOn with
  | ind e ih =>
    intro hk f hf h0
    obtain ⟨g, rfl⟩ : ∃ g, f = g + 1 := ⟨f - 1, by omega⟩
    have hn := hO.n
    show (if e = 40 then [] else kpath D C g (kpl C e) ++ [kdig D C e]) = (if e = 40 then [] else kpath D C (g + 1) (kpl C e) ++ [kdig D C e])
    by_cases h40 : e = 40
    · rw [if_pos h40, if_pos h40]
    · rw [if_neg h40, if_neg h40]
      rcases hk with q | ⟨q1, q2⟩
      · exact absurd q h40
      · congr 1
        rcases hK.ins q1 q2 with z | z
        · rw [z]
          cases g with
          | zero => rfl
          | succ g => show (if (40 : Nat) = 40 then [] else _) = (if (40 : Nat) = 40 then [] else _); rw [if_pos rfl, if_pos rfl]
        · exact ih (kpl C e) z.1 (Or.inr ⟨by omega, z.2⟩) g (by omega) (by omega)
theorem kpath_40 {D : zE} {C : zK} {f : Nat} : kpath D C f 40 = [] := by
  cases f with
  | zero => rfl
  | succ f => show (if (40 : Nat) = 40 then [] else _) = _; rw [if_pos rfl]
theorem kpath_step {D : zE} {C : zK} (hO : eOK D) (hK : kT D C) {e : Nat} (he : e < en D) (hi : ein D e) : kpath D C 41 e = kpath D C 41 (kpl C e) ++ [kdig D C e] := by
  have hn := hO.n
  have h1 : kpath D C 41 e = kpath D C 40 (kpl C e) ++ [kdig D C e] := by
    show (if e = 40 then [] else _) = _
    rw [if_neg (by omega)]
  rw [h1]
  congr 1
  have hk := kin_pl hK he hi
  rcases hK.ins he hi with q | q
  · rw [q, kpath_40, kpath_40]
  · exact kpath_fuel hO hK _ hk 40 (by omega) (by omega)
theorem kdep_len {D : zE} {C : zK} : ∀ f e, kdep C f e = (kpath D C f e).length := by
  intro f
  induction f with
  | zero => intro e; rfl
  | succ f ih =>
    intro e
    show (if e = 40 then 0 else kdep C f (kpl C e) + 1) = (if e = 40 then [] else kpath D C f (kpl C e) ++ [kdig D C e]).length
    by_cases h : e = 40
    · rw [if_pos h, if_pos h]; rfl
    · rw [if_neg h, if_neg h, List.length_append, ih]; rfl
theorem kpath_len {D : zE} {C : zK} (hO : eOK D) (hK : kT D C) : ∀ (e : Nat), kin D e → (kpath D C 41 e).length ≤ 40 ∧ (e < en D → (kpath D C 41 e).length ≤ e + 1) := by
  have hn := hO.n
  intro e
  induction e using Nat.strongRecOn with
  | ind e ih =>
    intro hk
    rcases hk with q | ⟨q1, q2⟩
    · subst q
      rw [kpath_40]
      exact ⟨by simp, fun h => by simp⟩
    · rw [kpath_step hO hK q1 q2, List.length_append]
      rcases hK.ins q1 q2 with z | z
      · rw [z, kpath_40]
        exact ⟨by simp, fun h => by simp⟩
      · have := (ih (kpl C e) z.1 (Or.inr ⟨by omega, z.2⟩)).2 (by omega)
        show _ + 1 ≤ 40 ∧ (_ → _ + 1 ≤ _)
        exact ⟨by omega, fun h => by omega⟩
theorem kpath_dig {D : zE} {C : zK} (hO : eOK D) (hK : kT D C) : ∀ (e : Nat), kin D e → ∀ d, d ∈ kpath D C 41 e → d ≠ 200 := by
  have hn := hO.n
  intro e
  induction e using Nat.strongRecOn with
  | ind e ih =>
    intro hk d hd
    rcases hk with q | ⟨q1, q2⟩
    · subst q; rw [kpath_40] at hd; cases hd
    · rw [kpath_step hO hK q1 q2] at hd
      rcases List.mem_append.mp hd with z | z
      · rcases hK.ins q1 q2 with w | w
        · rw [w, kpath_40] at z; cases z
        · exact ih (kpl C e) w.1 (Or.inr ⟨by omega, w.2⟩) d z
      · rw [List.mem_singleton] at z
        rw [z]; exact kdig_ne hO q1
theorem kpath_inj {D : zE} {C : zK} (hO : eOK D) (hK : kT D C) : ∀ (e : Nat), kin D e → ∀ f, kin D f → kpath D C 41 e = kpath D C 41 f → e = f := by
  have hn := hO.n
  intro e
  induction e using Nat.strongRecOn with
  | ind e ih =>
    intro hk f hkf h
    rcases hk with q | ⟨q1, q2⟩
    · subst q
      rcases hkf with z | ⟨z1, z2⟩
      · exact z.symm
      · rw [kpath_40, kpath_step hO hK z1 z2] at h
        have := congrArg List.length h
        simp at this
    · rcases hkf with z | ⟨z1, z2⟩
      · subst z
        rw [kpath_40, kpath_step hO hK q1 q2] at h
        have := congrArg List.length h
        simp at this
      · rw [kpath_step hO hK q1 q2, kpath_step hO hK z1 z2] at h
        have h2 := List.append_inj' h rfl
        have h3 : kdig D C e = kdig D C f := by
          have := h2.2
          simpa using this
        exact kdig_inj hO q1 z1 h3
theorem kkey_inj {D : zE} {C : zK} (hO : eOK D) (hK : kT D C) {e f : Nat} (he : kin D e) (hf : kin D f) (h : kkey D C e = kkey D C f) : e = f := by
  unfold kkey at h
  exact kpath_inj hO hK e he f hf (List.append_inj' h rfl).1
theorem kchain_self {C : zK} {e : Nat} (h : e ≠ 40) : kchain C e e := ⟨h, 0, rfl, fun j hj => absurd hj (Nat.not_lt_zero _)⟩
theorem kchain_step {C : zK} {e x : Nat} (he : e ≠ 40) : kchain C e x ↔ x = e ∨ kchain C (kpl C e) x := by
  constructor
  · rintro ⟨h0, k, h1, h2⟩
    cases k with
    | zero => exact Or.inl h1.symm
    | succ k =>
      refine Or.inr ⟨h0, k, h1, fun j hj => ?_⟩
      exact h2 (j + 1) (by omega)
  · rintro (h | ⟨h0, k, h1, h2⟩)
    · subst h; exact kchain_self he
    · refine ⟨h0, k + 1, h1, fun j hj => ?_⟩
      cases j with
      | zero => exact he
      | succ j => exact h2 j (by omega)
theorem kchain_40 {C : zK} {x : Nat} : ¬ kchain C 40 x := by
  rintro ⟨h0, k, h1, h2⟩
  cases k with
  | zero => exact h0 h1.symm
  | succ k => exact h2 0 (by omega) rfl
theorem kchain_pre {D : zE} {C : zK} (hO : eOK D) (hK : kT D C) : ∀ (e : Nat), kin D e → ∀ c, kchain C e c → kin D c ∧ c ≠ 40 ∧ ∃ t, kpath D C 41 e = kpath D C 41 c ++ t := by
  have hn := hO.n
  intro e
  induction e using Nat.strongRecOn with
  | ind e ih =>
    intro hk c hc
    rcases hk with q | ⟨q1, q2⟩
    · subst q; exact absurd hc kchain_40
    · rcases (kchain_step (by omega)).mp hc with z | z
      · subst z; exact ⟨Or.inr ⟨q1, q2⟩, by omega, [], (List.append_nil _).symm⟩
      · rcases hK.ins q1 q2 with w | w
        · rw [w] at z; exact absurd z kchain_40
        · obtain ⟨h1, h2, t, h3⟩ := ih (kpl C e) w.1 (Or.inr ⟨by omega, w.2⟩) c z
          refine ⟨h1, h2, t ++ [kdig D C e], ?_⟩
          rw [kpath_step hO hK q1 q2, h3, List.append_assoc]
theorem kpre_chain {D : zE} {C : zK} (hO : eOK D) (hK : kT D C) : ∀ (e : Nat), kin D e → ∀ p d t, kpath D C 41 e = p ++ d :: t → ∃ c, kchain C e c ∧ kpath D C 41 c = p ++ [d] := by
  have hn := hO.n
  intro e
  induction e using Nat.strongRecOn with
  | ind e ih =>
    intro hk p d t h
    rcases hk with q | ⟨q1, q2⟩
    · subst q; rw [kpath_40] at h; exact absurd h.symm (by simp)
    · by_cases ht : t = []
      · subst ht; exact ⟨e, kchain_self (by omega), h⟩
      · obtain ⟨t', y, rfl⟩ : ∃ t' y, t = t' ++ [y] := ⟨t.dropLast, t.getLast ht, (List.dropLast_concat_getLast ht).symm⟩
        rw [kpath_step hO hK q1 q2, show p ++ d :: (t' ++ [y]) = (p ++ d :: t') ++ [y] from by simp] at h
        have h2 := (List.append_inj' h rfl).1
        rcases hK.ins q1 q2 with w | w
        · rw [w, kpath_40] at h2; exact absurd h2.symm (by simp)
        · obtain ⟨c, h3, h4⟩ := ih (kpl C e) w.1 (Or.inr ⟨by omega, w.2⟩) p d t' h2
          exact ⟨c, (kchain_step (by omega)).mpr (Or.inr h3), h4⟩
theorem kin_of_chain {D : zE} {C : zK} (hO : eOK D) (hK : kT D C) {e c : Nat} (he : kin D e) (h : kchain C e c) : c < en D ∧ ein D c := by
  obtain ⟨h1, h2, _⟩ := kchain_pre hO hK e he c h
  rcases h1 with q | q
  · exact absurd q h2
  · exact q
