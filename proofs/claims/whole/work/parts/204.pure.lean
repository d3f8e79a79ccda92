abbrev elt (D : zE) (e f : Nat) : Prop := esi D e < esi D f ∨ (esi D e = esi D f ∧ e < f)
theorem elt_asym {D : zE} {e f : Nat} (h : elt D e f) : ¬ elt D f e := by
  unfold elt at *; omega
theorem elt_trans {D : zE} {e f g : Nat} (h : elt D e f) (h2 : elt D f g) : elt D e g := by
  unfold elt at *; omega
theorem elt_tri {D : zE} {e f : Nat} : e = f ∨ elt D e f ∨ elt D f e := by
  unfold elt; omega
def eis (D : zE) (s k : Nat) : List Nat := (List.range' k (en D - k)).filter (fun e => esi D e == s)
theorem eis_end {D : zE} {s k : Nat} (h : en D ≤ k) : eis D s k = [] := by
  unfold eis; rw [Nat.sub_eq_zero_of_le h]; rfl
theorem eis_step {D : zE} {s k : Nat} (h : k < en D) : eis D s k = if esi D k = s then k :: eis D s (k + 1) else eis D s (k + 1) := by
  unfold eis
  obtain ⟨d, hd⟩ : ∃ d, en D - k = d + 1 := ⟨en D - k - 1, by omega⟩
  rw [hd, show en D - (k + 1) = d from by omega, List.range'_succ, List.filter_cons]
  by_cases q : esi D k = s
  · simp [q]
  · simp [q]
def efr (D : zE) : Nat → List Nat
  | 0 => []
  | d + 1 => eis D (2 - d) 0 ++ efr D d
def eids (D : zE) : List Nat := efr D 3
theorem eis_mem {D : zE} {s k e : Nat} : e ∈ eis D s k ↔ k ≤ e ∧ e < en D ∧ esi D e = s := by
  unfold eis
  rw [List.mem_filter, List.mem_range'_1]
  simp only [beq_iff_eq]
  omega
theorem efr_mem {D : zE} {e : Nat} : ∀ {d : Nat}, d ≤ 3 → (e ∈ efr D d ↔ e < en D ∧ 3 - d ≤ esi D e ∧ esi D e < 3) := by
  intro d
  induction d with
  | zero => intro _; unfold efr; simp only [List.not_mem_nil, false_iff]; omega
  | succ d ih => intro hd; unfold efr; rw [List.mem_append, eis_mem, ih (by omega)]; omega
theorem eids_mem {D : zE} (hO : eOK D) {e : Nat} : e ∈ eids D ↔ e < en D := by
  unfold eids
  rw [efr_mem (by omega)]
  exact ⟨fun h => h.1, fun h => ⟨h, by omega, hO.si h⟩⟩
theorem efr_sorted {D : zE} : ∀ {d : Nat}, d ≤ 3 → (efr D d).Pairwise (elt D) := by
  intro d
  induction d with
  | zero => intro _; exact List.Pairwise.nil
  | succ d ih =>
    intro hd
    unfold efr
    rw [List.pairwise_append]
    refine ⟨?_, ih (by omega), ?_⟩
    · unfold eis
      have h : (List.range' 0 (en D - 0)).Pairwise (· < ·) := List.pairwise_lt_range'
      rw [List.pairwise_filter]
      refine h.imp ?_
      intro a b hab ha hb
      simp only [beq_iff_eq] at ha hb
      exact Or.inr ⟨by rw [ha, hb], hab⟩
    · intro a ha b hb
      have h1 := eis_mem.mp ha
      have h2 := (efr_mem (by omega)).mp hb
      exact Or.inl (by omega)
theorem eids_sorted {D : zE} : (eids D).Pairwise (elt D) := efr_sorted (Nat.le_refl 3)
def zo : Option Nat → Int32
  | none => -1
  | some e => zi e
theorem zfind_least {D : zE} {L : List Nat} {P : Nat → Bool} {e : Nat} (hs : L.Pairwise (elt D)) (he : e ∈ L) (hp : P e) (hl : ∀ f, f ∈ L → P f → f = e ∨ elt D e f) : L.find? P = some e := by
  induction L with
  | nil => cases he
  | cons a t ih =>
    rw [List.find?_cons]
    have ht := List.pairwise_cons.mp hs
    cases hpa : P a with
    | true =>
      rcases hl a (List.mem_cons_self) hpa with h | h
      · simp only [h]
      · rcases List.mem_cons.mp he with q | q
        · subst q; simp only
        · exact absurd (ht.1 e q) (elt_asym h)
    | false =>
      simp only
      rcases List.mem_cons.mp he with q | q
      · subst q; rw [hpa] at hp; cases hp
      · exact ih ht.2 q (fun f hf => hl f (List.mem_cons_of_mem _ hf))
theorem enu_lt {D : zE} (hO : eOK D) {e f : Nat} (he : e < en D) (hf : f < en D) (hs : esi D e = esi D f) : enu D e < enu D f ↔ e < f := by
  have key : ∀ {a b : Nat}, a < en D → b < en D → esi D a = esi D b → a < b → enu D a < enu D b := by
    intro a b ha hb hab h
    rw [hO.nu ha, hO.nu hb, hab]
    have h1 : ecnt D (esi D b) (a + 1) = ecnt D (esi D b) a + 1 := by
      show _ + _ = _
      rw [if_pos hab]
    have h2 := ecnt_mono D (esi D b) (show a + 1 ≤ b from h)
    omega
  constructor
  · intro h
    by_cases q : e < f
    · exact q
    · by_cases q2 : e = f
      · subst q2; omega
      · have := key hf he hs.symm (by omega)
        omega
  · exact key he hf hs
theorem z_comesBefore {D : zE} {u : xS} (hO : eOK D) (hu : cE D u) {e f : Nat} (he : e < en D) (hf : f < en D) : m_History_comesBefore (zi e) (zi f) u = some (if elt D e f then 1 else 0) := by
  have hn := hO.n
  unfold m_History_comesBefore
  rw [zg (zin (by omega) (by omega)), zg (zin (by omega) (by omega)), zi_nat (by omega), zi_nat (by omega), hu.si he, hu.si hf, hu.nu he, hu.nu hf]
  have a1 := hO.si he
  have a2 := hO.si hf
  have a3 := hO.nu40 he
  have a4 := hO.nu40 hf
  by_cases h : esi D e = esi D f
  · rw [if_pos (by rw [h])]
    have hlt := enu_lt hO he hf h
    by_cases q : e < f
    · rw [if_neg (zle_nn (by omega) (by omega) (hlt.mpr q)), if_pos (Or.inr ⟨h, q⟩)]
    · have : ¬ enu D e < enu D f := fun z => q (hlt.mp z)
      rw [if_pos (zle_n (by omega) (by omega) (by omega)), if_neg (fun z => z.elim (by omega) (fun z => q z.2))]
  · rw [if_neg (fun q => h ((zeq (by omega) (by omega)).mp q))]
    by_cases q : esi D e < esi D f
    · rw [if_neg (zle_nn (by omega) (by omega) q), if_pos (Or.inl q)]
    · rw [if_pos (zle_n (by omega) (by omega) (by omega)), if_neg (fun z => z.elim (by omega) (fun z => h z.1))]
