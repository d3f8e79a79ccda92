theorem zc_congr {n : Nat} {s t : Int64} (h : ∀ x, x < n → (zm s x ↔ zm t x)) : zc n s = zc n t := by
  induction n with
  | zero => rfl
  | succ n ih =>
    rw [zc_succ, zc_succ, ih (fun x hx => h x (by omega))]
    congr 1
    by_cases q : zm s n
    · rw [if_pos q, if_pos ((h n (by omega)).mp q)]
    · rw [if_neg q, if_neg (fun z => q ((h n (by omega)).mpr z))]
theorem zc_zero (n : Nat) : zc n 0 = 0 := by
  induction n with
  | zero => rfl
  | succ n ih => rw [zc_succ, ih, if_neg zm_zero]
theorem zc_ins {n : Nat} {s t : Int64} {e : Nat} (he : e < n) (hs : ¬ zm s e) (h : ∀ x, zm t x ↔ zm s x ∨ x = e) : zc n t = zc n s + 1 := by
  induction n with
  | zero => omega
  | succ n ih =>
    rw [zc_succ, zc_succ]
    by_cases q : e = n
    · subst q
      rw [if_pos ((h e).mpr (Or.inr rfl)), if_neg hs, zc_congr (fun x hx => (h x).trans (or_iff_left (by omega)))]
    · rw [ih (by omega)]
      have : (zm t n ↔ zm s n) := (h n).trans (or_iff_left (fun z => q z.symm))
      by_cases q2 : zm s n
      · rw [if_pos q2, if_pos (this.mpr q2)]
      · rw [if_neg q2, if_neg (fun z => q2 (this.mp z))]
theorem zc_pos {n : Nat} {s : Int64} (h : zc n s ≠ 0) : ∃ e, e < n ∧ zm s e := by
  induction n with
  | zero => exact absurd rfl h
  | succ n ih =>
    by_cases q : zm s n
    · exact ⟨n, by omega, q⟩
    · rw [zc_succ, if_neg q] at h
      obtain ⟨e, h1, h2⟩ := ih h
      exact ⟨e, by omega, h2⟩
theorem zc_mono {n : Nat} {s t : Int64} (h : ∀ x, zm s x → zm t x) : zc n s ≤ zc n t := by
  induction n with
  | zero => exact Nat.le_refl _
  | succ n ih =>
    rw [zc_succ, zc_succ]
    by_cases q : zm s n
    · rw [if_pos q, if_pos (h n q)]; omega
    · rw [if_neg q]; omega
theorem zc_lt {n : Nat} {s t : Int64} {e : Nat} (he : e < n) (hs : ¬ zm s e) (ht : zm t e) (h : ∀ x, zm s x → zm t x) : zc n s < zc n t := by
  have h1 : zc n (s ||| zbit e) = zc n s + 1 ∨ 64 ≤ e := by
    by_cases q : e < 64
    · exact Or.inl (zc_ins he hs (fun x => by rw [zm_or, zm_bit q]))
    · exact Or.inr (by omega)
  rcases h1 with h1 | h1
  · have h2 : zc n (s ||| zbit e) ≤ zc n t := zc_mono fun x hx => by
      rcases zm_or.mp hx with q | q
      · exact h x q
      · rw [zm_bit (zm_lt ht)] at q
        exact q ▸ ht
    omega
  · exact absurd (zm_lt ht) (by omega)
theorem zc_bel {n : Nat} {s : Int64} (hn : n ≤ 40) (h : zbel n s) : zc 64 s = zc 40 s := zc_more (n := 40) 24 (fun e he q => absurd (h e q) (by omega))
theorem z_count {n : Nat} {s : Int64} (hn : n ≤ 40) (h : zbel n s) : m_Long_bitCount s = some (zi (zc 40 s)) := by rw [z_bitCount, zc_bel hn h]
theorem eord_len {D : zE} (hO : eOK D) : ∀ (d : Nat) (w : Int64) (l : Option Nat), zbel (en D) w → zc 40 w ≤ d → (eord D d w l).length = zc 40 w := by
  have hn := hO.n
  intro d
  induction d with
  | zero => intro w l hw h; exact (Nat.le_zero.mp h).symm
  | succ d ih =>
    intro w l hw h
    by_cases h0 : w = 0
    · subst h0; rw [eord_none enext_none, zc_zero]; rfl
    · obtain ⟨e, he⟩ := enext_some hO (l := l) hw h0
      have h1 := enext_lt hO he
      have h2 := (erdy_iff.mp h1.2).1
      rw [eord_some he, List.length_cons]
      have : zc 40 w = zc 40 (w &&& (zbit e ^^^ (-1 : Int64))) + 1 := by
        apply zc_ins (e := e) (by omega)
        · intro q; exact (zm_diff.mp q).2 ((zm_bit (by omega)).mpr rfl)
        · intro x
          rw [zm_diff, zm_bit (by omega)]
          constructor
          · intro q
            by_cases z : x = e
            · exact Or.inr z
            · exact Or.inl ⟨q, z⟩
          · rintro (q | q)
            · exact q.1
            · exact q ▸ h2
      rw [ih _ _ (fun x hx => hw x (zm_diff.mp hx).1) (by omega), this]
theorem eord_mem {D : zE} (hO : eOK D) : ∀ (d : Nat) (w : Int64) (l : Option Nat) (e : Nat), e ∈ eord D d w l → e < en D ∧ zm w e := by
  intro d
  induction d with
  | zero => intro w l e h; cases h
  | succ d ih =>
    intro w l e h
    cases hx : enext D w l with
    | none => rw [eord_none hx] at h; cases h
    | some y =>
      rw [eord_some hx] at h
      have h1 := enext_lt hO hx
      rcases List.mem_cons.mp h with q | q
      · subst q; exact ⟨h1.1, (erdy_iff.mp h1.2).1⟩
      · have := ih _ _ _ q
        exact ⟨this.1, (zm_diff.mp this.2).1⟩
def ecrit (D : zE) (g : Int64) (e : Nat) : Bool := (List.range 64).all (fun f => !zm g f || f == e || zm (ean D e) f || zm (ean D f) e)
theorem ecrit_iff {D : zE} {g : Int64} {e : Nat} : ecrit D g e ↔ ∀ f, zm g f → f = e ∨ zm (ean D e) f ∨ zm (ean D f) e := by
  unfold ecrit
  rw [List.all_eq_true]
  constructor
  · intro h f hf
    have := h f (List.mem_range.mpr (zm_lt hf))
    rw [hf] at this
    simp only [Bool.not_true, Bool.false_or, Bool.or_eq_true, beq_iff_eq] at this
    rcases this with (q | q) | q
    · exact Or.inl q
    · exact Or.inr (Or.inl q)
    · exact Or.inr (Or.inr q)
  · intro h f _
    cases hf : zm g f with
    | false => rfl
    | true =>
      simp only [Bool.not_true, Bool.false_or, Bool.or_eq_true, beq_iff_eq]
      rcases h f hf with q | q | q
      · exact Or.inl (Or.inl q)
      · exact Or.inl (Or.inr q)
      · exact Or.inr q
theorem z_upTo {D : zE} {u : xS} (hO : eOK D) (hu : cE D u) {e : Nat} (he : e < en D) : m_History_upTo (zi e) u = some (ean D e ||| zbit e) := by
  have hn := hO.n
  unfold m_History_upTo
  rw [if_neg (zne_m1 (by omega)), zg (zin (by omega) (by omega)), zb1 (z_bit e), zi_nat (by omega), hu.an he]
theorem z_upTo_none {u : xS} : m_History_upTo (-1) u = some 0 := by
  unfold m_History_upTo
  rw [if_pos rfl]
theorem z_descendantsOf {D : zE} {u : xS} (hO : eOK D) (hu : cE D u) {e : Nat} (he : e < en D) (g : Int64) : ∃ r, m_History_descendantsOf (zi e) g u = some r ∧ ∀ x, zm r x ↔ ∃ f, f < en D ∧ (e < f ∧ zm g f ∧ zm (ean D f) e) ∧ x = f := by
  have hn := hO.n
  unfold m_History_descendantsOf
  rw [zsucc]
  refine zinv (fun fu (a : Int64) k => m_History_descendantsOf_l8 fu (zi e) g a (zi k) u) (en D) (fun k a => e < k ∧ ∀ x, zm a x ↔ ∃ f, f < k ∧ (e < f ∧ zm g f ∧ zm (ean D f) e) ∧ x = f) (fun o => ∃ r, o = some r ∧ ∀ x, zm r x ↔ ∃ f, f < en D ∧ (e < f ∧ zm g f ∧ zm (ean D f) e) ∧ x = f) ?_ ?_ (en D - (e + 1)) (e + 1) xFU 0 (by omega) (by unfold xFU; omega) ?_
  · intro fu a hI
    refine ⟨a, ?_, hI.2⟩
    show m_History_descendantsOf_s8 _ _ _ _ _ _ = _
    unfold m_History_descendantsOf_s8
    rw [hu.n, if_pos (zle_n (by omega) (by omega) (Nat.le_refl _))]
  · intro fu a k hk hI
    refine Or.inl ?_
    show ∃ a', _ ∧ m_History_descendantsOf_s8 _ _ _ _ _ _ = _
    unfold m_History_descendantsOf_s8
    rw [hu.n, if_neg (zle_nn (by omega) (by omega) hk), zb1 (z_has (by omega)), zsucc, zg (zin (by omega) (by omega)), zi_nat (by omega), hu.an hk, zb1 (z_has (by omega)), zb1 (z_bit k)]
    by_cases h : zm g k
    · rw [if_neg (fun q => (zb_eq0.mp q) h)]
      by_cases h2 : zm (ean D k) e
      · rw [if_neg (fun q => (zb_eq0.mp q) h2)]
        exact ⟨_, ⟨by omega, fun x => by rw [zm_or, hI.2, zex_succ, zor_yes ⟨hI.1, h, h2⟩, zm_bit (by omega)]⟩, rfl⟩
      · rw [if_pos (zb_eq0.mpr h2)]
        exact ⟨_, ⟨by omega, fun x => by rw [hI.2, zex_succ, zor_no (fun q => h2 q.2.2)]⟩, rfl⟩
    · rw [if_pos (zb_eq0.mpr h)]
      exact ⟨_, ⟨by omega, fun x => by rw [hI.2, zex_succ, zor_no (fun q => h q.2.1)]⟩, rfl⟩
  · exact ⟨by omega, fun x => ⟨fun h => absurd h zm_zero, fun ⟨f, h1, h2, _⟩ => absurd h2.1 (by omega)⟩⟩
theorem z_isCritical {D : zE} {u : xS} (hO : eOK D) (hu : cE D u) {e : Nat} (he : e < en D) {g : Int64} (hg : zbel (en D) g) : m_History_isCritical (zi e) g u = some (zb (ecrit D g e)) := by
  have hn := hO.n
  unfold m_History_isCritical
  obtain ⟨r, h1, h2⟩ := z_descendantsOf hO hu he g
  rw [zb1 (z_upTo hO hu he), zb1 h1]
  have key : g &&& ((ean D e ||| zbit e ||| r) ^^^ (-1 : Int64)) = 0 ↔ ecrit D g e := by
    rw [zm_eq0, ecrit_iff]
    constructor
    · intro h f hf
      have hh := h f
      rw [zm_diff, zm_or, zm_or, zm_bit (by omega), h2] at hh
      by_cases a1 : f = e
      · exact Or.inl a1
      · by_cases a2 : zm (ean D e) f
        · exact Or.inr (Or.inl a2)
        · by_cases a3 : ∃ y, y < en D ∧ (e < y ∧ zm g y ∧ zm (ean D y) e) ∧ f = y
          · obtain ⟨y, _, h4, rfl⟩ := a3
            exact Or.inr (Or.inr h4.2.2)
          · exact absurd ⟨hf, fun q => q.elim (fun q => q.elim a2 a1) a3⟩ hh
    · intro h f hf
      rw [zm_diff, zm_or, zm_or, zm_bit (by omega), h2] at hf
      rcases h f hf.1 with q | q | q
      · exact hf.2 (Or.inl (Or.inr q))
      · exact hf.2 (Or.inl (Or.inl q))
      · exact hf.2 (Or.inr ⟨f, hg f hf.1, ⟨hO.sub (hg f hf.1) e q, hf.1, q⟩, rfl⟩)
  by_cases h : ecrit D g e
  · rw [if_pos (key.mpr h), zb_pos h]
  · rw [if_neg (fun q => h (key.mp q)), zb_neg h]
theorem z_misCritical {D : zE} {v : xS} (hO : eOK D) (hv : mE D v) {e : Nat} (he : e < en D) {g : Int64} (hg : zbel (en D) g) : m_Model_isCritical g (zi e) v = some (zb (ecrit D g e)) := by
  have hn := hO.n
  refine zinv (fun fu (a : Unit) k => m_Model_isCritical_l3 fu g (zi e) (zi k) v) (en D) (fun k a => ∀ f, f < k → zm g f → f = e ∨ zm (ean D e) f ∨ zm (ean D f) e) (fun o => o = some (zb (ecrit D g e))) ?_ ?_ (en D) 0 xFU () (by omega) (by unfold xFU; omega) ?_
  · intro fu a hI
    show m_Model_isCritical_s3 _ _ _ _ _ = _
    unfold m_Model_isCritical_s3
    rw [hv.n, if_pos (zle_n (by omega) (by omega) (Nat.le_refl _)), zb_pos (ecrit_iff.mpr fun f hf => hI f (hg f hf) hf)]
  · intro fu a k hk hI
    show (∃ a', _ ∧ m_Model_isCritical_s3 _ _ _ _ _ = _) ∨ m_Model_isCritical_s3 _ _ _ _ _ = _
    unfold m_Model_isCritical_s3
    rw [hv.n, if_neg (zle_nn (by omega) (by omega) hk), zb1 (z_in (by omega)), zsucc, zg (zin (by omega) (by omega)), zi_nat (by omega), hv.an he, zb1 (z_in (by omega)), zg (zin (by omega) (by omega)), zi_nat (by omega), hv.an hk, zb1 (z_in (by omega))]
    have ext : ∀ {q : Prop}, (zm g k → k = e ∨ zm (ean D e) k ∨ zm (ean D k) e) → ∀ f, f < k + 1 → zm g f → f = e ∨ zm (ean D e) f ∨ zm (ean D f) e := by
      intro _ hq f hf hgf
      by_cases z : f = k
      · subst z; exact hq hgf
      · exact hI f (by omega) hgf
    by_cases h : zm g k
    · rw [if_neg (fun q => (zb_eq0.mp q) h)]
      by_cases h1 : k = e
      · rw [if_pos (by rw [h1])]
        exact Or.inl ⟨(), ext (q := True) (fun _ => Or.inl h1), rfl⟩
      · rw [if_neg (fun q => h1 ((zeq (by omega) (by omega)).mp q))]
        by_cases h2 : zm (ean D e) k
        · rw [if_neg (fun q => (zb_eq0.mp q) h2)]
          exact Or.inl ⟨(), ext (q := True) (fun _ => Or.inr (Or.inl h2)), rfl⟩
        · rw [if_pos (zb_eq0.mpr h2)]
          by_cases h3 : zm (ean D k) e
          · rw [if_neg (fun q => (zb_eq0.mp q) h3)]
            exact Or.inl ⟨(), ext (q := True) (fun _ => Or.inr (Or.inr h3)), rfl⟩
          · rw [if_pos (zb_eq0.mpr h3)]
            refine Or.inr ?_
            rw [zb_neg (fun q => ((ecrit_iff.mp q) k h).elim h1 (fun z => z.elim h2 h3))]
    · rw [if_pos (zb_eq0.mpr h)]
      exact Or.inl ⟨(), ext (q := True) (fun q => absurd q h), rfl⟩
  · exact fun f hf => absurd hf (Nat.not_lt_zero _)
def elast (D : zE) (g a : Int64) (k : Nat) : Option Nat := (List.range k).reverse.find? (fun e => zm a e && ecrit D g e)
theorem elast_succ {D : zE} {g a : Int64} {k : Nat} : elast D g a (k + 1) = if zm a k && ecrit D g k then some k else elast D g a k := by
  unfold elast
  rw [List.range_succ, List.reverse_append]
  show List.find? _ (k :: (List.range k).reverse) = _
  rw [List.find?_cons]
  cases (zm a k && ecrit D g k) <;> rfl
theorem elast_lt {D : zE} {g a : Int64} {k e : Nat} (h : elast D g a k = some e) : e < k ∧ zm a e ∧ ecrit D g e := by
  have := zfind_mem h
  rw [Bool.and_eq_true] at this
  exact ⟨List.mem_range.mp (List.mem_reverse.mp this.1), this.2⟩
theorem z_lastCritical {D : zE} {u : xS} (hO : eOK D) (hu : cE D u) {g a : Int64} (hg : zbel (en D) g) : m_History_lastCritical g a u = some (zo (elast D g a (en D))) := by
  have hn := hO.n
  unfold m_History_lastCritical
  have key : ∀ k fu, k ≤ en D → k < fu → m_History_lastCritical_l8 fu g a (zi k - 1) u = some (zo (elast D g a k)) := by
    intro k
    induction k with
    | zero =>
      intro fu _ hf
      obtain ⟨q, rfl⟩ : ∃ q, fu = q + 1 := ⟨fu - 1, by omega⟩
      show m_History_lastCritical_s8 _ _ _ _ _ = _
      unfold m_History_lastCritical_s8
      rw [if_pos (show zi 0 - 1 < 0 from by decide)]; rfl
    | succ k ih =>
      intro fu hk hf
      obtain ⟨q, rfl⟩ : ∃ q, fu = q + 1 := ⟨fu - 1, by omega⟩
      show m_History_lastCritical_s8 _ _ _ _ _ = _
      unfold m_History_lastCritical_s8
      have e1 : zi k + (-1 : Int32) = zi k - 1 := (Int32.sub_eq_add_neg (zi k) 1).symm
      rw [zpred, if_neg (znn (by omega)), zb1 (z_has (by omega)), zb1 (z_isCritical hO hu (by omega) hg), e1, ih q (by omega) (by omega), elast_succ]
      cases h1 : zm a k with
      | false => rw [if_pos (zb_eq0.mpr (by simp))]; rfl
      | true =>
        rw [if_neg (fun z => (zb_eq0.mp z) rfl)]
        cases h2 : ecrit D g k with
        | false => rw [if_pos (zb_eq0.mpr (by simp))]; rfl
        | true => rw [if_neg (fun z => (zb_eq0.mp z) rfl)]; rfl
  rw [hu.n]
  exact key (en D) xFU (Nat.le_refl _) (by unfold xFU; omega)
theorem z_top {D : zE} {v : xS} (hO : eOK D) (hv : mE D v) {g a : Int64} (hg : zbel (en D) g) (ha : ∀ x, zm a x → zm g x) : m_Model_top g a v = some (zo (elast D g a (en D))) := by
  have hn := hO.n
  refine zinv (fun fu (b : Int32) k => m_Model_top_l6 fu g a b (zi k) v) (en D) (fun k b => b = zo (elast D g a k)) (fun o => o = some (zo (elast D g a (en D)))) ?_ ?_ (en D) 0 xFU (-1) (by omega) (by unfold xFU; omega) rfl
  · intro fu b hI
    show m_Model_top_s6 _ _ _ _ _ _ = _
    unfold m_Model_top_s6
    rw [hv.n, if_pos (zle_n (by omega) (by omega) (Nat.le_refl _)), hI]
  · intro fu b k hk hI
    refine Or.inl ?_
    show ∃ a', _ ∧ m_Model_top_s6 _ _ _ _ _ _ = _
    unfold m_Model_top_s6
    subst hI
    rw [hv.n, if_neg (zle_nn (by omega) (by omega) hk), zb1 (z_in (by omega)), zsucc, zb1 (z_misCritical hO hv hk hg), elast_succ]
    cases h1 : zm a k with
    | false => rw [if_pos (zb_eq0.mpr (by simp))]; exact ⟨_, rfl, rfl⟩
    | true =>
      rw [if_neg (fun z => (zb_eq0.mp z) rfl)]
      cases h2 : ecrit D g k with
      | false => rw [if_pos (zb_eq0.mpr (by simp))]; exact ⟨_, rfl, rfl⟩
      | true =>
        rw [if_neg (fun z => (zb_eq0.mp z) rfl)]
        cases h3 : elast D g a k with
        | none => rw [zo_none, if_pos zm1_lt]; exact ⟨_, rfl, rfl⟩
        | some e =>
          have h4 := elast_lt h3
          have h5 : zm (ean D k) e := by
            rcases (ecrit_iff.mp h4.2.2) k (ha k h1) with q | q | q
            · omega
            · exact absurd (hO.sub (by omega) k q) (by omega)
            · exact q
          have h6 : zc 40 (ean D e) < zc 40 (ean D k) := zc_lt (e := e) (by omega) (fun q => absurd (hO.sub (by omega) e q) (by omega)) h5 (hO.cl hk e h5)
          have h7 := zc_le 40 (ean D e)
          have h8 := zc_le 40 (ean D k)
          rw [zo_some, if_neg (znn (by omega)), zg (zin (by omega) (by omega)), zi_nat (by omega), hv.an hk, zb1 (z_many _), zg (zin (by omega) (by omega)), zi_nat (by omega), hv.an (by omega), zb1 (z_many _), if_neg (zle_nn (by omega) (by omega) h6)]
          exact ⟨_, rfl, rfl⟩
