theorem ecode_nat {D : zE} {e : Nat} : ecode D e = zi (esi D e + 3 * enu D e) := by
  unfold ecode
  rw [show (3 : Int32) = zi 3 from rfl, zmul, zadd]
theorem eL_count {D : zE} (hO : eOK D) {s : Int64} (hs : zbel (en D) s) : (eL D s).length = zc 40 s := by
  have hn := hO.n
  have := zc_list (L := eids D) (s := s) eids_nodup (fun x hx => by have := (eids_mem hO).mp hx; omega) (fun x hx => (eids_mem hO).mpr (hs x hx))
  exact this.symm
theorem z_wplist_loop {D : zE} (hO : eOK D) {j : Nat} {n : Nat} (hn40 : n ≤ 40) : ∀ (M : List Nat) (s : Int64) (k fu : Nat) (R : List Int32) (u : xS), eL D s = M → k + M.length = n → M.length < fu → cE D u → cR R j u → R.length + (ecodes D M).length ≤ 442 →
    ∃ x, m_Message_writeParentList_l31 fu j (zi n) s (zo M.head?) (zi k) u = some x ∧ zfr [14 + j] [] [30 + j] [] u x ∧ cR (R ++ ecodes D M) j x := by
  have hn := hO.n
  intro M
  induction M with
  | nil =>
    intro s k fu R u hs hk hf hu hR hl
    obtain ⟨g, rfl⟩ : ∃ g, fu = g + 1 := ⟨fu - 1, by omega⟩
    refine ⟨u, ?_, zfr.rf, by show cR (R ++ []) j u; rw [List.append_nil]; exact hR⟩
    show m_Message_writeParentList_s31 _ _ _ _ _ _ _ = _
    unfold m_Message_writeParentList_s31
    rw [List.length_nil] at hk
    rw [if_pos (zle_n (by omega) (by omega) (by omega))]
  | cons e t ih =>
    intro s k fu R u hs hk hf hu hR hl
    obtain ⟨g, rfl⟩ : ∃ g, fu = g + 1 := ⟨fu - 1, by omega⟩
    rw [List.length_cons] at hk hf
    have he : e ∈ eL D s := by rw [hs]; exact List.mem_cons_self
    have he := (eL_mem hO).mp he
    unfold ecodes at hl ⊢
    rw [List.length_append] at hl
    have b1 := hO.si he.1
    have b2 := hO.nu40 he.1
    obtain ⟨x, x1, x2, x3⟩ := z_put hR (v := esi D e + 3 * enu D e) (by omega) (by omega)
    have hux : cE D x := hu.fr x2 (fun k hk => by simp <;> omega) (by decide) (by simp <;> omega)
    obtain ⟨y, y1, y2, y3⟩ := ih _ (k + 1) g _ x (eL_tail hO hs) (by omega) (by omega) hux x3 (by rw [List.length_append]; omega)
    refine ⟨y, ?_, x2.tr y2, by rw [List.append_assoc] at y3; exact y3⟩
    show m_Message_writeParentList_s31 _ _ _ _ _ _ _ = _
    unfold m_Message_writeParentList_s31
    rw [List.head?_cons, zo_some, if_neg (zle_nn (by omega) (by omega) (by omega)), if_neg (zne_m1 (by omega)), zb1 (z_codeOf hO hu he.1), ecode_nat, zb1 x1, zb1 (z_bit e), zb1 (z_leastOf hO hux _), eL_find, eL_tail hO hs, zsucc]
    exact y1
theorem epa_bel {D : zE} (hO : eOK D) {e : Nat} (he : e < en D) : zbel (en D) (epa D e) := fun x hx => by
  have := hO.sub he x (hO.paan he hx)
  omega
theorem z_wplist {D : zE} (hO : eOK D) {j : Nat} {e : Nat} (he : e < en D) {R : List Int32} {u : xS} (hu : cE D u) (hR : cR R j u) (hl : R.length + (zput (1 + zc 40 (epa D e)) ++ ecodes D (eL D (epa D e))).length ≤ 442) :
    ∃ x, m_Message_writeParentList j (epa D e) u = some x ∧ zfr [14 + j] [] [30 + j] [] u x ∧ cR (R ++ (zput (1 + zc 40 (epa D e)) ++ ecodes D (eL D (epa D e)))) j x := by
  have hn := hO.n
  have hb := epa_bel hO he
  have h40 := zc_le 40 (epa D e)
  have hc := eL_count hO hb
  rw [List.length_append] at hl
  unfold m_Message_writeParentList
  obtain ⟨x, x1, x2, x3⟩ := z_put hR (v := 1 + zc 40 (epa D e)) (by omega) (by omega)
  have hux : cE D x := hu.fr x2 (fun k hk => by simp <;> omega) (by decide) (by simp <;> omega)
  obtain ⟨y, y1, y2, y3⟩ := z_wplist_loop hO h40 (eL D (epa D e)) (epa D e) 0 xFU _ x rfl (by omega) (by unfold xFU; omega) hux x3 (by rw [List.length_append]; omega)
  rw [zb1 (z_count hn hb), zb1 (z_leastOf hO hu _), eL_find, show (1 : Int32) = zi 1 from rfl, zadd, zb1 x1]
  refine ⟨y, y1, x2.tr y2, ?_⟩
  rw [List.append_assoc] at y3; exact y3
def eprev (L : List Nat) (k : Nat) : Option Nat := if k = 0 then none else L[k - 1]?
theorem z_wparents {D : zE} (hO : eOK D) {L : List Nat} (hL : L.length ≤ 40) (hM : ∀ e, e ∈ L → e < en D) {j : Nat} : ∀ d k fu (R : List Int32) (u : xS), k + d = L.length → d < fu → cw D L u → cR R j u → R.length + (epars D (eprev L k) (L.drop k)).length ≤ 442 →
    ∃ x, m_Message_writeParents_l2 fu j (zi k) u = some x ∧ zfr [14 + j] [] [30 + j] [] u x ∧ cR (R ++ epars D (eprev L k) (L.drop k)) j x := by
  have hn := hO.n
  intro d
  induction d with
  | zero =>
    intro k fu R u hk hf hw hR hl
    obtain ⟨g, rfl⟩ : ∃ g, fu = g + 1 := ⟨fu - 1, by omega⟩
    refine ⟨u, ?_, zfr.rf, ?_⟩
    · show m_Message_writeParents_s2 _ _ _ _ = _
      unfold m_Message_writeParents_s2 m_Line_size
      rw [zb1 rfl, hw.2.1, if_pos (zle_n (by omega) (by omega) (by omega))]
    · rw [List.drop_eq_nil_of_le (by omega)]
      show cR (R ++ []) j u
      rw [List.append_nil]; exact hR
  | succ d ih =>
    intro k fu R u hk hf hw hR hl
    obtain ⟨g, rfl⟩ : ∃ g, fu = g + 1 := ⟨fu - 1, by omega⟩
    obtain ⟨e, he⟩ : ∃ x, L[k]? = some x := ⟨_, List.getElem?_eq_getElem (by omega)⟩
    have hen := hM e (List.mem_of_getElem? he)
    rw [zdrop_step he] at hl ⊢
    have hpk : eprev L (k + 1) = some e := by unfold eprev; rw [if_neg (by omega)]; exact he
    have full : R.length + ((zput (1 + zc 40 (epa D e)) ++ ecodes D (eL D (epa D e))) ++ epars D (some e) (L.drop (k + 1))).length ≤ 442 → ∃ x, m_Message_writeParents_b52 (m_Message_writeParents_l2 g) j (zi k) (epa D e) u = some x ∧ zfr [14 + j] [] [30 + j] [] u x ∧ cR (R ++ ((zput (1 + zc 40 (epa D e)) ++ ecodes D (eL D (epa D e))) ++ epars D (some e) (L.drop (k + 1)))) j x := by
      intro hl
      rw [List.length_append] at hl
      obtain ⟨x, x1, x2, x3⟩ := z_wplist hO hen hw.1 hR (by omega)
      obtain ⟨y, y1, y2, y3⟩ := ih (k + 1) g _ x (by omega) (by omega) (hw.fr x2) x3 (by rw [hpk, List.length_append]; omega)
      rw [hpk, List.append_assoc] at y3
      refine ⟨y, ?_, x2.tr y2, y3⟩
      unfold m_Message_writeParents_b52
      rw [zb1 x1, zsucc]; exact y1
    show ∃ x, m_Message_writeParents_s2 _ _ _ _ = _ ∧ _
    unfold m_Message_writeParents_s2 m_Line_size
    rw [zb1 rfl, hw.2.1, if_neg (zle_nn (by omega) (by omega) (by omega)), zb1 (z_get hw.2 hL he), zb1 (z_parentsOf hO hw.1 hen)]
    unfold epars at hl ⊢
    cases k with
    | zero =>
      rw [if_pos (show zi 0 ≤ 0 from by decide)]
      exact full hl
    | succ k =>
      obtain ⟨y, hy⟩ : ∃ x, L[k]? = some x := ⟨_, List.getElem?_eq_getElem (by omega)⟩
      have hyn := hM y (List.mem_of_getElem? hy)
      have hpy : eprev L (k + 1) = some y := by unfold eprev; rw [if_neg (by omega)]; exact hy
      rw [hpy] at hl ⊢
      rw [if_neg (show ¬ zi (k + 1) ≤ 0 from fun q => absurd ((zle (b := 0) (by omega) (by omega)).mp q) (by omega)), zpred, zb1 (z_get hw.2 hL hy), zb1 (z_bit y)]
      by_cases q : epa D e = zbit y
      · have qb : (epa D e == zbit y) = true := beq_iff_eq.mpr q
        simp only [qb, if_true] at hl ⊢
        rw [List.length_append] at hl
        obtain ⟨x, x1, x2, x3⟩ := z_put hR (v := 0) (by omega) (by omega)
        obtain ⟨z, z1, z2, z3⟩ := ih (k + 1 + 1) g _ x (by omega) (by omega) (hw.fr x2) x3 (by rw [hpk, List.length_append]; omega)
        rw [hpk, List.append_assoc] at z3
        rw [if_pos q]
        refine ⟨z, ?_, x2.tr z2, z3⟩
        rw [show (0 : Int32) = zi 0 from rfl, zb1 x1, zsucc]; exact z1
      · have qb : (epa D e == zbit y) = false := by
          cases h : (epa D e == zbit y) with
          | false => rfl
          | true => exact absurd (beq_iff_eq.mp h) q
        simp only [qb, Bool.false_eq_true, if_false] at hl ⊢
        rw [if_neg q]
        exact full hl
theorem z_write {D : zE} (hO : eOK D) {L : List Nat} (hL : L.length ≤ 40) (hne : L ≠ []) (hM : ∀ e, e ∈ L → e < en D) {j : Nat} {u : xS} (hw : cw D L u) (hl : (encL D L).length ≤ 442) : ∃ x, m_Message_write j u = some x ∧ zfr [14 + j] [] [30 + j] [] u x ∧ cR (encL D L) j x := by
  have hn := hO.n
  unfold m_Message_write m_OctetRow_clear m_Line_size
  rw [zlet, zb1 rfl]
  have f0 : zfr [14 + j] [] [30 + j] [] u (xs_si u (30 + j) (0 : Int32)) := zfr_si List.mem_cons_self
  have hw0 := hw.fr f0
  have hR0 : cR [] j (xs_si u (30 + j) (0 : Int32)) := ⟨zii, fun k y h => by cases h⟩
  unfold encL at hl ⊢
  rw [List.length_append, List.length_append, List.length_append, List.length_append, List.length_append] at hl
  obtain ⟨u1, a1, a2, a3⟩ := z_put hR0 (v := L.length) (by omega) (by rw [List.length_nil]; omega)
  rw [List.nil_append] at a3
  have hw1 := hw0.fr a2
  obtain ⟨f, t, hft⟩ : ∃ f t, L = f :: t := List.exists_cons_of_ne_nil hne
  have hd1 : L.drop 1 = t := by rw [hft]; rfl
  have hes : esites D L = eruns D f 1 (L.drop 1) := by rw [hd1, hft]; rfl
  have h0f : L[0]? = some f := by rw [hft]; rfl
  have hpos : 1 ≤ L.length := by rw [hft, List.length_cons]; omega
  obtain ⟨u2, b1, b2, b3⟩ := z_wsites hO hL hM (j := j) (L.length - 1) 1 0 1 xFU _ f u1 (by omega) (by unfold xFU; omega) (by omega) h0f hw1 a3 (by rw [← hes]; omega)
  rw [← hes] at b3
  have hw2 := hw1.fr b2
  obtain ⟨u3, c1, c2, c3⟩ := z_wkinds hO hL hM (j := j) L.length 0 0 xFU true _ u2 (by omega) (by unfold xFU; omega) (by omega) hw2 b3 (by rw [List.drop_zero, List.length_append]; omega)
  rw [List.drop_zero] at c3
  have hw3 := hw2.fr c2
  obtain ⟨u4, d1, d2, d3⟩ := z_windices hO hL hM (j := j) L.length 0 0 xFU _ u3 (by omega) (by unfold xFU; omega) (by omega) hw3 c3 (by rw [List.drop_zero, List.length_append, List.length_append]; omega)
  rw [List.drop_zero] at d3
  have hw4 := hw3.fr d2
  obtain ⟨u5, e1, e2, e3⟩ := z_wchars hO hL hM (j := j) L.length 0 0 xFU _ u4 (by omega) (by unfold xFU; omega) (by omega) hw4 d3 (by rw [List.drop_zero, List.length_append, List.length_append, List.length_append]; omega)
  rw [List.drop_zero] at e3
  have hw5 := hw4.fr e2
  obtain ⟨u6, g1, g2, g3⟩ := z_wparents hO hL hM (j := j) L.length 0 xFU _ u5 (by omega) (by unfold xFU; omega) hw5 e3 (by rw [List.drop_zero, List.length_append, List.length_append, List.length_append, List.length_append]; show _ + (epars D none L).length ≤ 442; omega)
  rw [List.drop_zero] at g3
  refine ⟨u6, ?_, ((((f0.tr a2).tr b2).tr c2).tr d2).tr (e2.tr g2), ?_⟩
  · rw [zb1 rfl, hw0.2.1, zb1 a1, zb1 (show m_Message_writeSites j u1 = _ from b1), zb1 (show m_Message_writeKinds j u2 = _ from c1), zb1 (show m_Message_writeIndices j u3 = _ from d1), zb1 (show m_Message_writeCharacters j u4 = _ from e1), zb1 (show m_Message_writeParents j u5 = _ from g1)]
  · rw [List.append_assoc, List.append_assoc, List.append_assoc, List.append_assoc] at g3
    exact g3
theorem eruns_len {D : zE} (hO : eOK D) : ∀ (t : List Nat) (f c : Nat), f < en D → (∀ e, e ∈ t → e < en D) → c + t.length ≤ 40 → (eruns D f c t).length ≤ 3 * (1 + t.length) := by
  have hn := hO.n
  intro t
  induction t with
  | nil =>
    intro f c hf _ hc
    have b1 := hO.si hf
    have b2 := hO.nu40 hf
    unfold eruns
    rw [List.length_append, List.length_append, zput_len _ (by omega), zput_len _ (by omega), zput_len _ (by rw [List.length_nil] at hc; omega)]
    rw [List.length_nil]; omega
  | cons x t ih =>
    intro f c hf hM hc
    rw [List.length_cons] at hc ⊢
    have b1 := hO.si hf
    have b2 := hO.nu40 hf
    unfold eruns
    have ht : ∀ e, e ∈ t → e < en D := fun e he => hM e (List.mem_cons_of_mem _ he)
    by_cases q : esi D x = esi D f
    · rw [if_pos q]
      have := ih f (c + 1) hf ht (by omega)
      omega
    · rw [if_neg q, List.length_append, List.length_append, List.length_append, zput_len _ (by omega), zput_len _ (by omega), zput_len _ (by omega)]
      have := ih x 1 (hM x List.mem_cons_self) ht (by omega)
      omega
theorem ekin_len {D : zE} : ∀ (t : List Nat) (b : Bool) (c : Nat), c + t.length ≤ 40 → (ekin D b c t).length ≤ 1 + t.length := by
  intro t
  induction t with
  | nil => intro b c hc; unfold ekin; rw [zput_len _ (by rw [List.length_nil] at hc; omega)]; omega
  | cons x t ih =>
    intro b c hc
    rw [List.length_cons] at hc ⊢
    unfold ekin
    by_cases q : ein D x = b
    · rw [if_pos q]
      have := ih b (c + 1) (by omega)
      omega
    · rw [if_neg q, List.length_append, zput_len _ (by omega)]
      have := ih (!b) 1 (by omega)
      omega
theorem eidx_len {D : zE} (hO : eOK D) : ∀ (t : List Nat) (p : Nat), p ≤ 40 → (∀ e, e ∈ t → e < en D) → (eidx D p t).length ≤ t.length := by
  intro t
  induction t with
  | nil => intro p _ _; exact Nat.le_refl _
  | cons x t ih =>
    intro p hp hM
    have hx := hO.ix (hM x List.mem_cons_self)
    unfold eidx
    rw [List.length_append, List.length_cons, zput_len _ (by unfold zsg; split <;> omega)]
    have := ih (eix D x) hx (fun e he => hM e (List.mem_cons_of_mem _ he))
    omega
theorem echs_len {D : zE} : ∀ (t : List Nat) (p : Nat), (echs D p t).length ≤ 2 * t.length := by
  intro t
  induction t with
  | nil => intro p; exact Nat.le_refl _
  | cons x t ih =>
    intro p
    unfold echs
    rw [List.length_cons]
    by_cases q : ein D x
    · rw [if_pos q, List.length_append]
      have := ih (ech D x)
      have := zput_le (zsg (ech D x) p)
      omega
    · rw [if_neg q]
      have := ih p
      omega
theorem ecodes_len {D : zE} (hO : eOK D) : ∀ (t : List Nat), (∀ e, e ∈ t → e < en D) → (ecodes D t).length = t.length := by
  intro t
  induction t with
  | nil => intro _; rfl
  | cons x t ih =>
    intro hM
    have hx := hM x List.mem_cons_self
    have b1 := hO.si hx
    have b2 := hO.nu40 hx
    unfold ecodes
    rw [List.length_append, List.length_cons, zput_len _ (by omega), ih (fun e he => hM e (List.mem_cons_of_mem _ he))]
    omega
theorem epa_len {D : zE} (hO : eOK D) {e : Nat} (he : e < en D) : (eL D (epa D e)).length ≤ 3 := by
  have h1 : ((eL D (epa D e)).map (esi D)).Pairwise (· ≠ ·) := by
    rw [List.pairwise_map]
    have hs : (eL D (epa D e)).Pairwise (elt D) := eids_sorted.filter _
    refine List.Pairwise.imp_of_mem ?_ hs
    intro a b ha hb hab q
    have ha := (eL_mem hO).mp ha
    have hb := (eL_mem hO).mp hb
    rcases hab with z | z
    · omega
    · have h2 := hO.own z.2 hb.1 q
      exact ((hO.pa he a).mp ha.2).2 ⟨b, hO.paan he hb.2, h2⟩
  have h2 := List.Nodup.length_le_of_subset (l₁ := (eL D (epa D e)).map (esi D)) (l₂ := List.range 3) h1 (fun x hx => by
    obtain ⟨y, hy, rfl⟩ := List.mem_map.mp hx
    exact List.mem_range.mpr (hO.si ((eL_mem hO).mp hy).1))
  rw [List.length_map, List.length_range] at h2
  exact h2
theorem epars_len {D : zE} (hO : eOK D) : ∀ (t : List Nat) (p : Option Nat), (∀ e, e ∈ t → e < en D) → (epars D p t).length ≤ 4 * t.length := by
  intro t
  induction t with
  | nil => intro p _; exact Nat.le_refl _
  | cons x t ih =>
    intro p hM
    have hx := hM x List.mem_cons_self
    unfold epars
    rw [List.length_append, List.length_cons]
    have h1 := ih (some x) (fun e he => hM e (List.mem_cons_of_mem _ he))
    have h2 : (zput (1 + zc 40 (epa D x)) ++ ecodes D (eL D (epa D x))).length ≤ 4 := by
      have h3 := epa_len hO hx
      have h4 := eL_count hO (epa_bel hO hx)
      rw [List.length_append, zput_len _ (by omega), ecodes_len hO _ (fun e he => ((eL_mem hO).mp he).1)]
      omega
    have h3 : (zput 0).length = 1 := zput_len _ (by omega)
    have hif : ∀ b : Bool, (if b then zput 0 else zput (1 + zc 40 (epa D x)) ++ ecodes D (eL D (epa D x))).length ≤ 4 := by
      intro b
      cases b with
      | false => exact h2
      | true => show (zput 0).length ≤ 4; omega
    exact Nat.le_trans (Nat.add_le_add (hif _) h1) (by omega)
theorem encL_len {D : zE} (hO : eOK D) {L : List Nat} (hL : L.length ≤ 40) (hM : ∀ e, e ∈ L → e < en D) : (encL D L).length ≤ 442 := by
  unfold encL
  rw [List.length_append, List.length_append, List.length_append, List.length_append, List.length_append, zput_len _ (by omega)]
  have h1 := ekin_len (D := D) L true 0 (by omega)
  have h2 := eidx_len hO L 0 (by omega) hM
  have h3 := echs_len (D := D) L 0
  have h4 := epars_len hO L none hM
  have h5 : (esites D L).length ≤ 3 * L.length := by
    cases L with
    | nil => exact Nat.le_refl _
    | cons f t =>
      rw [List.length_cons] at hL ⊢
      have := eruns_len hO t f 1 (hM f List.mem_cons_self) (fun e he => hM e (List.mem_cons_of_mem _ he)) (by omega)
      show (eruns D f 1 t).length ≤ _
      omega
  omega
