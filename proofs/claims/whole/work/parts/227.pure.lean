theorem zm1e (k : Nat) : zi (k + 1) + (-1 : Int32) = zi k := by
  rw [← zpred k]; exact (Int32.sub_eq_add_neg (zi (k + 1)) 1).symm
theorem z_shift {L : List Nat} {p e : Nat} (hl : L.length < 40) (hp : p ≤ L.length) : ∀ d k fu (w : xS), p + d = k → k ≤ L.length → d < fu → xs_i w 1 = zi L.length → (∀ q x, q < k → L[q]? = some x → xs_I w 6 q = zi x) → (∀ q x, k < q → L[q - 1]? = some x → xs_I w 6 q = zi x) →
    ∃ x, m_CharacterList_putBehind_l115 fu (zi e) (zi p) (zi k) w = some x ∧ zfr [6] [] [1] [1] w x ∧ xs_i x 1 = zi (L.length + 1) ∧ xs_l x 1 = xs_l w 1 ||| zbit e ∧ ∀ q y, (kinto L p e)[q]? = some y → xs_I x 6 q = zi y := by
  intro d
  induction d with
  | zero =>
    intro k fu w hk hkl hf hn h1 h2
    obtain ⟨g, rfl⟩ : ∃ g, fu = g + 1 := ⟨fu - 1, by omega⟩
    have : k = p := by omega
    subst this
    show ∃ x, m_CharacterList_putBehind_s115 _ _ _ _ _ = _ ∧ _
    unfold m_CharacterList_putBehind_s115
    rw [if_pos (zle_n (by omega) (by omega) (Nat.le_refl _)), zg (zin (by omega) (by omega)), zlet, zb1 (z_bit e), zlet, zlet, zi_nat (a := k) (by omega), zil, ziI, hn, zsucc, zlI]
    refine ⟨_, rfl, ((zfr_sI (by decide)).tr (zfr_sl (by decide))).tr (zfr_si (by decide)), zii, ?_, ?_⟩
    · rw [zli, zll]
    · intro q y hy
      rw [zIi, zIl, zII]
      by_cases a : q < k
      · rw [kinto_lt hp a] at hy
        rw [zupn (by omega)]; exact h1 q y a hy
      · by_cases b : q = k
        · subst b
          rw [kinto_at hp] at hy
          cases hy
          rw [zup]
        · rw [kinto_gt hp (by omega)] at hy
          rw [zupn b]; exact h2 q y (by omega) hy
  | succ d ih =>
    intro k fu w hk hkl hf hn h1 h2
    obtain ⟨g, rfl⟩ : ∃ g, fu = g + 1 := ⟨fu - 1, by omega⟩
    obtain ⟨j, rfl⟩ : ∃ j, k = j + 1 := ⟨k - 1, by omega⟩
    obtain ⟨z, hz⟩ : ∃ x, L[j]? = some x := ⟨_, List.getElem?_eq_getElem (by omega)⟩
    show ∃ x, m_CharacterList_putBehind_s115 _ _ _ _ _ = _ ∧ _
    unfold m_CharacterList_putBehind_s115
    rw [if_neg (zle_nn (by omega) (by omega) (by omega)), zpred, zg (zin (by omega) (by omega)), zg (zin (by omega) (by omega)), zlet, zi_nat (a := j + 1) (by omega), zi_nat (a := j) (by omega), h1 j z (by omega) hz, zm1e]
    have f1 : zfr [6] [] [1] [1] w (xs_sI w 6 (j + 1) (zi z)) := zfr_sI (by decide)
    obtain ⟨x, x1, x2, x3, x4, x5⟩ := ih j g (xs_sI w 6 (j + 1) (zi z)) (by omega) (by omega) (by omega) hn (fun q y hq hy => by
      rw [zII, zupn (by omega)]; exact h1 q y (by omega) hy) (fun q y hq hy => by
      rw [zII]
      by_cases a : q = j + 1
      · subst a
        rw [show j + 1 - 1 = j from by omega, hz] at hy
        cases hy
        rw [zup]
      · rw [zupn a]; exact h2 q y (by omega) hy)
    exact ⟨x, x1, f1.tr x2, x3, x4, x5⟩
theorem z_mshift {L : List Nat} {p e : Nat} (hl : L.length < 40) (hp : p ≤ L.length) : ∀ d k fu (w : xS), p + d = k → k ≤ L.length → d < fu → xs_i w 1 = zi L.length → (∀ q x, q < k → L[q]? = some x → xs_I w 8 q = zi x) → (∀ q x, k < q → L[q - 1]? = some x → xs_I w 8 q = zi x) →
    ∃ x, m_Model_intoRow_l35 fu (zi e) (zi p) (zi k) w = some x ∧ zfr [8] [] [1] [] w x ∧ xs_i x 1 = zi (L.length + 1) ∧ ∀ q y, (kinto L p e)[q]? = some y → xs_I x 8 q = zi y := by
  intro d
  induction d with
  | zero =>
    intro k fu w hk hkl hf hn h1 h2
    obtain ⟨g, rfl⟩ : ∃ g, fu = g + 1 := ⟨fu - 1, by omega⟩
    have : k = p := by omega
    subst this
    show ∃ x, m_Model_intoRow_s35 _ _ _ _ _ = _ ∧ _
    unfold m_Model_intoRow_s35
    rw [if_pos (zle_n (by omega) (by omega) (Nat.le_refl _)), zg (zin (by omega) (by omega)), zlet, zlet, zi_nat (a := k) (by omega), ziI, hn, zsucc]
    refine ⟨_, rfl, (zfr_sI (by decide)).tr (zfr_si (by decide)), zii, ?_⟩
    · intro q y hy
      rw [zIi, zII]
      by_cases a : q < k
      · rw [kinto_lt hp a] at hy
        rw [zupn (by omega)]; exact h1 q y a hy
      · by_cases b : q = k
        · subst b
          rw [kinto_at hp] at hy
          cases hy
          rw [zup]
        · rw [kinto_gt hp (by omega)] at hy
          rw [zupn b]; exact h2 q y (by omega) hy
  | succ d ih =>
    intro k fu w hk hkl hf hn h1 h2
    obtain ⟨g, rfl⟩ : ∃ g, fu = g + 1 := ⟨fu - 1, by omega⟩
    obtain ⟨j, rfl⟩ : ∃ j, k = j + 1 := ⟨k - 1, by omega⟩
    obtain ⟨z, hz⟩ : ∃ x, L[j]? = some x := ⟨_, List.getElem?_eq_getElem (by omega)⟩
    show ∃ x, m_Model_intoRow_s35 _ _ _ _ _ = _ ∧ _
    unfold m_Model_intoRow_s35
    rw [if_neg (zle_nn (by omega) (by omega) (by omega)), zpred, zg (zin (by omega) (by omega)), zg (zin (by omega) (by omega)), zlet, zi_nat (a := j + 1) (by omega), zi_nat (a := j) (by omega), h1 j z (by omega) hz, zm1e]
    have f1 : zfr [8] [] [1] [] w (xs_sI w 8 (j + 1) (zi z)) := zfr_sI (by decide)
    obtain ⟨x, x1, x2, x3, x5⟩ := ih j g (xs_sI w 8 (j + 1) (zi z)) (by omega) (by omega) (by omega) hn (fun q y hq hy => by
      rw [zII, zupn (by omega)]; exact h1 q y (by omega) hy) (fun q y hq hy => by
      rw [zII]
      by_cases a : q = j + 1
      · subst a
        rw [show j + 1 - 1 = j from by omega, hz] at hy
        cases hy
        rw [zup]
      · rw [zupn a]; exact h2 q y (by omega) hy)
    exact ⟨x, x1, f1.tr x2, x3, x5⟩
theorem z_intoRow {D : zE} {C : zK} {v : xS} (hO : eOK D) (hK : kT D C) (hv : mE D v) (ht : mT D C v) {L : List Nat} {e p : Nat} (he : e < en D ∧ ein D e) (hL : ∀ x, x ∈ L → x < en D ∧ ein D x ∧ x ≠ e) (hl : L.length < 40) (h1 : xs_i v 1 = zi L.length) (h8 : ∀ q x, L[q]? = some x → xs_I v 8 q = zi x) (hp : kpos (kkey D C) L (kkey D C e) p) :
    ∃ x, m_Model_intoRow (zi e) v = some x ∧ zfr [8] [] [1] [] v x ∧ xs_i x 1 = zi (L.length + 1) ∧ ∀ q y, (kinto L p e)[q]? = some y → xs_I x 8 q = zi y := by
  have hn := hO.n
  obtain ⟨x, x1, x2⟩ := z_mshift (e := e) hl hp.1 (L.length - p) L.length xFU v (by have := hp.1; omega) (Nat.le_refl _) (by unfold xFU; omega) h1 (fun q x _ hx => h8 q x hx) (fun q x hq hx => by
    have := (List.getElem?_eq_some_iff.mp hx).1
    omega)
  refine ⟨x, ?_, x2⟩
  have key : ∀ d k fu, k + d = p → d < fu → m_Model_intoRow_l2 fu (zi e) (zi k) v = some x := by
    intro d
    induction d with
    | zero =>
      intro k fu hk hf
      obtain ⟨g, rfl⟩ : ∃ g, fu = g + 1 := ⟨fu - 1, by omega⟩
      have : k = p := by omega
      subst this
      show m_Model_intoRow_s2 _ _ _ _ = _
      unfold m_Model_intoRow_s2
      rw [h1]
      by_cases q : L.length ≤ k
      · rw [if_pos (zle_n (by have := hp.1; omega) (by omega) q)]; exact x1
      · obtain ⟨y, hy⟩ : ∃ x, L[k]? = some x := ⟨_, List.getElem?_eq_getElem (by omega)⟩
        have hyL := hL y (List.mem_of_getElem? hy)
        obtain ⟨r, r1, r2⟩ := z_stands hO hK hv ht ⟨hyL.1, hyL.2.1⟩ he hyL.2.2
        have hnl := hp.2.2 k y (Nat.le_refl _) hy
        have r0 : r = 0 := by
          rcases r2 with z | z
          · exact absurd z.2 hnl
          · exact z.1
        rw [if_neg (zle_nn (by omega) (by omega) (by omega)), zg (zin (by omega) (by omega)), zi_nat (a := k) (by omega), h8 k y hy, zb1 r1, if_pos r0]; exact x1
    | succ d ih =>
      intro k fu hk hf
      obtain ⟨g, rfl⟩ : ∃ g, fu = g + 1 := ⟨fu - 1, by omega⟩
      have hpl := hp.1
      obtain ⟨y, hy⟩ : ∃ x, L[k]? = some x := ⟨_, List.getElem?_eq_getElem (by omega)⟩
      have hyL := hL y (List.mem_of_getElem? hy)
      obtain ⟨r, r1, r2⟩ := z_stands hO hK hv ht ⟨hyL.1, hyL.2.1⟩ he hyL.2.2
      have hlt := hp.2.1 k y (by omega) hy
      have r0 : r = 1 := by
        rcases r2 with z | z
        · exact z.1
        · exact absurd hlt z.2
      show m_Model_intoRow_s2 _ _ _ _ = _
      unfold m_Model_intoRow_s2
      rw [h1, if_neg (zle_nn (by omega) (by omega) (by omega)), zg (zin (by omega) (by omega)), zi_nat (a := k) (by omega), h8 k y hy, zb1 r1, r0, if_neg (by decide), zsucc]
      exact ih (k + 1) g (by omega) (by omega)
  exact key p 0 xFU (by omega) (by have := hp.1; unfold xFU; omega)
theorem z_behind {D : zE} {C : zK} {v : xS} (hO : eOK D) (hK : kOK D C) (hc : mC D C v) {l : Nat} (hl : l ≤ 40) (g : Int64) : m_Model_behind g (zi l) v = some (match kbeh g l (l == 40) (krow C) with | none => 40 | some y => zi y) := by
  have hlen := kOK.len hO hK
  have hn := hO.n
  have h40 := kOK.row40 hO hK
  have key : ∀ d k fu (b : Bool), k + d = (krow C).length → d < fu → m_Model_behind_l16 fu g (zi l) (zb b) (zi k) v = some (match kbeh g l b ((krow C).drop k) with | none => 40 | some y => zi y) := by
    intro d
    induction d with
    | zero =>
      intro k fu b hk hf
      obtain ⟨q, rfl⟩ : ∃ g, fu = g + 1 := ⟨fu - 1, by omega⟩
      show m_Model_behind_s16 _ _ _ _ _ _ = _
      unfold m_Model_behind_s16
      rw [hc.len, if_pos (zle_n (by omega) (by omega) (by omega)), List.drop_eq_nil_of_le (by omega)]; rfl
    | succ d ih =>
      intro k fu b hk hf
      obtain ⟨q, rfl⟩ : ∃ g, fu = g + 1 := ⟨fu - 1, by omega⟩
      obtain ⟨y, hy⟩ : ∃ x, (krow C)[k]? = some x := ⟨_, List.getElem?_eq_getElem (by omega)⟩
      have hym := List.mem_of_getElem? hy
      have hy40 := h40 y hym
      have i1 := ih (k + 1) q true (by omega) (by omega)
      have i0 := ih (k + 1) q false (by omega) (by omega)
      have i1 : m_Model_behind_l16 q g (zi l) 1 (zi (k + 1)) v = _ := i1
      have i0 : m_Model_behind_l16 q g (zi l) 0 (zi (k + 1)) v = _ := i0
      show m_Model_behind_s16 _ _ _ _ _ _ = _
      unfold m_Model_behind_s16 m_Model_behind_b52
      rw [hc.len, if_neg (zle_nn (by omega) (by omega) (by omega)), zg (zin (by omega) (by omega)), zg (zin (by omega) (by omega)), zi_nat (a := k) (by omega), hc.row hy, zb1 (z_in (by omega)), zsucc, zdrop_step hy, i1, i0, kbeh_cons]
      cases b with
      | false =>
        rw [if_pos (show zb (false = true) = 0 from by decide), if_pos (show zb (false = true) = 0 from by decide), Bool.false_and, if_neg (show ¬ false = true from by decide), Bool.false_or]
        by_cases z : y = l
        · rw [if_pos (by rw [z]), show (y == l) = true from beq_iff_eq.mpr z]
        · rw [if_neg (fun x => z ((zeq (by omega) (by omega)).mp x)), show (y == l) = false from by simp [z]]
      | true =>
        rw [if_neg (show ¬ zb (true = true) = 0 from by decide), if_neg (show ¬ zb (true = true) = 0 from by decide), Bool.true_and, Bool.true_or]
        by_cases z : zm g y
        · rw [if_neg (fun x => (zb_eq0.mp x) z), if_pos z]
        · rw [if_pos (zb_eq0.mpr z), if_neg z]
  unfold m_Model_behind
  by_cases q : l = 40
  · subst q
    rw [if_pos (show zi 40 = (40 : Int32) from rfl)]
    exact key (krow C).length 0 xFU true (by omega) (by unfold xFU; omega)
  · rw [if_neg (show ¬ zi l = (40 : Int32) from fun z => q ((zeq (b := 40) (by omega) (by omega)).mp z)), show (l == 40) = false from by simp [q]]
    exact key (krow C).length 0 xFU false (by omega) (by unfold xFU; omega)
def kfree (D : zE) (C : zK) (g : Int64) (l : Nat) : Prop := ∀ f, f < en D → zm g f → ein D f → krt C f = true → kpl C f ≠ l
theorem z_free2 {D : zE} {C : zK} {v : xS} (hO : eOK D) (hv : mE D v) (hc : mC D C v) (hK : kOK D C) {l : Nat} (hl : l ≤ 40) (g : Int64) (a b c : Int32) :
    (kfree D C g l ∧ m_Model_insert_l79 xFU a b c g (zi l) 1 0 v = m_Model_insert_b157 a b c 1 (zi l) v) ∨ (¬ kfree D C g l ∧ m_Model_insert_l79 xFU a b c g (zi l) 1 0 v = xb1 (m_Model_behind g (zi l) v) fun r => m_Model_insert_b157 a b c 0 r v) := by
  have hn := hO.n
  refine zinv (fun fu (t : Int32) k => m_Model_insert_l79 fu a b c g (zi l) t (zi k) v) (en D) (fun k t => (t = 1 ∧ ∀ f, f < k → zm g f → ein D f → krt C f = true → kpl C f ≠ l) ∨ (t = 0 ∧ ¬ kfree D C g l)) (fun o => (kfree D C g l ∧ o = m_Model_insert_b157 a b c 1 (zi l) v) ∨ (¬ kfree D C g l ∧ o = xb1 (m_Model_behind g (zi l) v) fun r => m_Model_insert_b157 a b c 0 r v)) ?_ ?_ (en D) 0 xFU 1 (by omega) (by unfold xFU; omega) ?_
  · intro fu t hI
    show (_ ∧ m_Model_insert_s79 _ _ _ _ _ _ _ _ _ = _) ∨ (_ ∧ m_Model_insert_s79 _ _ _ _ _ _ _ _ _ = _)
    unfold m_Model_insert_s79
    rw [hv.n, if_pos (zle_n (by omega) (by omega) (Nat.le_refl _))]
    rcases hI with ⟨rfl, h⟩ | ⟨rfl, h⟩
    · exact Or.inl ⟨h, if_neg (by decide)⟩
    · exact Or.inr ⟨h, if_pos rfl⟩
  · intro fu t k hk hI
    refine Or.inl ?_
    show ∃ a', _ ∧ m_Model_insert_s79 _ _ _ _ _ _ _ _ _ = _
    unfold m_Model_insert_s79
    rw [hv.n, if_neg (zle_nn (by omega) (by omega) hk), zb1 (z_in (by omega)), zg (zin (by omega) (by omega)), zg (zin (by omega) (by omega)), zi_nat (a := k) (by omega), hv.ins hk, hc.pl hk, zsucc]
    have ext : (zm g k → ein D k → krt C k = true → kpl C k ≠ l) → ((t = 1 ∧ ∀ f, f < k + 1 → zm g f → ein D f → krt C f = true → kpl C f ≠ l) ∨ (t = 0 ∧ ¬ kfree D C g l)) := by
      intro hq
      rcases hI with ⟨h1, h2⟩ | h
      · refine Or.inl ⟨h1, fun f hf => ?_⟩
        by_cases z : f = k
        · subst z; exact hq
        · exact h2 f (by omega)
      · exact Or.inr h
    by_cases q1 : zm g k
    · rw [if_neg (fun z => (zb_eq0.mp z) q1)]
      by_cases q2 : ein D k
      · rw [if_neg (fun z => (zb_eq0.mp z) q2), hc.rt hk q2]
        by_cases q3 : krt C k
        · rw [if_neg (fun z => (zb_eq0.mp z) q3)]
          have p40 : kpl C k ≤ 40 := by rcases hK.ins hk q2 with z | z <;> omega
          by_cases q4 : kpl C k = l
          · rw [if_pos (by rw [q4])]
            exact ⟨0, Or.inr ⟨rfl, fun hf => hf k hk q1 q2 q3 q4⟩, rfl⟩
          · rw [if_neg (fun z => q4 ((zeq (by omega) (by omega)).mp z))]
            exact ⟨t, ext (fun _ _ _ => q4), rfl⟩
        · rw [if_pos (zb_eq0.mpr q3)]
          exact ⟨t, ext (fun _ _ z => absurd z q3), rfl⟩
      · rw [if_pos (zb_eq0.mpr q2)]
        exact ⟨t, ext (fun _ z => absurd z q2), rfl⟩
    · rw [if_pos (zb_eq0.mpr q1)]
      exact ⟨t, ext (fun z => absurd z q1), rfl⟩
  · exact Or.inl ⟨rfl, fun f hf => absurd hf (Nat.not_lt_zero _)⟩
