def mT (D : zE) (C : zK) (v : xS) : Prop := (∀ e, e < en D → ein D e → xs_I v 5 e = zi (kpl C e) ∧ xs_I v 6 e = zb (krt C e) ∧ xs_I v 7 e = zi (kdep C 41 e)) ∧ xs_I v 7 40 = 0
theorem mT.pl {D : zE} {C : zK} {v : xS} (h : mT D C v) {e : Nat} (he : e < en D) (hi : ein D e) : xs_I v 5 e = zi (kpl C e) := (h.1 e he hi).1
theorem mT.rt {D : zE} {C : zK} {v : xS} (h : mT D C v) {e : Nat} (he : e < en D) (hi : ein D e) : xs_I v 6 e = zb (krt C e) := (h.1 e he hi).2.1
theorem mT.dp {D : zE} {C : zK} {v : xS} (h : mT D C v) {e : Nat} (he : kin D e) : xs_I v 7 e = zi (kpath D C 41 e).length := by
  rcases he with q | q
  · subst q; rw [h.2, kpath_40]; rfl
  · rw [(h.1 e q.1 q.2).2.2, kdep_len (D := D)]
theorem z_lower {D : zE} {v : xS} (hO : eOK D) (hv : mE D v) {e f : Nat} (he : e < en D) (hf : f < en D) : m_Model_lower (zi e) (zi f) v = some (if elt D e f then 1 else 0) := by
  have hn := hO.n
  unfold m_Model_lower
  rw [zg (zin (by omega) (by omega)), zg (zin (by omega) (by omega)), zi_nat (by omega), zi_nat (by omega), hv.si he, hv.si hf, hv.nu he, hv.nu hf]
  have a1 := hO.si he
  have a2 := hO.si hf
  have a3 := hO.nu40 he
  have a4 := hO.nu40 hf
  by_cases h : esi D e = esi D f
  · rw [if_pos (by rw [h])]
    have hlt := enu_lt hO he hf h
    by_cases q : e < f
    · rw [if_neg (zle_nn (by omega) (by omega) (hlt.mpr q)), if_pos (Or.inr ⟨h, q⟩)]
    · have : ¬ enu D e < enu D f := fun z => q (hlt.mp z)
      rw [if_pos (zle_n (by omega) (by omega) (by omega)), if_neg (fun z => z.elim (by omega) (fun z => q z.2))]
  · rw [if_neg (fun q => h ((zeq (by omega) (by omega)).mp q))]
    by_cases q : esi D e < esi D f
    · rw [if_neg (zle_nn (by omega) (by omega) q), if_pos (Or.inl q)]
    · rw [if_pos (zle_n (by omega) (by omega) (by omega)), if_neg (fun z => z.elim (by omega) (fun z => h z.1))]
def kclimb (D : zE) (C : zK) (x a : Nat) (A : Option Nat) : Prop := kin D a ∧ match A with
  | none => x = a
  | some z => z < en D ∧ ein D z ∧ kpl C z = a ∧ ∃ t, kpath D C 41 x = kpath D C 41 z ++ t
theorem kclimb.up {D : zE} {C : zK} (hO : eOK D) (hK : kT D C) {x a : Nat} {A : Option Nat} (h : kclimb D C x a A) (ha : a ≠ 40) : a < en D ∧ ein D a ∧ kclimb D C x (kpl C a) (some a) := by
  obtain ⟨h1, h2⟩ := h
  rcases h1 with q | q
  · exact absurd q ha
  · refine ⟨q.1, q.2, kin_pl hK q.1 q.2, q.1, q.2, rfl, ?_⟩
    cases A with
    | none =>
      have h2 : x = a := h2
      subst h2
      exact ⟨[], (List.append_nil _).symm⟩
    | some z =>
      obtain ⟨z1, z2, z3, t, z4⟩ := h2
      refine ⟨[kdig D C z] ++ t, ?_⟩
      rw [z4, kpath_step hO hK z1 z2, z3, List.append_assoc]
theorem kdig_side {D : zE} (hO : eOK D) {C : zK} {e : Nat} (he : e < en D) : (krt C e = true → 200 < kdig D C e) ∧ (krt C e = false → kdig D C e < 200) := by
  have := erank_le hO he
  unfold kdig
  constructor
  · intro h; rw [if_pos h]; omega
  · intro h; rw [h]; exact this
theorem z_stands_end {D : zE} {C : zK} {v : xS} (hO : eOK D) (hK : kT D C) (hv : mE D v) (ht : mT D C v) {x y a : Nat} {A B : Option Nat} (hx : kclimb D C x a A) (hy : kclimb D C y a B) (hne : x ≠ y) (hAB : ∀ z w, A = some z → B = some w → z ≠ w) :
    ∃ r, m_Model_stands_b75 (zo A) (zo B) v = some r ∧ ((r = 1 ∧ klt (kkey D C x) (kkey D C y)) ∨ (r = 0 ∧ ¬ klt (kkey D C x) (kkey D C y))) := by
  have hn := hO.n
  unfold m_Model_stands_b75
  cases A with
  | none =>
    have hxa : x = a := hx.2
    cases B with
    | none =>
      have hya : y = a := hy.2
      exact absurd (hxa.trans hya.symm) hne
    | some w =>
      obtain ⟨w1, w2, w3, t, w4⟩ := hy.2
      have d := kdig_side hO (C := C) w1
      have hk : klt (kkey D C x) (kkey D C y) ↔ 200 < kdig D C w := by
        unfold kkey
        rw [w4, kpath_step hO hK w1 w2, w3, hxa, List.append_assoc, List.append_assoc, klt_app]
        show klt (200 :: []) (kdig D C w :: (t ++ [200])) ↔ _
        rw [klt_cons]
        have := kdig_ne hO (C := C) w1
        exact ⟨fun q => q.elim id (fun z => absurd z.1.symm this), Or.inl⟩
      rw [zo_none, if_neg (show ¬ (0 : Int32) ≤ -1 from by decide), zo_some, zg (zin (by omega) (by omega)), zi_nat (by omega), ht.rt w1 w2, zg zb01]
      refine ⟨_, rfl, ?_⟩
      cases h : krt C w with
      | true => exact Or.inl ⟨zb_pos rfl, hk.mpr (d.1 h)⟩
      | false => exact Or.inr ⟨zb_neg (by simp), fun q => absurd (hk.mp q) (by have := d.2 h; omega)⟩
  | some z =>
    obtain ⟨z1, z2, z3, t, z4⟩ := hx.2
    have dz := kdig_side hO (C := C) z1
    cases B with
    | none =>
      have hya : y = a := hy.2
      have hk : klt (kkey D C x) (kkey D C y) ↔ kdig D C z < 200 := by
        unfold kkey
        rw [z4, kpath_step hO hK z1 z2, z3, hya, List.append_assoc, List.append_assoc, klt_app]
        show klt (kdig D C z :: (t ++ [200])) (200 :: []) ↔ _
        rw [klt_cons]
        have := kdig_ne hO (C := C) z1
        exact ⟨fun q => q.elim id (fun w => absurd w.1 this), Or.inl⟩
      rw [zo_some, zo_none, if_pos (zge0 (by omega)), if_neg (show ¬ (0 : Int32) ≤ -1 from by decide), zg (zin (by omega) (by omega)), zi_nat (by omega), ht.rt z1 z2]
      cases h : krt C z with
      | true =>
        rw [if_neg (fun q => (zb_eq0.mp q) rfl)]
        exact ⟨_, rfl, Or.inr ⟨rfl, fun q => absurd (hk.mp q) (by have := dz.1 h; omega)⟩⟩
      | false =>
        rw [if_pos (zb_eq0.mpr (by simp))]
        exact ⟨_, rfl, Or.inl ⟨rfl, hk.mpr (dz.2 h)⟩⟩
    | some w =>
      obtain ⟨w1, w2, w3, t2, w4⟩ := hy.2
      have dw := kdig_side hO (C := C) w1
      have hzw := hAB z w rfl rfl
      have hk : klt (kkey D C x) (kkey D C y) ↔ kdig D C z < kdig D C w := by
        unfold kkey
        rw [z4, w4, kpath_step hO hK z1 z2, kpath_step hO hK w1 w2, z3, w3, List.append_assoc, List.append_assoc, List.append_assoc, List.append_assoc, klt_app]
        show klt (kdig D C z :: (t ++ [200])) (kdig D C w :: (t2 ++ [200])) ↔ _
        rw [klt_cons]
        exact ⟨fun q => q.elim id (fun y => absurd (kdig_inj hO z1 w1 y.1) hzw), Or.inl⟩
      rw [zo_some, zo_some, if_pos (zge0 (by omega)), if_pos (zge0 (by omega)), zg (zin (by omega) (by omega)), zg (zin (by omega) (by omega)), zi_nat (a := z) (by omega), zi_nat (a := w) (by omega), ht.rt z1 z2, ht.rt w1 w2, zb1 (z_lower hO hv z1 w1), zg zb01]
      have er := erank_lt hO z1 w1
      cases h1 : krt C z with
      | true =>
        cases h2 : krt C w with
        | true =>
          rw [if_pos rfl]
          have e1 : kdig D C z < kdig D C w ↔ elt D z w := by
            unfold kdig; rw [if_pos h1, if_pos h2, ← er]; omega
          by_cases q : elt D z w
          · rw [if_pos q, zg (Or.inr rfl)]; exact ⟨_, rfl, Or.inl ⟨rfl, hk.mpr (e1.mpr q)⟩⟩
          · rw [if_neg q, zg (Or.inl rfl)]; exact ⟨_, rfl, Or.inr ⟨rfl, fun y => q (e1.mp (hk.mp y))⟩⟩
        | false =>
          rw [if_neg (by decide)]
          exact ⟨_, rfl, Or.inr ⟨zb_neg (by simp), fun y => by have := hk.mp y; have := dz.1 h1; have := dw.2 h2; omega⟩⟩
      | false =>
        cases h2 : krt C w with
        | true =>
          rw [if_neg (by decide)]
          exact ⟨_, rfl, Or.inl ⟨zb_pos rfl, hk.mpr (by have := dz.2 h1; have := dw.1 h2; omega)⟩⟩
        | false =>
          rw [if_pos rfl]
          have e1 : kdig D C z < kdig D C w ↔ elt D z w := by
            unfold kdig; rw [h1, h2, ← er]; exact Iff.rfl
          by_cases q : elt D z w
          · rw [if_pos q, zg (Or.inr rfl)]; exact ⟨_, rfl, Or.inl ⟨rfl, hk.mpr (e1.mpr q)⟩⟩
          · rw [if_neg q, zg (Or.inl rfl)]; exact ⟨_, rfl, Or.inr ⟨rfl, fun y => q (e1.mp (hk.mp y))⟩⟩
theorem kpath_0 {D : zE} {C : zK} (hO : eOK D) (hK : kT D C) {a : Nat} (ha : kin D a) (h : (kpath D C 41 a).length = 0) : a = 40 := by
  rcases ha with q | q
  · exact q
  · rw [kpath_step hO hK q.1 q.2, List.length_append] at h
    simp at h
theorem z_stands {D : zE} {C : zK} {v : xS} (hO : eOK D) (hK : kT D C) (hv : mE D v) (ht : mT D C v) {x y : Nat} (hx : x < en D ∧ ein D x) (hy : y < en D ∧ ein D y) (hne : x ≠ y) :
    ∃ r, m_Model_stands (zi x) (zi y) v = some r ∧ ((r = 1 ∧ klt (kkey D C x) (kkey D C y)) ∨ (r = 0 ∧ ¬ klt (kkey D C x) (kkey D C y))) := by
  have hn := hO.n
  have key : ∀ m a b k fu (A B : Option Nat), (kpath D C 41 a).length + (kpath D C 41 b).length = m → k + m ≤ 80 → m < fu → kclimb D C x a A → kclimb D C y b B → (∀ z w, A = some z → B = some w → z ≠ w) → (∀ z, A = some z → b ≠ z ∧ (kpath D C 41 b).length ≤ (kpath D C 41 z).length) → (∀ z, B = some z → (kpath D C 41 a).length < (kpath D C 41 z).length) →
      ∃ r, m_Model_stands_l14 fu (zi a) (zi b) (zo A) (zo B) (zi k) v = some r ∧ ((r = 1 ∧ klt (kkey D C x) (kkey D C y)) ∨ (r = 0 ∧ ¬ klt (kkey D C x) (kkey D C y))) := by
    intro m
    induction m with
    | zero =>
      intro a b k fu A B hm hk hf ha hb h1 h2 h3
      obtain ⟨g, rfl⟩ : ∃ g, fu = g + 1 := ⟨fu - 1, by omega⟩
      have ea := kpath_0 hO hK ha.1 (by omega)
      have eb := kpath_0 hO hK hb.1 (by omega)
      subst ea
      subst eb
      show ∃ r, m_Model_stands_s14 _ _ _ _ _ _ _ = _ ∧ _
      unfold m_Model_stands_s14
      rw [if_pos rfl, ite_self]
      exact z_stands_end hO hK hv ht ha hb hne h1
    | succ m ih =>
      intro a b k fu A B hm hk hf ha hb h1 h2 h3
      obtain ⟨g, rfl⟩ : ∃ g, fu = g + 1 := ⟨fu - 1, by omega⟩
      have a41 : a < 41 := by rcases ha.1 with q | q <;> omega
      have b41 : b < 41 := by rcases hb.1 with q | q <;> omega
      show ∃ r, m_Model_stands_s14 _ _ _ _ _ _ _ = _ ∧ _
      unfold m_Model_stands_s14
      rw [if_neg (show ¬ (90 : Int32) ≤ zi k from zle_nn (b := 90) (by omega) (by omega) (by omega))]
      by_cases hab : a = b
      · subst hab
        rw [if_pos rfl]
        exact z_stands_end hO hK hv ht ha hb hne h1
      · rw [if_neg (fun q => hab ((zeq (by omega) (by omega)).mp q)), zg (zin a41 (by omega)), zg (zin b41 (by omega)), zi_nat (a := a) (by omega), zi_nat (a := b) (by omega), ht.dp ha.1, ht.dp hb.1, zsucc]
        have la := (kpath_len hO hK a ha.1).1
        have lb := (kpath_len hO hK b hb.1).1
        by_cases q : (kpath D C 41 a).length < (kpath D C 41 b).length
        · rw [if_pos ((zlt (by omega) (by omega)).mpr q)]
          have hb40 : b ≠ 40 := fun z => by subst z; rw [kpath_40] at q; exact absurd q (Nat.not_lt_zero _)
          obtain ⟨b1, b2, b3⟩ := hb.up hO hK hb40
          rw [ht.pl b1 b2]
          have lp := congrArg List.length (kpath_step hO hK b1 b2)
          rw [List.length_append] at lp
          have lp : (kpath D C 41 b).length = (kpath D C 41 (kpl C b)).length + 1 := lp
          refine ih a (kpl C b) (k + 1) g A (some b) (by omega) (by omega) (by omega) ha b3 ?_ ?_ ?_
          · intro z w hz hw; cases hw; exact fun e => (h2 z hz).1 e.symm
          · intro z hz
            have := h2 z hz
            refine ⟨fun e => ?_, by omega⟩
            rw [e] at lp
            omega
          · intro z hz; cases hz; exact q
        · rw [if_neg (fun z => q ((zlt (by omega) (by omega)).mp z))]
          have ha40 : a ≠ 40 := fun z => by
            subst z
            rw [kpath_40] at q
            have : (kpath D C 41 b).length = 0 := by
              have : ¬ 0 < (kpath D C 41 b).length := q
              omega
            exact hab (kpath_0 hO hK hb.1 this).symm
          obtain ⟨a1, a2, a3⟩ := ha.up hO hK ha40
          rw [ht.pl a1 a2]
          have lp := congrArg List.length (kpath_step hO hK a1 a2)
          rw [List.length_append] at lp
          have lp : (kpath D C 41 a).length = (kpath D C 41 (kpl C a)).length + 1 := lp
          refine ih (kpl C a) b (k + 1) g (some a) B (by omega) (by omega) (by omega) a3 hb ?_ ?_ ?_
          · intro z w hz hw; cases hz
            intro e
            have := h3 w hw
            rw [← e] at this
            omega
          · intro z hz; cases hz; exact ⟨fun e => hab e.symm, by omega⟩
          · intro z hz
            have := h3 z hz
            omega
  have lx := (kpath_len hO hK x (Or.inr hx)).1
  have ly := (kpath_len hO hK y (Or.inr hy)).1
  exact key _ x y 0 xFU none none rfl (by omega) (by unfold xFU; omega) ⟨Or.inr hx, rfl⟩ ⟨Or.inr hy, rfl⟩ (fun z w h => by cases h) (fun z h => by cases h) (fun z h => by cases h)
