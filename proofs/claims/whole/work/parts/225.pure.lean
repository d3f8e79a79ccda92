def cT (C : zK) (w : xS) : Prop := xs_i w 1 = zi (krow C).length ∧ (∀ k x, (krow C)[k]? = some x → xs_I w 6 k = zi x) ∧ ∀ x, x ∈ krow C → xs_I w 7 x = zh (kpl C x) ∧ xs_I w 8 x = zb (krt C x) ∧ ∀ c, zm (xs_L w 2 x) c ↔ kchain C x c
theorem cC.toT {D : zE} {C : zK} {u : xS} (hK : kOK D C) (h : cC D C u) : cT C u := ⟨h.len, fun k x hx => h.row hx, fun x hx => by
  have := hK.mem.mp hx
  exact ⟨h.pl this.1 this.2, h.rt this.1 this.2, h.ch this.1 this.2⟩⟩
theorem zh_inj {p q : Nat} (hp : p ≤ 40) (hq : q ≤ 40) : zh p = zh q ↔ p = q := by
  unfold zh
  by_cases h1 : p = 40
  · by_cases h2 : q = 40
    · rw [if_pos h1, if_pos h2]; exact ⟨fun _ => h1.trans h2.symm, fun _ => rfl⟩
    · rw [if_pos h1, if_neg h2]; exact ⟨fun z => absurd z (zne_m1' (by omega)), fun z => absurd (z.symm.trans h1) h2⟩
  · by_cases h2 : q = 40
    · rw [if_neg h1, if_pos h2]; exact ⟨fun z => absurd z (zne_m1 (by omega)), fun z => absurd (z.trans h2) h1⟩
    · rw [if_neg h1, if_neg h2]; exact zeq (by omega) (by omega)
theorem zh_row {x q : Nat} (hx : x < 40) (hq : q ≤ 40) : zi x = zh q ↔ x = q := by
  have h : zi x = zh x := by unfold zh; rw [if_neg (by omega)]
  rw [h]; exact zh_inj (by omega) hq
theorem zb_inj {a b : Bool} : zb a = zb b ↔ a = b := by
  cases a <;> cases b <;> decide
theorem zrow_mem {L : List Nat} {x : Nat} : x ∈ L ↔ ∃ q, q < L.length ∧ L[q]? = some x := by
  rw [List.mem_iff_getElem?]
  exact ⟨fun ⟨q, h⟩ => ⟨q, (List.getElem?_eq_some_iff.mp h).1, h⟩, fun ⟨q, _, h⟩ => ⟨q, h⟩⟩
theorem zgather {L : List Nat} {P : Nat → Prop} {a : Int64} (h : ∀ x, zm a x ↔ ∃ q, q < L.length ∧ (∃ y, L[q]? = some y ∧ P y ∧ x = y)) : ∀ x, zm a x ↔ x ∈ L ∧ P x := by
  intro x
  rw [h x, zrow_mem]
  constructor
  · rintro ⟨q, h1, y, h2, h3, rfl⟩; exact ⟨⟨q, h1, h2⟩, h3⟩
  · rintro ⟨⟨q, h1, h2⟩, h3⟩; exact ⟨q, h1, x, h2, h3, rfl⟩
theorem zga_yes {L : List Nat} {P : Nat → Prop} {k x y : Nat} {A : Prop} (hy : L[k]? = some y) (hp : P y) : (A ∨ ∃ z, L[k]? = some z ∧ P z ∧ x = z) ↔ A ∨ x = y := by
  constructor
  · rintro (q | ⟨z, h1, h2, h3⟩)
    · exact Or.inl q
    · rw [hy] at h1; cases h1; exact Or.inr h3
  · rintro (q | q)
    · exact Or.inl q
    · exact Or.inr ⟨y, hy, hp, q⟩
theorem zga_no {L : List Nat} {P : Nat → Prop} {k x y : Nat} {A : Prop} (hy : L[k]? = some y) (hp : ¬ P y) : (A ∨ ∃ z, L[k]? = some z ∧ P z ∧ x = z) ↔ A := by
  constructor
  · rintro (q | ⟨z, h1, h2, h3⟩)
    · exact q
    · rw [hy] at h1; cases h1; exact absurd h2 hp
  · exact Or.inl
theorem z_childrenOf {C : zK} {w : xS} (h : cT C w) (h40 : ∀ x, x ∈ krow C → x < 40) (hlen : (krow C).length ≤ 40) (hpl : ∀ x, x ∈ krow C → kpl C x ≤ 40) {H : Nat} (hH : H ≤ 40) (s : Bool) :
    ∃ r, m_CharacterList_childrenOf (zh H) (zb s) w = some r ∧ ∀ x, zm r x ↔ x ∈ krow C ∧ (kpl C x = H ∧ krt C x = s) := by
  have key : ∃ r, m_CharacterList_childrenOf (zh H) (zb s) w = some r ∧ ∀ x, zm r x ↔ ∃ q, q < (krow C).length ∧ (∃ y, (krow C)[q]? = some y ∧ (kpl C y = H ∧ krt C y = s) ∧ x = y) := by
    refine zinv (fun fu (a : Int64) k => m_CharacterList_childrenOf_l5 fu (zh H) (zb s) a (zi k) w) (krow C).length (fun k a => ∀ x, zm a x ↔ ∃ q, q < k ∧ (∃ y, (krow C)[q]? = some y ∧ (kpl C y = H ∧ krt C y = s) ∧ x = y)) (fun o => ∃ r, o = some r ∧ ∀ x, zm r x ↔ ∃ q, q < (krow C).length ∧ (∃ y, (krow C)[q]? = some y ∧ (kpl C y = H ∧ krt C y = s) ∧ x = y)) ?_ ?_ (krow C).length 0 xFU 0 (by omega) (by unfold xFU; omega) ?_
    · intro fu a hI
      refine ⟨a, ?_, hI⟩
      show m_CharacterList_childrenOf_s5 _ _ _ _ _ _ = _
      unfold m_CharacterList_childrenOf_s5
      rw [h.1, if_pos (zle_n (by omega) (by omega) (Nat.le_refl _))]
    · intro fu a k hk hI
      refine Or.inl ?_
      show ∃ a', _ ∧ m_CharacterList_childrenOf_s5 _ _ _ _ _ _ = _
      unfold m_CharacterList_childrenOf_s5
      obtain ⟨y, hy⟩ : ∃ x, (krow C)[k]? = some x := ⟨_, List.getElem?_eq_getElem hk⟩
      have hym := List.mem_of_getElem? hy
      have hy40 := h40 y hym
      obtain ⟨c1, c2, _⟩ := h.2.2 y hym
      rw [h.1, if_neg (zle_nn (by omega) (by omega) hk), zg (zin (by omega) (by omega)), zi_nat (a := k) (by omega), h.2.1 k y hy, zg (zin hy40 (by omega)), zi_nat (a := y) (by omega), c1, c2, zb1 (z_bit y), zsucc]
      by_cases q1 : kpl C y = H
      · rw [if_pos ((zh_inj (hpl y hym) hH).mpr q1)]
        by_cases q2 : krt C y = s
        · rw [if_pos (zb_inj.mpr q2)]
          exact ⟨_, fun x => by rw [zm_or, hI, zex_succ, zga_yes hy ⟨q1, q2⟩, zm_bit (by omega)], rfl⟩
        · rw [if_neg (fun z => q2 (zb_inj.mp z))]
          exact ⟨_, fun x => by rw [hI, zex_succ, zga_no hy (fun z => q2 z.2)], rfl⟩
      · rw [if_neg (fun z => q1 ((zh_inj (hpl y hym) hH).mp z))]
        exact ⟨_, fun x => by rw [hI, zex_succ, zga_no hy (fun z => q1 z.1)], rfl⟩
    · exact fun x => ⟨fun z => absurd z zm_zero, fun z => absurd z zex_zero⟩
  obtain ⟨r, h1, h2⟩ := key
  exact ⟨r, h1, zgather h2⟩
theorem z_nearer {D : zE} {C : zK} {w : xS} (hO : eOK D) (hE : cE D w) (h : cT C w) (hrow : ∀ x, x ∈ krow C → x < en D) (hlen : (krow C).length ≤ 40) (hpl : ∀ x, x ∈ krow C → kpl C x ≤ 40) {H e : Nat} (hH : H ≤ 40) (he : e < en D) (s : Bool) :
    ∃ r, m_CharacterList_nearerSiblings (zi e) (zh H) (zb s) w = some r ∧ ∀ x, zm r x ↔ x ∈ krow C ∧ (kpl C x = H ∧ krt C x = s ∧ (elt D x e ↔ s = true)) := by
  have hn := hO.n
  obtain ⟨c, c1, c2⟩ := z_childrenOf h (fun x hx => by have := hrow x hx; omega) hlen hpl hH s
  unfold m_CharacterList_nearerSiblings
  rw [zb1 c1]
  have key : ∃ r, m_CharacterList_nearerSiblings_l15 xFU (zi e) (zb s) c 0 0 w = some r ∧ ∀ x, zm r x ↔ ∃ q, q < (krow C).length ∧ (∃ y, (krow C)[q]? = some y ∧ (kpl C y = H ∧ krt C y = s ∧ (elt D y e ↔ s = true)) ∧ x = y) := by
    refine zinv (fun fu (a : Int64) k => m_CharacterList_nearerSiblings_l15 fu (zi e) (zb s) c a (zi k) w) (krow C).length (fun k a => ∀ x, zm a x ↔ ∃ q, q < k ∧ (∃ y, (krow C)[q]? = some y ∧ (kpl C y = H ∧ krt C y = s ∧ (elt D y e ↔ s = true)) ∧ x = y)) (fun o => ∃ r, o = some r ∧ ∀ x, zm r x ↔ ∃ q, q < (krow C).length ∧ (∃ y, (krow C)[q]? = some y ∧ (kpl C y = H ∧ krt C y = s ∧ (elt D y e ↔ s = true)) ∧ x = y)) ?_ ?_ (krow C).length 0 xFU 0 (by omega) (by unfold xFU; omega) ?_
    · intro fu a hI
      refine ⟨a, ?_, hI⟩
      show m_CharacterList_nearerSiblings_s15 _ _ _ _ _ _ _ = _
      unfold m_CharacterList_nearerSiblings_s15
      rw [h.1, if_pos (zle_n (by omega) (by omega) (Nat.le_refl _))]
    · intro fu a k hk hI
      refine Or.inl ?_
      show ∃ a', _ ∧ m_CharacterList_nearerSiblings_s15 _ _ _ _ _ _ _ = _
      unfold m_CharacterList_nearerSiblings_s15
      obtain ⟨y, hy⟩ : ∃ x, (krow C)[k]? = some x := ⟨_, List.getElem?_eq_getElem hk⟩
      have hym := List.mem_of_getElem? hy
      have hyn := hrow y hym
      rw [h.1, if_neg (zle_nn (by omega) (by omega) hk), zg (zin (by omega) (by omega)), zi_nat (a := k) (by omega), h.2.1 k y hy, zb1 (z_has (by omega)), zb1 (z_comesBefore hO hE hyn he), zb1 (z_bit y), zsucc]
      by_cases q1 : zm c y
      · rw [if_neg (fun z => (zb_eq0.mp z) q1)]
        have q3 := ((c2 y).mp q1).2
        have hiff : ((if elt D y e then (1 : Int32) else 0) = zb s) ↔ (elt D y e ↔ s = true) := by
          by_cases z : elt D y e
          · rw [if_pos z]
            cases s with
            | true => exact ⟨fun _ => ⟨fun _ => rfl, fun _ => z⟩, fun _ => rfl⟩
            | false => exact ⟨fun y => absurd y (by decide), fun y => absurd (y.mp z) (by decide)⟩
          · rw [if_neg z]
            cases s with
            | true => exact ⟨fun y => absurd y (by decide), fun y => absurd (y.mpr rfl) z⟩
            | false => exact ⟨fun _ => ⟨fun y => absurd y z, fun y => absurd y (by decide)⟩, fun _ => rfl⟩
        by_cases q2 : (elt D y e ↔ s = true)
        · rw [if_pos (hiff.mpr q2)]
          exact ⟨_, fun x => by rw [zm_or, hI, zex_succ, zga_yes hy ⟨q3.1, q3.2, q2⟩, zm_bit (by omega)], rfl⟩
        · rw [if_neg (fun z => q2 (hiff.mp z))]
          exact ⟨_, fun x => by rw [hI, zex_succ, zga_no hy (fun z => q2 z.2.2)], rfl⟩
      · rw [if_pos (zb_eq0.mpr q1)]
        exact ⟨_, fun x => by rw [hI, zex_succ, zga_no hy (fun z => q1 ((c2 y).mpr ⟨hym, z.1, z.2.1⟩))], rfl⟩
    · exact fun x => ⟨fun z => absurd z zm_zero, fun z => absurd z zex_zero⟩
  obtain ⟨r, h1, h2⟩ := key
  exact ⟨r, h1, zgather h2⟩
def kS (C : zK) (H : Nat) (b : Int64) (x : Nat) : Prop := x = H ∨ ∃ c, zm b c ∧ kchain C x c
theorem z_chainand {C : zK} {w : xS} (h : cT C w) {x : Nat} (hx : x ∈ krow C) {b : Int64} : (xs_L w 2 x &&& b) = 0 ↔ ¬ ∃ c, zm b c ∧ kchain C x c := by
  obtain ⟨_, _, c3⟩ := h.2.2 x hx
  rw [zm_eq0]
  constructor
  · rintro q ⟨c, h1, h2⟩
    exact q c (zm_and.mpr ⟨(c3 c).mpr h2, h1⟩)
  · intro q c hc
    have hc := zm_and.mp hc
    exact q ⟨c, hc.2, (c3 c).mp hc.1⟩
theorem z_rightPos {C : zK} {w : xS} (h : cT C w) (h40 : ∀ x, x ∈ krow C → x < 40) (hlen : (krow C).length ≤ 40) {H : Nat} (hH : H ≤ 40) (b : Int64) :
    ∃ p, p ≤ (krow C).length ∧ m_CharacterList_rightPosition_l16 xFU (zh H) b (zi (krow C).length) w = some (zi p) ∧ (∀ x, 0 < p → (krow C)[p - 1]? = some x → kS C H b x) ∧ ∀ q x, p ≤ q → (krow C)[q]? = some x → ¬ kS C H b x := by
  have key : ∀ k fu, k ≤ (krow C).length → k < fu → (∀ q x, k ≤ q → (krow C)[q]? = some x → ¬ kS C H b x) → ∃ p, p ≤ (krow C).length ∧ m_CharacterList_rightPosition_l16 fu (zh H) b (zi k) w = some (zi p) ∧ (∀ x, 0 < p → (krow C)[p - 1]? = some x → kS C H b x) ∧ ∀ q x, p ≤ q → (krow C)[q]? = some x → ¬ kS C H b x := by
    intro k
    induction k with
    | zero =>
      intro fu hk hf hI
      obtain ⟨g, rfl⟩ : ∃ g, fu = g + 1 := ⟨fu - 1, by omega⟩
      refine ⟨0, by omega, ?_, fun x hx => absurd hx (by omega), hI⟩
      show m_CharacterList_rightPosition_s16 _ _ _ _ _ = _
      unfold m_CharacterList_rightPosition_s16
      rw [if_pos (show zi 0 ≤ 0 from by decide)]
    | succ k ih =>
      intro fu hk hf hI
      obtain ⟨g, rfl⟩ : ∃ g, fu = g + 1 := ⟨fu - 1, by omega⟩
      obtain ⟨y, hy⟩ : ∃ x, (krow C)[k]? = some x := ⟨_, List.getElem?_eq_getElem (by omega)⟩
      have hym := List.mem_of_getElem? hy
      have hy40 := h40 y hym
      have e1 : zi (k + 1) + (-1 : Int32) = zi k := by
        rw [← zpred k]; exact (Int32.sub_eq_add_neg (zi (k + 1)) 1).symm
      have stop : kS C H b y → ∃ p, p ≤ (krow C).length ∧ some (zi (k + 1)) = some (zi p) ∧ (∀ x, 0 < p → (krow C)[p - 1]? = some x → kS C H b x) ∧ ∀ q x, p ≤ q → (krow C)[q]? = some x → ¬ kS C H b x := by
        intro hs
        refine ⟨k + 1, hk, rfl, fun x _ hx => ?_, hI⟩
        rw [show k + 1 - 1 = k from by omega, hy] at hx
        cases hx; exact hs
      show ∃ p, _ ∧ m_CharacterList_rightPosition_s16 _ _ _ _ _ = _ ∧ _
      unfold m_CharacterList_rightPosition_s16
      rw [if_neg (show ¬ zi (k + 1) ≤ 0 from fun q => absurd ((zle (b := 0) (by omega) (by omega)).mp q) (by omega)), zpred, zg (zin (by omega) (by omega)), zi_nat (a := k) (by omega), h.2.1 k y hy, zg (zin hy40 (by omega)), zi_nat (a := y) (by omega), e1]
      by_cases q1 : y = H
      · rw [if_pos ((zh_row hy40 hH).mpr q1)]
        exact stop (Or.inl q1)
      · rw [if_neg (fun z => q1 ((zh_row hy40 hH).mp z))]
        by_cases q2 : ∃ c, zm b c ∧ kchain C y c
        · rw [if_neg (fun z => (z_chainand h hym).mp z q2)]
          exact stop (Or.inr q2)
        · rw [if_pos ((z_chainand h hym).mpr q2)]
          refine ih g (by omega) (by omega) (fun q x hq hx => ?_)
          by_cases z : q = k
          · subst z
            rw [hy] at hx; cases hx
            exact fun hs => hs.elim q1 q2
          · exact hI q x (by omega) hx
  exact key (krow C).length xFU (Nat.le_refl _) (by unfold xFU; omega) (fun q x hq hx => by
    have := (List.getElem?_eq_some_iff.mp hx).1
    omega)
theorem z_leftPos {C : zK} {w : xS} (h : cT C w) (h40 : ∀ x, x ∈ krow C → x < 40) (hlen : (krow C).length ≤ 40) {H : Nat} (hH : H ≤ 40) (b : Int64) :
    ∃ p, p ≤ (krow C).length ∧ m_CharacterList_leftPosition_l13 xFU (zh H) b 0 w = some (zi p) ∧ (∀ x, (krow C)[p]? = some x → kS C H b x) ∧ ∀ q x, q < p → (krow C)[q]? = some x → ¬ kS C H b x := by
  have key : ∀ d k fu, k + d = (krow C).length → d < fu → (∀ q x, q < k → (krow C)[q]? = some x → ¬ kS C H b x) → ∃ p, p ≤ (krow C).length ∧ m_CharacterList_leftPosition_l13 fu (zh H) b (zi k) w = some (zi p) ∧ (∀ x, (krow C)[p]? = some x → kS C H b x) ∧ ∀ q x, q < p → (krow C)[q]? = some x → ¬ kS C H b x := by
    intro d
    induction d with
    | zero =>
      intro k fu hk hf hI
      obtain ⟨g, rfl⟩ : ∃ g, fu = g + 1 := ⟨fu - 1, by omega⟩
      refine ⟨k, by omega, ?_, fun x hx => ?_, hI⟩
      · show m_CharacterList_leftPosition_s13 _ _ _ _ _ = _
        unfold m_CharacterList_leftPosition_s13
        rw [h.1, if_pos (zle_n (by omega) (by omega) (by omega))]
      · have := (List.getElem?_eq_some_iff.mp hx).1
        omega
    | succ d ih =>
      intro k fu hk hf hI
      obtain ⟨g, rfl⟩ : ∃ g, fu = g + 1 := ⟨fu - 1, by omega⟩
      obtain ⟨y, hy⟩ : ∃ x, (krow C)[k]? = some x := ⟨_, List.getElem?_eq_getElem (by omega)⟩
      have hym := List.mem_of_getElem? hy
      have hy40 := h40 y hym
      have stop : kS C H b y → ∃ p, p ≤ (krow C).length ∧ some (zi k) = some (zi p) ∧ (∀ x, (krow C)[p]? = some x → kS C H b x) ∧ ∀ q x, q < p → (krow C)[q]? = some x → ¬ kS C H b x := by
        intro hs
        refine ⟨k, by omega, rfl, fun x hx => ?_, hI⟩
        rw [hy] at hx; cases hx; exact hs
      show ∃ p, _ ∧ m_CharacterList_leftPosition_s13 _ _ _ _ _ = _ ∧ _
      unfold m_CharacterList_leftPosition_s13
      rw [h.1, if_neg (zle_nn (by omega) (by omega) (by omega)), zg (zin (by omega) (by omega)), zi_nat (a := k) (by omega), h.2.1 k y hy, zg (zin hy40 (by omega)), zi_nat (a := y) (by omega), zsucc]
      by_cases q1 : y = H
      · rw [if_pos ((zh_row hy40 hH).mpr q1)]
        exact stop (Or.inl q1)
      · rw [if_neg (fun z => q1 ((zh_row hy40 hH).mp z))]
        by_cases q2 : ∃ c, zm b c ∧ kchain C y c
        · rw [if_neg (fun z => (z_chainand h hym).mp z q2)]
          exact stop (Or.inr q2)
        · rw [if_pos ((z_chainand h hym).mpr q2)]
          refine ih (k + 1) g (by omega) (by omega) (fun q x hq hx => ?_)
          by_cases z : q = k
          · subst z
            rw [hy] at hx; cases hx
            exact fun hs => hs.elim q1 q2
          · exact hI q x (by omega) hx
  exact key (krow C).length 0 xFU (by omega) (by unfold xFU; omega) (fun q x hq => absurd hq (Nat.not_lt_zero _))
def kbeh (g : Int64) (l : Nat) : Bool → List Nat → Option Nat
  | _, [] => none
  | b, x :: t => if b && zm g x then some x else kbeh g l (b || x == l) t
theorem kbeh_cons {g : Int64} {l x : Nat} {b : Bool} {t : List Nat} : kbeh g l b (x :: t) = if b && zm g x then some x else kbeh g l (b || x == l) t := rfl
theorem kbeh_mem {g : Int64} {l : Nat} : ∀ {L : List Nat} {b : Bool} {y : Nat}, kbeh g l b L = some y → y ∈ L ∧ zm g y := by
  intro L
  induction L with
  | nil => intro b y h; cases h
  | cons x t ih =>
    intro b y h
    unfold kbeh at h
    by_cases q : (b && zm g x) = true
    · rw [if_pos q] at h
      cases h
      rw [Bool.and_eq_true] at q
      exact ⟨List.mem_cons_self, q.2⟩
    · rw [if_neg q] at h
      have := ih h
      exact ⟨List.mem_cons_of_mem _ this.1, this.2⟩
theorem kbeh_true {g : Int64} {l : Nat} : ∀ {L : List Nat} {f : Nat}, f ∈ L → zm g f → ∃ y, kbeh g l true L = some y := by
  intro L
  induction L with
  | nil => intro f h; cases h
  | cons x t ih =>
    intro f hf hg
    unfold kbeh
    by_cases q : zm g x
    · rw [if_pos (by rw [q]; rfl)]; exact ⟨x, rfl⟩
    · rw [if_neg (by simp [q]), Bool.true_or]
      rcases List.mem_cons.mp hf with z | z
      · subst z; exact absurd hg q
      · exact ih z hg
theorem kbeh_some {g : Int64} {l : Nat} : ∀ {A B : List Nat} {f : Nat}, l ∉ A → f ∈ B → zm g f → ∃ y, kbeh g l false (A ++ l :: B) = some y := by
  intro A
  induction A with
  | nil =>
    intro B f _ hf hg
    show ∃ y, (if (false && zm g l) = true then some l else kbeh g l (false || l == l) B) = some y
    rw [if_neg (by simp), show (false || l == l) = true from by simp]
    exact kbeh_true hf hg
  | cons a A ih =>
    intro B f hA hf hg
    show ∃ y, (if (false && zm g a) = true then some a else kbeh g l (false || a == l) (A ++ l :: B)) = some y
    have : (false || a == l) = false := by
      have : a ≠ l := fun q => hA (by rw [q]; exact List.mem_cons_self)
      simp [this]
    rw [if_neg (by simp), this]
    exact ih (fun q => hA (List.mem_cons_of_mem _ q)) hf hg
theorem z_nextBehind {C : zK} {w : xS} (h : cT C w) (h40 : ∀ x, x ∈ krow C → x < 40) (hlen : (krow C).length ≤ 40) {l : Nat} (hl : l ≤ 40) (g : Int64) : m_CharacterList_nextBehind (zh l) g w = some (zo (kbeh g l (l == 40) (krow C))) := by
  have key : ∀ d k fu (b : Bool), k + d = (krow C).length → d < fu → m_CharacterList_nextBehind_l15 fu (zh l) g (zb b) (zi k) w = some (zo (kbeh g l b ((krow C).drop k))) := by
    intro d
    induction d with
    | zero =>
      intro k fu b hk hf
      obtain ⟨q, rfl⟩ : ∃ g, fu = g + 1 := ⟨fu - 1, by omega⟩
      show m_CharacterList_nextBehind_s15 _ _ _ _ _ _ = _
      unfold m_CharacterList_nextBehind_s15
      rw [h.1, if_pos (zle_n (by omega) (by omega) (by omega)), List.drop_eq_nil_of_le (by omega)]; rfl
    | succ d ih =>
      intro k fu b hk hf
      obtain ⟨q, rfl⟩ : ∃ g, fu = g + 1 := ⟨fu - 1, by omega⟩
      obtain ⟨y, hy⟩ : ∃ x, (krow C)[k]? = some x := ⟨_, List.getElem?_eq_getElem (by omega)⟩
      have hym := List.mem_of_getElem? hy
      have hy40 := h40 y hym
      have i1 := ih (k + 1) q true (by omega) (by omega)
      have i0 := ih (k + 1) q false (by omega) (by omega)
      have i1 : m_CharacterList_nextBehind_l15 q (zh l) g 1 (zi (k + 1)) w = _ := i1
      have i0 : m_CharacterList_nextBehind_l15 q (zh l) g 0 (zi (k + 1)) w = _ := i0
      show m_CharacterList_nextBehind_s15 _ _ _ _ _ _ = _
      unfold m_CharacterList_nextBehind_s15 m_CharacterList_nextBehind_b51
      rw [h.1, if_neg (zle_nn (by omega) (by omega) (by omega)), zg (zin (by omega) (by omega)), zg (zin (by omega) (by omega)), zi_nat (a := k) (by omega), h.2.1 k y hy, zb1 (z_has (by omega)), zsucc, zdrop_step hy, i1, i0, kbeh_cons]
      cases b with
      | false =>
        rw [if_pos (show zb (false = true) = 0 from by decide), if_pos (show zb (false = true) = 0 from by decide), Bool.false_and, if_neg (show ¬ false = true from by decide), Bool.false_or]
        by_cases z : y = l
        · rw [if_pos ((zh_row hy40 hl).mpr z), show (y == l) = true from beq_iff_eq.mpr z]
        · rw [if_neg (fun x => z ((zh_row hy40 hl).mp x)), show (y == l) = false from by simp [z]]
      | true =>
        rw [if_neg (show ¬ zb (true = true) = 0 from by decide), if_neg (show ¬ zb (true = true) = 0 from by decide), Bool.true_and, Bool.true_or]
        by_cases z : zm g y
        · rw [if_neg (fun x => (zb_eq0.mp x) z), if_pos z]; rfl
        · rw [if_pos (zb_eq0.mpr z), if_neg z]
  unfold m_CharacterList_nextBehind
  by_cases q : l = 40
  · subst q
    rw [if_pos (show zh 40 = -1 from rfl)]
    exact key (krow C).length 0 xFU true (by omega) (by unfold xFU; omega)
  · have : zh l = zi l := by unfold zh; rw [if_neg q]
    rw [if_neg (by rw [this]; exact zne_m1 (by omega)), show (l == 40) = false from by simp [q]]
    exact key (krow C).length 0 xFU false (by omega) (by unfold xFU; omega)
