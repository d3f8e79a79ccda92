def zset (P : Nat → Bool) : Nat → Int64
  | 0 => 0
  | k + 1 => if P k then zset P k ||| zbit k else zset P k
theorem zset_mem {P : Nat → Bool} {x : Nat} : ∀ {k : Nat}, k ≤ 64 → (zm (zset P k) x ↔ x < k ∧ P x) := by
  intro k
  induction k with
  | zero => intro _; exact ⟨fun h => absurd h zm_zero, fun h => absurd h.1 (Nat.not_lt_zero _)⟩
  | succ k ih =>
    intro hk
    unfold zset
    by_cases h : P k
    · rw [if_pos h, zm_or, ih (by omega), zm_bit (by omega)]
      constructor
      · rintro (q | q)
        · exact ⟨by omega, q.2⟩
        · subst q; exact ⟨by omega, h⟩
      · intro q
        by_cases z : x = k
        · exact Or.inr z
        · exact Or.inl ⟨by omega, q.2⟩
    · rw [if_neg h, ih (by omega)]
      constructor
      · intro q; exact ⟨by omega, q.2⟩
      · intro q
        refine ⟨?_, q.2⟩
        by_cases z : x = k
        · subst z; exact absurd q.2 h
        · omega
def khidb (D : zE) (C : zK) (s : Int64) (x : Nat) : Bool := (List.range (en D)).any (fun d => zm s d && !ein D d && x == kpl C d)
theorem khidb_iff {D : zE} {C : zK} {s : Int64} {x : Nat} : khidb D C s x ↔ khid D C s x := by
  unfold khidb khid
  rw [List.any_eq_true]
  constructor
  · rintro ⟨d, h1, h2⟩
    rw [Bool.and_eq_true, Bool.and_eq_true, beq_iff_eq, Bool.not_eq_true'] at h2
    exact ⟨d, List.mem_range.mp h1, ⟨h2.1.1, fun q => by rw [h2.1.2] at q; cases q⟩, h2.2⟩
  · rintro ⟨d, h1, h2, h3⟩
    refine ⟨d, List.mem_range.mpr h1, ?_⟩
    rw [Bool.and_eq_true, Bool.and_eq_true, beq_iff_eq, Bool.not_eq_true']
    exact ⟨⟨h2.1, by cases h : ein D d with
      | false => rfl
      | true => exact absurd h h2.2⟩, h3⟩
def kshw (D : zE) (C : zK) (s : Int64) : Int64 := zset (fun x => zm s x && decide (x < en D) && ein D x && !khidb D C s x) 64
theorem kshw_mem {D : zE} {C : zK} {s : Int64} {x : Nat} : zm (kshw D C s) x ↔ (zm s x ∧ x < en D ∧ ein D x) ∧ ¬ khid D C s x := by
  unfold kshw
  rw [zset_mem (Nat.le_refl _), Bool.and_eq_true, Bool.and_eq_true, Bool.and_eq_true, decide_eq_true_eq, Bool.not_eq_true', ← khidb_iff]
  constructor
  · rintro ⟨h0, ⟨⟨h1, h2⟩, h3⟩, h4⟩
    exact ⟨⟨h1, h2, h3⟩, fun q => by rw [h4] at q; cases q⟩
  · rintro ⟨⟨h1, h2, h3⟩, h4⟩
    refine ⟨zm_lt h1, ⟨⟨h1, h2⟩, h3⟩, ?_⟩
    cases h : khidb D C s x with
    | false => rfl
    | true => exact absurd h h4
theorem z_shw {D : zE} {C : zK} {u : xS} (hO : eOK D) (hK : kOK D C) (hc : cC D C u) (s : Int64) : m_CharacterList_shownIn s u = some (kshw D C s) := by
  obtain ⟨r, r1, r2⟩ := z_shownIn hO hK hc s
  rw [r1]
  exact congrArg some (zm_ext fun x => by rw [r2, kshw_mem])
theorem kshw_row {D : zE} {C : zK} (hK : kOK D C) {s g : Int64} (hg : ∀ x, zm g x ↔ khid D C s x) : ∀ x, x ∈ krow C → (zm (kshw D C s) x ↔ zm s x ∧ ¬ zm g x) := by
  intro x hx
  rw [kshw_mem, hg]
  have := hK.mem.mp hx
  exact ⟨fun h => ⟨h.1.1, h.2⟩, fun h => ⟨⟨h.1, this⟩, h.2⟩⟩
def keff (D : zE) (C : zK) (s : Int64) (e : Nat) : Int32 :=
  if ein D e then zi (kbef (kshw D C s) (zi e) (krow C))
  else if zm (kshw D C s) (kpl C e) then (-1 : Int32) - zi (kbef (kshw D C s) (zi (kpl C e)) (krow C)) else 1000
theorem z_effect {D : zE} {C : zK} {v : xS} (hO : eOK D) (hK : kOK D C) (hv : mE D v) (hc : mC D C v) {s : Int64} {e : Nat} (he : e < en D) (hs : ¬ ein D e → zm s (kpl C e)) : m_Model_effect s (zi e) v = some (keff D C s e) := by
  have hn := hO.n
  obtain ⟨g, g1, g2⟩ := z_hidden hO hK hv hc s
  have hb := fun i => z_shownBefore hO hK hc g1 (kshw_row hK g2) i
  unfold m_Model_effect keff
  rw [zg (zin (by omega) (by omega)), zg (zin (by omega) (by omega)), zi_nat (by omega), hv.ins he, zb1 g1, hc.pl he, zb1 (hb (zi e)), zb1 (hb _)]
  by_cases h : ein D e
  · rw [if_neg (fun q => (zb_eq0.mp q) h), if_pos h]
  · have hd := hK.del he h
    rw [if_pos (zb_eq0.mpr h), if_neg h, zb1 (z_in (by omega))]
    have hrow := kshw_row hK g2 (kpl C e) (hK.mem.mpr ⟨by omega, hd.2⟩)
    by_cases q : zm g (kpl C e)
    · rw [if_neg (fun y => (zb_eq0.mp y) q), if_neg (fun z => (hrow.mp z).2 q)]
    · rw [if_pos (zb_eq0.mpr q), if_pos (hrow.mpr ⟨hs h, q⟩)]
theorem z_isInsert {D : zE} {u : xS} (hO : eOK D) (hu : cE D u) {e : Nat} (he : e < en D) : m_History_isInsert (zi e) u = some (zb (ein D e)) := by
  have hn := hO.n
  have := hO.ch he
  unfold m_History_isInsert
  rw [zg (zin (by omega) (by omega)), zi_nat (by omega), hu.ch he]
  by_cases h : ein D e
  · rw [if_pos h, if_neg (zne_m1 (by omega)), zb_pos h]
  · rw [if_neg h, if_pos rfl, zb_neg h]
theorem z_takenBy {D : zE} {C : zK} {u : xS} (hO : eOK D) (hc : cC D C u) {e : Nat} (he : e < en D) (hi : ¬ ein D e) : m_CharacterList_takenBy (zi e) u = some (zi (kpl C e)) := by
  have hn := hO.n
  unfold m_CharacterList_takenBy
  rw [zg (zin (by omega) (by omega)), zi_nat (by omega), hc.tk he hi]
theorem z_removal {D : zE} {C : zK} {u : xS} (hO : eOK D) (hK : kOK D C) (hc : cC D C u) (s : Int64) {c : Nat} (h : c < 40) : m_Merge_removal s (zi c) u = some (if zm (kshw D C s) c then (-1 : Int32) - zi (kbef (kshw D C s) (zi c) (krow C)) else 1000) := by
  unfold m_Merge_removal
  rw [zb1 (z_shw hO hK hc s), zb1 (z_has (by omega)), zb1 (z_indexIn hO hK hc _ _)]
  by_cases q : zm (kshw D C s) c
  · rw [if_neg (fun y => (zb_eq0.mp y) q), if_pos q]
  · rw [if_pos (zb_eq0.mpr q), if_neg q]
theorem z_applied {D : zE} {C : zK} {u : xS} (hO : eOK D) (hK : kOK D C) (hu : cE D u) (hc : cC D C u) {s : Int64} {e : Nat} (he : e < en D) {β : Type} (k : Int32 → Option β) :
    (xb1 (m_History_isInsert (zi e) u) fun r41 => (if r41 = 0 then xb1 (m_CharacterList_takenBy (zi e) u) fun r68 => xb1 (m_Merge_removal s r68 u) k else xb1 (m_CharacterList_shownIn s u) fun r51 => xb1 (m_CharacterList_indexIn r51 (zi e) u) k)) = k (keff D C s e) := by
  have hn := hO.n
  rw [zb1 (z_isInsert hO hu he)]
  unfold keff
  by_cases h : ein D e
  · rw [if_neg (fun q => (zb_eq0.mp q) h), if_pos h, zb1 (z_shw hO hK hc s), zb1 (z_indexIn hO hK hc _ _)]
  · have hd := hK.del he h
    rw [if_pos (zb_eq0.mpr h), if_neg h, zb1 (z_takenBy hO hc he h), zb1 (z_removal hO hK hc s (by omega))]
def emv (D : zE) : List Nat → Int64 → Nat
  | [], _ => 0
  | e :: t, w => zc 40 (w ^^^ ean D e) + emv D t (ean D e ||| zbit e)
def ever (D : zE) : List Nat → Int64 → Int64
  | [], w => w
  | e :: t, _ => ever D t (ean D e ||| zbit e)
theorem zbel_up {D : zE} (hO : eOK D) {e : Nat} (he : e < en D) : zbel (en D) (ean D e ||| zbit e) := fun x hx => by
  have hn := hO.n
  rcases zm_or.mp hx with q | q
  · have := hO.sub he x q; omega
  · rw [zm_bit (by omega)] at q; omega
theorem zbel_xor {n : Nat} {a b : Int64} (ha : zbel n a) (hb : zbel n b) : zbel n (a ^^^ b) := fun x hx => by
  by_cases q : zm a x
  · exact ha x q
  · by_cases z : zm b x
    · exact hb x z
    · exact absurd ⟨fun y => absurd y q, fun y => absurd y z⟩ (zm_xor.mp hx)
theorem ever_bel {D : zE} (hO : eOK D) : ∀ {L : List Nat} {w : Int64}, (∀ e, e ∈ L → e < en D) → zbel (en D) w → zbel (en D) (ever D L w) := by
  intro L
  induction L with
  | nil => intro w _ h; exact h
  | cons e t ih => intro w hL h; exact ih (fun x hx => hL x (List.mem_cons_of_mem _ hx)) (zbel_up hO (hL e List.mem_cons_self))
def cN (L : List Nat) (u : xS) : Prop := xs_i u 2 = zi L.length ∧ ∀ k e, L[k]? = some e → xs_I u 10 k = zi e
theorem cN.fr {L : List Nat} {I J i l : List Nat} {u w : xS} (hu : cN L u) (h : zfr I J i l u w) (h0 : 10 ∉ I) (h2 : 2 ∉ i) : cN L w := by
  unfold cN
  rw [h.i h2, h.I h0]
  exact hu
theorem z_get {L : List Nat} {u : xS} (h : cN L u) (hL : L.length ≤ 40) {k e : Nat} (he : L[k]? = some e) : m_Line_get (zi k) u = some (zi e) := by
  obtain ⟨hk, _⟩ := List.getElem?_eq_some_iff.mp he
  unfold m_Line_get
  rw [zg (zin (by omega) (by omega)), zi_nat (by omega), h.2 k e he]
theorem z_passThrough {D : zE} (hO : eOK D) {L : List Nat} (hL : L.length ≤ 40) (hM : ∀ e, e ∈ L → e < en D) {j : Nat} (hj : j < 3) {w : Int64} (hw : zbel (en D) w) {u : xS} (hu : cE D u) (hN : cN L u) {a : Nat} (ha : xs_i u (9 + j) = zi a) :
    ∃ x, m_Merge_passThrough j w u = some (ever D L w, x) ∧ zfr [] [] [9 + j] [] u x ∧ xs_i x (9 + j) = zi (a + emv D L w) := by
  have hn := hO.n
  have key : ∀ d p fu (w : Int64) (a : Nat) (u : xS), p + d = L.length → d < fu → zbel (en D) w → cE D u → cN L u → xs_i u (9 + j) = zi a → ∃ x, m_Merge_passThrough_l6 fu j w (zi p) u = some (ever D (L.drop p) w, x) ∧ zfr [] [] [9 + j] [] u x ∧ xs_i x (9 + j) = zi (a + emv D (L.drop p) w) := by
    intro d
    induction d with
    | zero =>
      intro p fu w a u hp hf hw hu hN ha
      obtain ⟨q, rfl⟩ : ∃ q, fu = q + 1 := ⟨fu - 1, by omega⟩
      refine ⟨u, ?_, zfr.rf, ?_⟩
      · show m_Merge_passThrough_s6 _ _ _ _ _ = _
        unfold m_Merge_passThrough_s6 m_Line_size
        rw [zb1 rfl, hN.1, if_pos (zle_n (by omega) (by omega) (by omega)), List.drop_eq_nil_of_le (by omega)]; rfl
      · rw [ha, List.drop_eq_nil_of_le (by omega)]; rfl
    | succ d ih =>
      intro p fu w a u hp hf hw hu hN ha
      obtain ⟨q, rfl⟩ : ∃ q, fu = q + 1 := ⟨fu - 1, by omega⟩
      show ∃ x, m_Merge_passThrough_s6 _ _ _ _ _ = _ ∧ _
      unfold m_Merge_passThrough_s6 m_Line_size
      obtain ⟨e, he⟩ : ∃ x, L[p]? = some x := ⟨_, List.getElem?_eq_getElem (by omega)⟩
      have hen := hM e (List.mem_of_getElem? he)
      have hanc : m_History_ancestorsOf (zi e) u = some (ean D e) := by
        unfold m_History_ancestorsOf
        rw [zg (zin (by omega) (by omega)), zi_nat (by omega), hu.an hen]
      rw [zb1 rfl, hN.1, if_neg (zle_nn (by omega) (by omega) (by omega)), zb1 (z_get hN hL he), zb1 hanc, zb1 (z_count hn (zbel_xor hw (fun x hx => by have := hO.sub hen x hx; omega))), ha, zadd, zlet]
      have f1 : zfr [] [] [9 + j] [] u (xs_si u (9 + j) (zi (a + zc 40 (w ^^^ ean D e)))) := zfr_si List.mem_cons_self
      have hu1 := hu.fr f1 (by decide) (by decide) (by simp; omega)
      have hN1 := hN.fr f1 (by decide) (by simp; omega)
      rw [zb1 (z_upTo hO hu1 hen), zsucc]
      obtain ⟨x, x1, x2, x3⟩ := ih (p + 1) q (ean D e ||| zbit e) _ _ (by omega) (by omega) (zbel_up hO hen) hu1 hN1 zii
      refine ⟨x, ?_, f1.tr x2, ?_⟩
      · rw [x1, zdrop_step he]; rfl
      · rw [x3, zdrop_step he]
        show zi _ = zi (a + (zc 40 (w ^^^ ean D e) + emv D (L.drop (p + 1)) (ean D e ||| zbit e)))
        congr 1; omega
  have := key L.length 0 xFU w a u (by omega) (by unfold xFU; omega) hw hu hN ha
  rw [List.drop_zero] at this
  exact this
def kops (D : zE) (C : zK) : List Nat → Int64 → List Int32
  | [], _ => []
  | e :: t, s => keff D C s e :: kops D C t (s ||| zbit e)
def know (s : Int64) : List Nat → Int64
  | [] => s
  | e :: t => know (s ||| zbit e) t
theorem kops_len {D : zE} {C : zK} : ∀ (L : List Nat) (s : Int64), (kops D C L s).length = L.length := by
  intro L
  induction L with
  | nil => intro s; rfl
  | cons e t ih => intro s; show _ + 1 = _ + 1; rw [ih]
theorem cC.fr {D : zE} {C : zK} {I L i l : List Nat} {u w : xS} (hu : cC D C u) (h : zfr I L i l u w) (h0 : ∀ k, 6 ≤ k → k < 10 → k ∉ I) (h1 : 2 ∉ L) (h2 : 1 ∉ i) (h3 : 0 ∉ l) (h4 : 1 ∉ l) : cC D C w := by
  unfold cC
  rw [h.i h2, h.I (h0 6 (by omega) (by omega)), h.I (h0 7 (by omega) (by omega)), h.I (h0 8 (by omega) (by omega)), h.I (h0 9 (by omega) (by omega)), h.L h1, h.l h3, h.l h4]
  exact hu
theorem mC.fr {D : zE} {C : zK} {I L i l : List Nat} {u w : xS} (hu : mC D C u) (h : zfr I L i l u w) (h0 : ∀ k, 5 ≤ k → k < 9 → k ∉ I) (h2 : 1 ∉ i) : mC D C w := by
  unfold mC
  rw [h.i h2, h.I (h0 5 (by omega) (by omega)), h.I (h0 6 (by omega) (by omega)), h.I (h0 7 (by omega) (by omega)), h.I (h0 8 (by omega) (by omega))]
  exact hu
theorem z_applyAll {D : zE} {C : zK} (hO : eOK D) (hK : kOK D C) {L : List Nat} (hL : L.length ≤ 40) (hM : ∀ e, e ∈ L → e < en D) {j : Nat} (hj : j < 3) (s : Int64) {u : xS} (hu : cE D u) (hc : cC D C u) (hN : cN L u) :
    ∃ x, m_Merge_applyAll j s u = some x ∧ zfr [11 + j] [] [3 + j] [] u x ∧ xs_i x (3 + j) = zi L.length ∧ ∀ k y, (kops D C L s)[k]? = some y → xs_I x (11 + j) k = y := by
  have hn := hO.n
  unfold m_Merge_applyAll m_Line_size
  rw [zb1 rfl, zlet, hN.1]
  have key : ∀ d p fu (s : Int64) (u : xS), p + d = L.length → d < fu → cE D u → cC D C u → cN L u → xs_i u (3 + j) = zi L.length → ∃ x, m_Merge_applyAll_l15 fu j s (zi p) u = some x ∧ zfr [11 + j] [] [3 + j] [] u x ∧ xs_i x (3 + j) = zi L.length ∧ (∀ k, k < p → xs_I x (11 + j) k = xs_I u (11 + j) k) ∧ ∀ k y, (kops D C (L.drop p) s)[k]? = some y → xs_I x (11 + j) (p + k) = y := by
    intro d
    induction d with
    | zero =>
      intro p fu s u hp hf hu hc hN ha
      obtain ⟨q, rfl⟩ : ∃ q, fu = q + 1 := ⟨fu - 1, by omega⟩
      refine ⟨u, ?_, zfr.rf, ha, fun _ _ => rfl, ?_⟩
      · show m_Merge_applyAll_s15 _ _ _ _ _ = _
        unfold m_Merge_applyAll_s15
        rw [ha, if_pos (zle_n (by omega) (by omega) (by omega))]
      · intro k y hy
        rw [List.drop_eq_nil_of_le (by omega)] at hy
        cases hy
    | succ d ih =>
      intro p fu s u hp hf hu hc hN ha
      obtain ⟨q, rfl⟩ : ∃ q, fu = q + 1 := ⟨fu - 1, by omega⟩
      show ∃ x, m_Merge_applyAll_s15 _ _ _ _ _ = _ ∧ _
      unfold m_Merge_applyAll_s15
      obtain ⟨e, he⟩ : ∃ x, L[p]? = some x := ⟨_, List.getElem?_eq_getElem (by omega)⟩
      have hen := hM e (List.mem_of_getElem? he)
      rw [ha, if_neg (zle_nn (by omega) (by omega) (by omega)), zb1 (z_get hN hL he), z_applied hO hK hu hc hen]
      unfold m_Merge_applyAll_b74
      rw [zg (zin (by omega) (by omega)), zlet, zb1 (z_bit e), zi_nat (by omega), zsucc]
      have f1 : zfr [11 + j] [] [3 + j] [] u (xs_sI u (11 + j) p (keff D C s e)) := zfr_sI List.mem_cons_self
      obtain ⟨x, x1, x2, x3, x4, x5⟩ := ih (p + 1) q (s ||| zbit e) _ (by omega) (by omega) (hu.fr f1 (fun k hk => by simp; omega) (by decide) (by simp; omega)) (hc.fr f1 (fun k h1 h2 => by simp; omega) (by decide) (by simp; omega) (by decide) (by decide)) (hN.fr f1 (by simp; omega) (by simp; omega)) ha
      refine ⟨x, x1, f1.tr x2, x3, ?_, ?_⟩
      · intro k hk
        rw [x4 k (by omega), zII, zupn (by omega)]
      · intro k y hy
        rw [zdrop_step he] at hy
        cases k with
        | zero =>
          have hy : some (keff D C s e) = some y := hy
          cases hy
          rw [Nat.add_zero, x4 p (by omega), zII, zup]
        | succ k =>
          rw [show p + (k + 1) = p + 1 + k from by omega]
          exact x5 k y hy
  have f1 : zfr [11 + j] [] [3 + j] [] u (xs_si u (3 + j) (zi L.length)) := zfr_si List.mem_cons_self
  obtain ⟨x, x1, x2, x3, _, x5⟩ := key L.length 0 xFU s _ (by omega) (by unfold xFU; omega) (hu.fr f1 (fun k hk => by simp; omega) (by decide) (by simp; omega)) (hc.fr f1 (fun k h1 h2 => by simp; omega) (by decide) (by simp; omega) (by decide) (by decide)) (hN.fr f1 (by simp; omega) (by simp; omega)) zii
  refine ⟨x, x1, f1.tr x2, x3, fun k y hy => ?_⟩
  have := x5 k y hy
  rw [Nat.zero_add] at this
  exact this
def mN (L : List Nat) (v : xS) : Prop := xs_i v 2 = zi L.length ∧ ∀ k e, L[k]? = some e → xs_I v 15 k = zi e
theorem mN.fr {L : List Nat} {I J i l : List Nat} {u w : xS} (hu : mN L u) (h : zfr I J i l u w) (h0 : 15 ∉ I) (h2 : 2 ∉ i) : mN L w := by
  unfold mN
  rw [h.i h2, h.I h0]
  exact hu
def kfit (D : zE) (C : zK) : List Nat → Int64 → Prop
  | [], _ => True
  | e :: t, s => (¬ ein D e → zm s (kpl C e)) ∧ kfit D C t (s ||| zbit e)
theorem z_merge2 {D : zE} {C : zK} (hO : eOK D) (hK : kOK D C) {L : List Nat} (hL : L.length ≤ 40) (hM : ∀ e, e ∈ L → e < en D) {j : Nat} (hj : j < 3) {v : xS} (hv : mE D v) (hc : mC D C v) (hN : mN L v) {w : Int64} {s : Int64} (hf : kfit D C L s) (a : Nat) :
    ∃ x, m_Model_merge_l146 xFU (zi j) (zi a) w s 0 v = some x ∧ zfr [12, 13, 14] [2] [] [] v x ∧ xs_I x 12 j = zi (a + emv D L w) ∧ xs_I x 13 j = zi L.length ∧ xs_L x 2 j = know s L ∧ (∀ r, r ≠ j → xs_I x 12 r = xs_I v 12 r ∧ xs_I x 13 r = xs_I v 13 r ∧ xs_L x 2 r = xs_L v 2 r) ∧ (∀ q, (∀ k, k < 40 → q ≠ 40 * j + k) → xs_I x 14 q = xs_I v 14 q) ∧ ∀ k y, (kops D C L s)[k]? = some y → xs_I x 14 (40 * j + k) = y := by
  have hn := hO.n
  have key : ∀ d p fu (w s : Int64) (a : Nat) (v : xS), p + d = L.length → d < fu → mE D v → mC D C v → mN L v → kfit D C (L.drop p) s → ∃ x, m_Model_merge_l146 fu (zi j) (zi a) w s (zi p) v = some x ∧ zfr [12, 13, 14] [2] [] [] v x ∧ xs_I x 12 j = zi (a + emv D (L.drop p) w) ∧ xs_I x 13 j = zi L.length ∧ xs_L x 2 j = know s (L.drop p) ∧ (∀ r, r ≠ j → xs_I x 12 r = xs_I v 12 r ∧ xs_I x 13 r = xs_I v 13 r ∧ xs_L x 2 r = xs_L v 2 r) ∧ (∀ q, (∀ k, k < 40 → q ≠ 40 * j + k) → xs_I x 14 q = xs_I v 14 q) ∧ (∀ k, k < p → xs_I x 14 (40 * j + k) = xs_I v 14 (40 * j + k)) ∧ ∀ k y, (kops D C (L.drop p) s)[k]? = some y → xs_I x 14 (40 * j + (p + k)) = y := by
    intro d
    induction d with
    | zero =>
      intro p fu w s a v hp hf hv hc hN _
      obtain ⟨q, rfl⟩ : ∃ q, fu = q + 1 := ⟨fu - 1, by omega⟩
      show ∃ x, m_Model_merge_s146 _ _ _ _ _ _ _ = _ ∧ _
      unfold m_Model_merge_s146
      rw [hN.1, if_pos (zle_n (by omega) (by omega) (by omega)), zg (zin hj (by omega)), zlet, zlet, zlet, zi_nat (by omega), ziI, hN.1, List.drop_eq_nil_of_le (by omega)]
      refine ⟨_, rfl, ((zfr_sI (by decide)).tr (zfr_sI (by decide))).tr (zfr_sL (by decide)), ?_, ?_, ?_, ?_, ?_, ?_, ?_⟩
      · rw [zIL, zIIn (by decide), zII, zup]; rfl
      · rw [zIL, zII, zup]
      · rw [zLL, zuL]; rfl
      · intro r hr
        refine ⟨?_, ?_, ?_⟩
        · rw [zIL, zIIn (by decide), zII, zupn hr]
        · rw [zIL, zII, zupn hr, zIIn (by decide)]
        · rw [zLL, zuLn hr]; rfl
      · intro q _
        rw [zIL, zIIn (by decide), zIIn (by decide)]
      · intro k _
        rw [zIL, zIIn (by decide), zIIn (by decide)]
      · intro k y hy; cases hy
    | succ d ih =>
      intro p fu w s a v hp hf hv hc hN hfit
      obtain ⟨q, rfl⟩ : ∃ q, fu = q + 1 := ⟨fu - 1, by omega⟩
      show ∃ x, m_Model_merge_s146 _ _ _ _ _ _ _ = _ ∧ _
      unfold m_Model_merge_s146
      obtain ⟨e, he⟩ : ∃ x, L[p]? = some x := ⟨_, List.getElem?_eq_getElem (by omega)⟩
      have hen := hM e (List.mem_of_getElem? he)
      rw [zdrop_step he] at hfit ⊢
      rw [hN.1, if_neg (zle_nn (by omega) (by omega) (by omega)), zg (zin (by omega) (by omega)), zi_nat (by omega), hN.2 p e he, zg (zin (by omega) (by omega)), zi_nat (by omega), hv.an hen, zb1 (z_many _), zb1 (z_one e), zb1 (z_effect hO hK hv hc hen hfit.1), z40rk, zg (zin (by omega) (by omega)), zlet, zb1 (z_one e), zi_nat (by omega), zadd, zsucc]
      have f1 : zfr [12, 13, 14] [2] [] [] v (xs_sI v 14 (40 * j + p) (keff D C s e)) := zfr_sI (by decide)
      obtain ⟨x, x1, x2, x3, x4, x5, x6, x7, x8, x9⟩ := ih (p + 1) q (ean D e ||| zbit e) (s ||| zbit e) _ _ (by omega) (by omega) (hv.fr f1 (by decide) (by decide) (by decide)) (hc.fr f1 (fun k h1 h2 => by simp; omega) (by decide)) (hN.fr f1 (by decide) (by decide)) hfit.2
      refine ⟨x, x1, f1.tr x2, ?_, x4, x5, ?_, ?_, ?_, ?_⟩
      · rw [x3]
        show zi _ = zi (a + (zc 40 (w ^^^ ean D e) + emv D (L.drop (p + 1)) (ean D e ||| zbit e)))
        congr 1; omega
      · intro r hr
        have := x6 r hr
        rw [zIIn (by decide), zIIn (by decide)] at this
        exact this
      · intro y hy
        rw [x7 y hy, zII, zupn (hy p (by omega))]
      · intro k hk
        rw [x8 k (by omega), zII, zupn (by omega)]
      · intro k y hy
        cases k with
        | zero =>
          have hy : some (keff D C s e) = some y := hy
          cases hy
          rw [Nat.add_zero, x8 p (by omega), zII, zup]
        | succ k =>
          rw [show p + (k + 1) = p + 1 + k from by omega]
          exact x9 k y hy
  obtain ⟨x, x1, x2, x3, x4, x5, x6, x7, _, x9⟩ := key L.length 0 xFU w s a v (by omega) (by unfold xFU; omega) hv hc hN hf
  refine ⟨x, x1, x2, x3, x4, x5, x6, x7, fun k y hy => ?_⟩
  have := x9 k y hy
  rw [Nat.zero_add] at this
  exact this
theorem z_merge1 {D : zE} (hO : eOK D) {L : List Nat} (hL : L.length ≤ 40) (hM : ∀ e, e ∈ L → e < en D) {j : Nat} (hj : j < 3) {v : xS} (hv : mE D v) (hN : mN L v) (f s w : Int64) :
    m_Model_merge_l77 xFU (zi j) f s 0 w 0 v = xb1 (m_Model_order f v) fun u136 => m_Model_merge_l146 xFU (zi j) (zi (emv D L w)) (ever D L w) s 0 u136 := by
  have hn := hO.n
  have key : ∀ d p fu (w : Int64) (a : Nat), p + d = L.length → d < fu → m_Model_merge_l77 fu (zi j) f s (zi a) w (zi p) v = xb1 (m_Model_order f v) fun u136 => m_Model_merge_l146 xFU (zi j) (zi (a + emv D (L.drop p) w)) (ever D (L.drop p) w) s 0 u136 := by
    intro d
    induction d with
    | zero =>
      intro p fu w a hp hf
      obtain ⟨q, rfl⟩ : ∃ q, fu = q + 1 := ⟨fu - 1, by omega⟩
      show m_Model_merge_s77 _ _ _ _ _ _ _ _ = _
      unfold m_Model_merge_s77
      rw [hN.1, if_pos (zle_n (by omega) (by omega) (by omega)), List.drop_eq_nil_of_le (by omega)]; rfl
    | succ d ih =>
      intro p fu w a hp hf
      obtain ⟨q, rfl⟩ : ∃ q, fu = q + 1 := ⟨fu - 1, by omega⟩
      show m_Model_merge_s77 _ _ _ _ _ _ _ _ = _
      unfold m_Model_merge_s77
      obtain ⟨e, he⟩ : ∃ x, L[p]? = some x := ⟨_, List.getElem?_eq_getElem (by omega)⟩
      have hen := hM e (List.mem_of_getElem? he)
      rw [hN.1, if_neg (zle_nn (by omega) (by omega) (by omega)), zg (zin (by omega) (by omega)), zi_nat (by omega), hN.2 p e he, zg (zin (by omega) (by omega)), zi_nat (by omega), hv.an hen, zb1 (z_many _), zb1 (z_one e), zadd, zsucc, ih (p + 1) q _ _ (by omega) (by omega), zdrop_step he]
      rw [show a + zc 40 (w ^^^ ean D e) + emv D (L.drop (p + 1)) (ean D e ||| zbit e) = a + emv D (e :: L.drop (p + 1)) w from by
        show _ = a + (zc 40 (w ^^^ ean D e) + emv D (L.drop (p + 1)) (ean D e ||| zbit e)); omega]
      rfl
  have := key L.length 0 xFU w 0 (by omega) (by unfold xFU; omega)
  rw [List.drop_zero, Nat.zero_add] at this
  exact this
