def zfr (I L i l : List Nat) (u w : xS) : Prop := (∀ k, k ∉ I → xs_I w k = xs_I u k) ∧ (∀ k, k ∉ L → xs_L w k = xs_L u k) ∧ (∀ k, k ∉ i → xs_i w k = xs_i u k) ∧ (∀ k, k ∉ l → xs_l w k = xs_l u k)
theorem zfr.rf {I L i l : List Nat} {u : xS} : zfr I L i l u u := ⟨fun _ _ => rfl, fun _ _ => rfl, fun _ _ => rfl, fun _ _ => rfl⟩
theorem zfr.tr {I L i l : List Nat} {u w x : xS} (h : zfr I L i l u w) (h2 : zfr I L i l w x) : zfr I L i l u x :=
  ⟨fun k q => (h2.1 k q).trans (h.1 k q), fun k q => (h2.2.1 k q).trans (h.2.1 k q), fun k q => (h2.2.2.1 k q).trans (h.2.2.1 k q), fun k q => (h2.2.2.2 k q).trans (h.2.2.2 k q)⟩
theorem zfr.mo {I L i l I2 L2 i2 l2 : List Nat} {u w : xS} (h : zfr I L i l u w) (hI : ∀ k ∈ I, k ∈ I2) (hL : ∀ k ∈ L, k ∈ L2) (hi : ∀ k ∈ i, k ∈ i2) (hl : ∀ k ∈ l, k ∈ l2) : zfr I2 L2 i2 l2 u w :=
  ⟨fun k q => h.1 k (fun z => q (hI k z)), fun k q => h.2.1 k (fun z => q (hL k z)), fun k q => h.2.2.1 k (fun z => q (hi k z)), fun k q => h.2.2.2 k (fun z => q (hl k z))⟩
theorem zfr.I {I L i l : List Nat} {u w : xS} (h : zfr I L i l u w) {k : Nat} (q : k ∉ I) : xs_I w k = xs_I u k := h.1 k q
theorem zfr.L {I L i l : List Nat} {u w : xS} (h : zfr I L i l u w) {k : Nat} (q : k ∉ L) : xs_L w k = xs_L u k := h.2.1 k q
theorem zfr.i {I L i l : List Nat} {u w : xS} (h : zfr I L i l u w) {k : Nat} (q : k ∉ i) : xs_i w k = xs_i u k := h.2.2.1 k q
theorem zfr.l {I L i l : List Nat} {u w : xS} (h : zfr I L i l u w) {k : Nat} (q : k ∉ l) : xs_l w k = xs_l u k := h.2.2.2 k q
theorem zII {u : xS} {k j : Nat} {v : Int32} : xs_I (xs_sI u k j v) k = upd (xs_I u k) j v := if_pos rfl
theorem zIIn {u : xS} {k q j : Nat} {v : Int32} (h : q ≠ k) : xs_I (xs_sI u k j v) q = xs_I u q := if_neg h
theorem zLI {u : xS} {k q j : Nat} {v : Int32} : xs_L (xs_sI u k j v) q = xs_L u q := rfl
theorem ziI {u : xS} {k q j : Nat} {v : Int32} : xs_i (xs_sI u k j v) q = xs_i u q := rfl
theorem zlI {u : xS} {k q j : Nat} {v : Int32} : xs_l (xs_sI u k j v) q = xs_l u q := rfl
theorem zLL {u : xS} {k j : Nat} {v : Int64} : xs_L (xs_sL u k j v) k = vp_updL (xs_L u k) j v := if_pos rfl
theorem zLLn {u : xS} {k q j : Nat} {v : Int64} (h : q ≠ k) : xs_L (xs_sL u k j v) q = xs_L u q := if_neg h
theorem zIL {u : xS} {k q j : Nat} {v : Int64} : xs_I (xs_sL u k j v) q = xs_I u q := rfl
theorem ziL {u : xS} {k q j : Nat} {v : Int64} : xs_i (xs_sL u k j v) q = xs_i u q := rfl
theorem zlL {u : xS} {k q j : Nat} {v : Int64} : xs_l (xs_sL u k j v) q = xs_l u q := rfl
theorem zii {u : xS} {k : Nat} {v : Int32} : xs_i (xs_si u k v) k = v := if_pos rfl
theorem ziin {u : xS} {k q : Nat} {v : Int32} (h : q ≠ k) : xs_i (xs_si u k v) q = xs_i u q := if_neg h
theorem zIi {u : xS} {k q : Nat} {v : Int32} : xs_I (xs_si u k v) q = xs_I u q := rfl
theorem zLi {u : xS} {k q : Nat} {v : Int32} : xs_L (xs_si u k v) q = xs_L u q := rfl
theorem zli {u : xS} {k q : Nat} {v : Int32} : xs_l (xs_si u k v) q = xs_l u q := rfl
theorem zll {u : xS} {k : Nat} {v : Int64} : xs_l (xs_sl u k v) k = v := if_pos rfl
theorem zlln {u : xS} {k q : Nat} {v : Int64} (h : q ≠ k) : xs_l (xs_sl u k v) q = xs_l u q := if_neg h
theorem zIl {u : xS} {k q : Nat} {v : Int64} : xs_I (xs_sl u k v) q = xs_I u q := rfl
theorem zLl {u : xS} {k q : Nat} {v : Int64} : xs_L (xs_sl u k v) q = xs_L u q := rfl
theorem zil {u : xS} {k q : Nat} {v : Int64} : xs_i (xs_sl u k v) q = xs_i u q := rfl
theorem zup {f : Nat → Int32} {k : Nat} {x : Int32} : upd f k x k = x := if_pos rfl
theorem zupn {f : Nat → Int32} {k j : Nat} {x : Int32} (h : j ≠ k) : upd f k x j = f j := if_neg h
theorem zuL {f : Nat → Int64} {k : Nat} {x : Int64} : vp_updL f k x k = x := if_pos rfl
theorem zuLn {f : Nat → Int64} {k j : Nat} {x : Int64} (h : j ≠ k) : vp_updL f k x j = f j := if_neg h
theorem zfr_sI {I L i l : List Nat} {u : xS} {k j : Nat} {v : Int32} (h : k ∈ I) : zfr I L i l u (xs_sI u k j v) := ⟨fun q hq => zIIn (fun z => hq (z ▸ h)), fun _ _ => rfl, fun _ _ => rfl, fun _ _ => rfl⟩
theorem zfr_sL {I L i l : List Nat} {u : xS} {k j : Nat} {v : Int64} (h : k ∈ L) : zfr I L i l u (xs_sL u k j v) := ⟨fun _ _ => rfl, fun q hq => zLLn (fun z => hq (z ▸ h)), fun _ _ => rfl, fun _ _ => rfl⟩
theorem zfr_si {I L i l : List Nat} {u : xS} {k : Nat} {v : Int32} (h : k ∈ i) : zfr I L i l u (xs_si u k v) := ⟨fun _ _ => rfl, fun _ _ => rfl, fun q hq => ziin (fun z => hq (z ▸ h)), fun _ _ => rfl⟩
theorem zfr_sl {I L i l : List Nat} {u : xS} {k : Nat} {v : Int64} (h : k ∈ l) : zfr I L i l u (xs_sl u k v) := ⟨fun _ _ => rfl, fun _ _ => rfl, fun _ _ => rfl, fun q hq => zlln (fun z => hq (z ▸ h))⟩
theorem zlet {α β : Type} {a : α} {k : α → Option β} : xlt a k = k a := rfl
theorem cE.fr {D : zE} {I L i l : List Nat} {u w : xS} (hu : cE D u) (h : zfr I L i l u w) (h0 : ∀ k, k < 6 → k ∉ I) (h1 : ∀ k, k < 2 → k ∉ L) (h2 : 0 ∉ i) : cE D w := by
  unfold cE
  rw [h.i h2, h.I (h0 0 (by omega)), h.I (h0 1 (by omega)), h.I (h0 2 (by omega)), h.I (h0 3 (by omega)), h.I (h0 4 (by omega)), h.I (h0 5 (by omega)), h.L (h1 0 (by omega)), h.L (h1 1 (by omega))]
  exact hu
theorem mE.fr {D : zE} {I L i l : List Nat} {u w : xS} (hu : mE D u) (h : zfr I L i l u w) (h0 : ∀ k, k < 5 → k ∉ I) (h1 : ∀ k, k < 2 → k ∉ L) (h2 : 0 ∉ i) : mE D w := by
  unfold mE
  rw [h.i h2, h.I (h0 0 (by omega)), h.I (h0 1 (by omega)), h.I (h0 2 (by omega)), h.I (h0 3 (by omega)), h.I (h0 4 (by omega)), h.L (h1 0 (by omega)), h.L (h1 1 (by omega))]
  exact hu
theorem eord_some {D : zE} {f : Nat} {w : Int64} {l : Option Nat} {e : Nat} (h : enext D w l = some e) : eord D (f + 1) w l = e :: eord D f (w &&& (zbit e ^^^ (-1 : Int64))) (some e) := by
  show (match enext D w l with
    | none => []
    | some e => e :: eord D f (w &&& (zbit e ^^^ (-1 : Int64))) (some e)) = _
  rw [h]
theorem eord_none {D : zE} {f : Nat} {w : Int64} {l : Option Nat} (h : enext D w l = none) : eord D (f + 1) w l = [] := by
  show (match enext D w l with
    | none => []
    | some e => e :: eord D f (w &&& (zbit e ^^^ (-1 : Int64))) (some e)) = _
  rw [h]
theorem z_arrange_loop {D : zE} (hO : eOK D) : ∀ (d c fu : Nat) (w : Int64) (l : Option Nat) (u : xS), c + d = 40 → d < fu → cE D u → xs_i u 2 = zi c →
    ∃ x, m_Line_arrange_l17 fu w (zo (enext D w l)) u = some x ∧ zfr [10] [] [2] [] u x ∧ xs_i x 2 = zi (c + (eord D d w l).length) ∧ (∀ k, k < c → xs_I x 10 k = xs_I u 10 k) ∧ ∀ k e, (eord D d w l)[k]? = some e → xs_I x 10 (c + k) = zi e := by
  have hn := hO.n
  intro d
  induction d with
  | zero =>
    intro c fu w l u hc hf hu h2
    obtain ⟨g, rfl⟩ : ∃ g, fu = g + 1 := ⟨fu - 1, by omega⟩
    refine ⟨u, ?_, zfr.rf, h2, fun _ _ => rfl, fun k e h => by cases h⟩
    show m_Line_arrange_s17 _ _ _ _ = _
    unfold m_Line_arrange_s17
    rw [h2, if_pos (show (40 : Int32) ≤ zi c from zle_n (b := 40) (by omega) (by omega) (by omega))]
  | succ d ih =>
    intro c fu w l u hc hf hu h2
    obtain ⟨g, rfl⟩ : ∃ g, fu = g + 1 := ⟨fu - 1, by omega⟩
    show ∃ x, m_Line_arrange_s17 _ _ _ _ = _ ∧ _
    unfold m_Line_arrange_s17
    rw [h2, if_neg (show ¬ (40 : Int32) ≤ zi c from zle_nn (b := 40) (by omega) (by omega) (by omega))]
    cases h : enext D w l with
    | none =>
      rw [eord_none h, zo_none, if_pos rfl]
      exact ⟨u, rfl, zfr.rf, h2, fun _ _ => rfl, fun k e h => by cases h⟩
    | some e =>
      have he := (enext_lt hO h).1
      rw [eord_some h, zo_some, if_neg (zne_m1 (by omega)), zg (zin (by omega) (by omega)), zi_nat (by omega), zlet, zlet, zb1 (z_bit e), ziI, h2, zsucc]
      have f1 : zfr [10] [] [2] [] u (xs_si (xs_sI u 10 c (zi e)) 2 (zi (c + 1))) := zfr.tr (zfr_sI (by decide)) (zfr_si (by decide))
      have hu1 : cE D (xs_si (xs_sI u 10 c (zi e)) 2 (zi (c + 1))) := hu.fr f1 (by decide) (by decide) (by decide)
      rw [zb1 (show m_History_nextOf (w &&& (zbit e ^^^ (-1 : Int64))) (zi e) _ = _ from z_nextOf hO hu1 _ (l := some e) (fun x hx => by cases hx; omega))]
      obtain ⟨x, a1, a2, a3, a4, a5⟩ := ih (c + 1) g (w &&& (zbit e ^^^ (-1 : Int64))) (some e) _ (by omega) (by omega) hu1 zii
      refine ⟨x, a1, f1.tr a2, ?_, ?_, ?_⟩
      · rw [a3, List.length_cons]; congr 1; omega
      · intro k hk
        rw [a4 k (by omega), zIi, zII, zupn (by omega)]
      · intro k y hy
        cases k with
        | zero =>
          rw [List.getElem?_cons_zero] at hy
          cases hy
          rw [Nat.add_zero, a4 c (by omega), zIi, zII, zup]
        | succ k =>
          rw [List.getElem?_cons_succ] at hy
          rw [show c + (k + 1) = c + 1 + k from by omega]
          exact a5 k y hy
theorem z_arrange {D : zE} {u : xS} (hO : eOK D) (hu : cE D u) (s : Int64) : ∃ x, m_Line_arrange s u = some x ∧ zfr [10] [] [2] [] u x ∧ xs_i x 2 = zi (eord D 40 s none).length ∧ ∀ k e, (eord D 40 s none)[k]? = some e → xs_I x 10 k = zi e := by
  unfold m_Line_arrange
  rw [show (-1 : Int32) = zo none from rfl, zb1 (z_nextOf hO hu s (fun e h => by cases h)), zlet]
  have f1 : zfr [10] [] [2] [] u (xs_si u 2 (0 : Int32)) := zfr_si (by decide)
  obtain ⟨x, a1, a2, a3, _, a5⟩ := z_arrange_loop hO 40 0 xFU s none _ (by omega) (by decide) (hu.fr f1 (by decide) (by decide) (by decide)) zii
  refine ⟨x, a1, f1.tr a2, ?_, ?_⟩
  · rw [a3, Nat.zero_add]
  · intro k e h
    have := a5 k e h
    rw [Nat.zero_add] at this
    exact this
theorem zdiff_more {s t : Int64} {e : Nat} : s &&& ((t ||| zbit e) ^^^ (-1 : Int64)) = (s &&& (t ^^^ (-1 : Int64))) &&& (zbit e ^^^ (-1 : Int64)) := zm_ext fun x => by
  rw [zm_diff, zm_diff, zm_diff, zm_or, not_or, and_assoc]
theorem z_order_loop {D : zE} (hO : eOK D) {s : Int64} (hs : zbel (en D) s) : ∀ (d k fu : Nat) (t : Int64) (l : Option Nat) (v : xS), k + d = 40 → d < fu → mE D v → xs_i v 2 = zi k → (∀ x, zm t x → zm s x) → (∀ e, l = some e → e < 40) →
    ∃ x, m_Model_order_l13 fu s t (zo l) (zi k) v = some x ∧ zfr [15] [] [2] [] v x ∧ xs_i x 2 = zi (k + (eord D d (s &&& (t ^^^ (-1 : Int64))) l).length) ∧ (∀ q, q < k → xs_I x 15 q = xs_I v 15 q) ∧ ∀ q e, (eord D d (s &&& (t ^^^ (-1 : Int64))) l)[q]? = some e → xs_I x 15 (k + q) = zi e := by
  have hn := hO.n
  intro d
  induction d with
  | zero =>
    intro k fu t l v hk hf hv h2 _ _
    obtain ⟨g, rfl⟩ : ∃ g, fu = g + 1 := ⟨fu - 1, by omega⟩
    refine ⟨v, ?_, zfr.rf, h2, fun _ _ => rfl, fun k e h => by cases h⟩
    show m_Model_order_s13 _ _ _ _ _ _ = _
    unfold m_Model_order_s13
    rw [if_pos (show (40 : Int32) ≤ zi k from zle_n (b := 40) (by omega) (by omega) (by omega))]
  | succ d ih =>
    intro k fu t l v hk hf hv h2 ht hl
    obtain ⟨g, rfl⟩ : ∃ g, fu = g + 1 := ⟨fu - 1, by omega⟩
    show ∃ x, m_Model_order_s13 _ _ _ _ _ _ = _ ∧ _
    unfold m_Model_order_s13
    rw [if_neg (show ¬ (40 : Int32) ≤ zi k from zle_nn (b := 40) (by omega) (by omega) (by omega))]
    by_cases hts : t = s
    · subst hts
      have : t &&& (t ^^^ (-1 : Int64)) = 0 := zm_eq0.mpr fun x h => (zm_diff.mp h).2 (zm_diff.mp h).1
      rw [if_pos rfl, this, eord_none enext_none]
      exact ⟨v, rfl, zfr.rf, h2, fun _ _ => rfl, fun k e h => by cases h⟩
    · have hw : s &&& (t ^^^ (-1 : Int64)) ≠ 0 := fun q => hts (zm_ext fun x => ⟨ht x, fun hx => by
        by_cases z : zm t x
        · exact z
        · exact absurd (zm_diff.mpr ⟨hx, z⟩) (zm_eq0.mp q x)⟩)
      obtain ⟨e, h⟩ := enext_some hO (l := l) (fun x hx => hs x (zm_diff.mp hx).1) hw
      have he := enext_lt hO h
      rw [if_neg hts, zb1 (z_mnext hO hv s t hl), h, eord_some h, zo_some, zb1 (z_one e), h2, zg (zin (by omega) (by omega)), zi_nat (by omega), zlet, zlet, ziI, h2, zsucc]
      have f1 : zfr [15] [] [2] [] v (xs_si (xs_sI v 15 k (zi e)) 2 (zi (k + 1))) := zfr.tr (zfr_sI (by decide)) (zfr_si (by decide))
      have hv1 : mE D (xs_si (xs_sI v 15 k (zi e)) 2 (zi (k + 1))) := hv.fr f1 (by decide) (by decide) (by decide)
      obtain ⟨x, a1, a2, a3, a4, a5⟩ := ih (k + 1) g (t ||| zbit e) (some e) _ (by omega) (by omega) hv1 zii (fun x hx => by
        rcases zm_or.mp hx with q | q
        · exact ht x q
        · have q := (zm_bit (by omega)).mp q
          subst q
          exact (zm_diff.mp (erdy_iff.mp he.2).1).1) (fun y hy => by cases hy; omega)
      rw [zdiff_more] at a3 a5
      refine ⟨x, a1, f1.tr a2, ?_, ?_, ?_⟩
      · rw [a3, List.length_cons]; congr 1; omega
      · intro q hq
        rw [a4 q (by omega), zIi, zII, zupn (by omega)]
      · intro q y hy
        cases q with
        | zero =>
          rw [List.getElem?_cons_zero] at hy
          cases hy
          rw [Nat.add_zero, a4 k (by omega), zIi, zII, zup]
        | succ q =>
          rw [List.getElem?_cons_succ] at hy
          rw [show k + (q + 1) = k + 1 + q from by omega]
          exact a5 q y hy
theorem z_order {D : zE} {v : xS} (hO : eOK D) (hv : mE D v) {s : Int64} (hs : zbel (en D) s) : ∃ x, m_Model_order s v = some x ∧ zfr [15] [] [2] [] v x ∧ xs_i x 2 = zi (eord D 40 s none).length ∧ ∀ k e, (eord D 40 s none)[k]? = some e → xs_I x 15 k = zi e := by
  unfold m_Model_order
  rw [zlet]
  have f1 : zfr [15] [] [2] [] v (xs_si v 2 (0 : Int32)) := zfr_si (by decide)
  obtain ⟨x, a1, a2, a3, _, a5⟩ := z_order_loop hO hs 40 0 xFU 0 none _ (by omega) (by decide) (hv.fr f1 (by decide) (by decide) (by decide)) zii (fun x h => absurd h zm_zero) (fun e h => by cases h)
  have e0 : s &&& ((0 : Int64) ^^^ (-1 : Int64)) = s := zm_ext fun x => by rw [zm_diff]; exact ⟨And.left, fun h => ⟨h, zm_zero⟩⟩
  rw [e0] at a3 a5
  refine ⟨x, a1, f1.tr a2, ?_, ?_⟩
  · rw [a3, Nat.zero_add]
  · intro k e h
    have := a5 k e h
    rw [Nat.zero_add] at this
    exact this
