theorem epa_cover {D : zE} (hO : eOK D) {e : Nat} (he : e < en D) : ∀ {x : Nat}, zm (ean D e) x → zm (epa D e) x ∨ ∃ f, zm (epa D e) f ∧ zm (ean D f) x := by
  have key : ∀ m x, e - x ≤ m → zm (ean D e) x → zm (epa D e) x ∨ ∃ f, zm (epa D e) f ∧ zm (ean D f) x := by
    intro m
    induction m with
    | zero =>
      intro x hm hx
      have := hO.sub he x hx
      omega
    | succ m ih =>
      intro x hm hx
      by_cases hp : zm (epa D e) x
      · exact Or.inl hp
      · have h := (not_congr (hO.pa he x)).mp hp
        have h2 : ∃ f, zm (ean D e) f ∧ zm (ean D f) x := by
          by_cases q : ∃ f, zm (ean D e) f ∧ zm (ean D f) x
          · exact q
          · exact absurd ⟨hx, q⟩ h
        obtain ⟨f, hf, hfx⟩ := h2
        have h3 := hO.sub he f hf
        have h4 := hO.sub (show f < en D by omega) x hfx
        rcases ih f (by omega) hf with q | ⟨g, q1, q2⟩
        · exact Or.inr ⟨f, q, hfx⟩
        · have h5 := hO.sub he g (hO.paan he q1)
          exact Or.inr ⟨g, q1, hO.cl (show g < en D by omega) f q2 x hfx⟩
  intro x hx
  exact key (e - x) x (Nat.le_refl _) hx
theorem zcl_par {D : zE} (hO : eOK D) {s : Int64} (hc : zcl D s) {e : Nat} (he : e < en D) (h : ∀ x, zm (epa D e) x → zm s x) : ∀ x, zm (ean D e) x → zm s x := by
  intro x hx
  rcases epa_cover hO he hx with q | ⟨f, q1, q2⟩
  · exact h x q
  · exact hc f (h f q1) x q2
theorem kfit_ord {D : zE} {C : zK} (hO : eOK D) (hK : kOK D C) {T : Int64} (hT : zcl D T) : ∀ d (w s : Int64) (l : Option Nat), zcl D s → (∀ x, zm T x ↔ zm s x ∨ zm w x) → zbel (en D) w → kfit D C (eord D d w l) s := by
  have hn := hO.n
  intro d
  induction d with
  | zero => intro w s l _ _ _; exact trivial
  | succ d ih =>
    intro w s l hs hw hb
    cases h : enext D w l with
    | none => rw [eord_none h]; exact trivial
    | some e =>
      rw [eord_some h]
      have h1 := enext_lt hO h
      have h2 := erdy_iff.mp h1.2
      have hp : ∀ x, zm (epa D e) x → zm s x := by
        intro x hx
        have hTx : zm T x := hT e ((hw e).mpr (Or.inr h2.1)) x (hO.paan h1.1 hx)
        rcases (hw x).mp hTx with q | q
        · exact q
        · exact absurd (zm_and.mpr ⟨hx, q⟩) (zm_eq0.mp h2.2 x)
      have ha := zcl_par hO hs h1.1 hp
      refine ⟨fun hd => ?_, ih _ _ _ ?_ ?_ ?_⟩
      · rcases hK.an h1.1 with q | q
        · have := hK.del h1.1 hd
          omega
        · exact ha _ q
      · intro f hf x hx
        rcases zm_or.mp hf with q | q
        · exact zm_or.mpr (Or.inl (hs f q x hx))
        · have q := (zm_bit (by omega)).mp q
          subst q
          exact zm_or.mpr (Or.inl (ha x hx))
      · intro x
        rw [hw, zm_or, zm_diff, zm_bit (by omega)]
        constructor
        · rintro (q | q)
          · exact Or.inl (Or.inl q)
          · by_cases z : x = e
            · exact Or.inl (Or.inr z)
            · exact Or.inr ⟨q, z⟩
        · rintro ((q | q) | q)
          · exact Or.inl q
          · exact Or.inr (q ▸ h2.1)
          · exact Or.inr q.1
      · exact fun x hx => hb x (zm_diff.mp hx).1
theorem know_ord {D : zE} (hO : eOK D) : ∀ d (w s : Int64) (l : Option Nat), zbel (en D) w → zc 40 w ≤ d → know s (eord D d w l) = s ||| w := by
  have hn := hO.n
  intro d
  induction d with
  | zero =>
    intro w s l hw h
    have h0 : w = 0 := by
      apply zm_eq0.mpr
      intro x hx
      have : zc 40 (w &&& (zbit x ^^^ (-1 : Int64))) + 1 = zc 40 w := (zc_ins (e := x) (by have := hw x hx; omega) (fun q => (zm_diff.mp q).2 ((zm_bit (zm_lt hx)).mpr rfl)) (fun y => by
        rw [zm_diff, zm_bit (zm_lt hx)]
        constructor
        · intro q
          by_cases z : y = x
          · exact Or.inr z
          · exact Or.inl ⟨q, z⟩
        · rintro (q | q)
          · exact q.1
          · exact q ▸ hx)).symm
      omega
    subst h0
    exact zm_ext fun x => by
      rw [zm_or]
      exact ⟨Or.inl, fun q => q.elim id (fun z => absurd z zm_zero)⟩
  | succ d ih =>
    intro w s l hw h
    by_cases h0 : w = 0
    · subst h0
      rw [eord_none enext_none]
      exact zm_ext fun x => by
        rw [zm_or]
        exact ⟨Or.inl, fun q => q.elim id (fun z => absurd z zm_zero)⟩
    · obtain ⟨e, he⟩ := enext_some hO (l := l) hw h0
      have h1 := enext_lt hO he
      have h2 := (erdy_iff.mp h1.2).1
      have hc : zc 40 w = zc 40 (w &&& (zbit e ^^^ (-1 : Int64))) + 1 := by
        apply zc_ins (e := e) (by omega)
        · intro q; exact (zm_diff.mp q).2 ((zm_bit (by omega)).mpr rfl)
        · intro x
          rw [zm_diff, zm_bit (by omega)]
          constructor
          · intro q
            by_cases z : x = e
            · exact Or.inr z
            · exact Or.inl ⟨q, z⟩
          · rintro (q | q)
            · exact q.1
            · exact q ▸ h2
      rw [eord_some he]
      show know (s ||| zbit e) _ = _
      rw [ih _ _ _ (fun x hx => hw x (zm_diff.mp hx).1) (by omega)]
      exact zm_ext fun x => by
        rw [zm_or, zm_or, zm_or, zm_diff, zm_bit (by omega)]
        constructor
        · rintro ((q | q) | q)
          · exact Or.inl q
          · exact Or.inr (q ▸ h2)
          · exact Or.inr q.1
        · rintro (q | q)
          · exact Or.inl (Or.inl q)
          · by_cases z : x = e
            · exact Or.inl (Or.inr z)
            · exact Or.inr ⟨q, z⟩
theorem z_merge {D : zE} {C : zK} {u v : xS} (hO : eOK D) (hK : kOK D C) (hu : cE D u) (hv : mE D v) (huc : cC D C u) (hvc : mC D C v) {j : Nat} (hj : j < 3) {s f : Int64} (hs : zbel (en D) s) (hsc : zcl D s) (hf : zbel (en D) f) (hT : zcl D (s ||| f)) (hg : xs_L v 2 j = s) :
    ∃ x y p, m_Merge_perform j s f u = some x ∧ m_Model_merge (zi j) f v = some y ∧ zfr [10, 11 + j] [] [2, 3 + j, 6 + j, 9 + j] [] u x ∧ zfr [11, 12, 13, 14, 15] [2] [2] [] v y ∧
      xs_I y 11 j = xs_i x (6 + j) ∧ xs_I y 12 j = xs_i x (9 + j) ∧ p ≤ 40 ∧ xs_i x (3 + j) = zi p ∧ xs_I y 13 j = zi p ∧ (∀ k, k < p → xs_I y 14 (40 * j + k) = xs_I x (11 + j) k) ∧
      (∀ r, r ≠ j → xs_I y 11 r = xs_I v 11 r ∧ xs_I y 12 r = xs_I v 12 r ∧ xs_I y 13 r = xs_I v 13 r ∧ xs_L y 2 r = xs_L v 2 r) ∧ (∀ q, (∀ k, k < 40 → q ≠ 40 * j + k) → xs_I y 14 q = xs_I v 14 q) ∧ xs_L y 2 j = s ||| f := by
  have hn := hO.n
  have hsf : zbel (en D) (s ||| f) := fun x hx => (zm_or.mp hx).elim (hs x) (hf x)
  unfold m_Merge_perform m_Model_merge
  rw [zb1 (z_lastCritical hO hu hsf), zg (zin hj (by omega)), zi_nat (by omega), hg, zb1 (z_top hO hv hsf (fun x hx => zm_or.mpr (Or.inl hx)))]
  have hbase : ∃ B : Int64, m_History_upTo (zo (elast D (s ||| f) s (en D))) u = some B ∧ zbel (en D) B ∧ (if 0 ≤ zo (elast D (s ||| f) s (en D)) then xg (xin (zo (elast D (s ||| f) s (en D))) 40) (xb1 (m_Model_one (zo (elast D (s ||| f) s (en D)))) fun r38 => m_Model_merge_b42 (zi j) f s ((xs_L v 0 (zo (elast D (s ||| f) s (en D))).toNatClampNeg) ||| r38) v) else m_Model_merge_b42 (zi j) f s (0 : Int64) v) = m_Model_merge_b42 (zi j) f s B v := by
    cases h : elast D (s ||| f) s (en D) with
    | none => exact ⟨0, z_upTo_none, fun x hx => absurd hx zm_zero, if_neg (by decide)⟩
    | some e =>
      have he := elast_lt h
      refine ⟨_, z_upTo hO hu he.1, zbel_up hO he.1, ?_⟩
      rw [zo_some, if_pos (zge0 (by omega)), zg (zin (by omega) (by omega)), zb1 (z_one e), zi_nat (by omega), hv.an he.1]
  obtain ⟨B, b1, b2, b3⟩ := hbase
  rw [b3, zb1 b1]
  unfold m_Model_merge_b42
  rw [zlet]
  have hag : zbel (en D) (s &&& (B ^^^ (-1 : Int64))) := fun x hx => hs x (zm_diff.mp hx).1
  generalize hA : s &&& (B ^^^ (-1 : Int64)) = A at *
  rw [zb1 (z_count hn hag), zlet]
  let u1 := xs_si u (9 + j) (0 : Int32)
  let u2 := xs_si u1 (6 + j) (zi (zc 40 A))
  have g2 : zfr [10, 11 + j] [] [2, 3 + j, 6 + j, 9 + j] [] u u2 := (zfr_si (by simp <;> omega)).tr (zfr_si (by simp <;> omega))
  have hu2 : cE D u2 := hu.fr g2 (fun k hk => by simp <;> omega) (by decide) (by simp <;> omega)
  have huc2 : cC D C u2 := huc.fr g2 (fun k h1 h2 => by simp <;> omega) (by decide) (by simp <;> omega) (by decide) (by decide)
  obtain ⟨u3, e1, e2, e3, e4⟩ := z_arrange hO hu2 A
  have hA40 : zc 40 A ≤ 40 := zc_le 40 A
  have lenA := eord_len hO 40 A none hag hA40
  have memA : ∀ e, e ∈ eord D 40 A none → e < en D := fun e he => (eord_mem hO _ _ _ _ he).1
  have g3 : zfr [10, 11 + j] [] [2, 3 + j, 6 + j, 9 + j] [] u2 u3 := e2.mo (by simp <;> omega) (by simp <;> omega) (by simp <;> omega) (by simp <;> omega)
  have hu3 : cE D u3 := hu2.fr e2 (by decide) (by decide) (by decide)
  have h9 : xs_i u3 (9 + j) = zi 0 := by
    rw [e2.i (by simp <;> omega)]
    show xs_i (xs_si u1 (6 + j) _) (9 + j) = _
    rw [ziin (by omega)]
    exact zii
  obtain ⟨u4, p1, p2, p3⟩ := z_passThrough hO (by omega) memA hj b2 hu3 ⟨e3, e4⟩ h9
  have g4 : zfr [10, 11 + j] [] [2, 3 + j, 6 + j, 9 + j] [] u3 u4 := p2.mo (by simp <;> omega) (by simp <;> omega) (by simp <;> omega) (by simp <;> omega)
  have hu4 : cE D u4 := hu3.fr p2 (by decide) (by decide) (by simp <;> omega)
  obtain ⟨u5, a1, a2, a3, a4⟩ := z_arrange hO hu4 f
  have g5 : zfr [10, 11 + j] [] [2, 3 + j, 6 + j, 9 + j] [] u4 u5 := a2.mo (by simp <;> omega) (by simp <;> omega) (by simp <;> omega) (by simp <;> omega)
  have hu5 : cE D u5 := hu4.fr a2 (by decide) (by decide) (by decide)
  have hF40 : zc 40 f ≤ 40 := zc_le 40 f
  have lenF := eord_len hO 40 f none hf hF40
  have memF : ∀ e, e ∈ eord D 40 f none → e < en D := fun e he => (eord_mem hO _ _ _ _ he).1
  have h95 : xs_i u5 (9 + j) = zi (0 + emv D (eord D 40 A none) B) := by rw [a2.i (by simp <;> omega), p3]
  obtain ⟨u6, c1, c2, c3⟩ := z_passThrough hO (by omega) memF hj (ever_bel hO memA b2) hu5 ⟨a3, a4⟩ h95
  have g6 : zfr [10, 11 + j] [] [2, 3 + j, 6 + j, 9 + j] [] u5 u6 := c2.mo (by simp <;> omega) (by simp <;> omega) (by simp <;> omega) (by simp <;> omega)
  have hu6 : cE D u6 := hu5.fr c2 (by decide) (by decide) (by simp <;> omega)
  have g26 := ((g3.tr g4).tr g5).tr g6
  have huc6 : cC D C u6 := huc2.fr g26 (fun k h1 h2 => by simp <;> omega) (by decide) (by simp <;> omega) (by decide) (by decide)
  have hN6 : cN (eord D 40 f none) u6 := (show cN (eord D 40 f none) u5 from ⟨a3, a4⟩).fr c2 (by decide) (by simp <;> omega)
  obtain ⟨u7, d1, d2, d3, d4⟩ := z_applyAll hO hK (by omega) memF hj s hu6 huc6 hN6
  have g7 : zfr [10, 11 + j] [] [2, 3 + j, 6 + j, 9 + j] [] u6 u7 := d2.mo (by simp <;> omega) (by simp <;> omega) (by simp <;> omega) (by simp <;> omega)
  obtain ⟨v1, m1, m2, m3, m4⟩ := z_order hO hv hag
  have hv1 : mE D v1 := hv.fr m2 (by decide) (by decide) (by decide)
  let v2 := xs_sI v1 11 j (xs_i v1 2)
  have k2 : zfr [11, 12, 13, 14, 15] [2] [2] [] v1 v2 := zfr_sI (by decide)
  have hv2 : mE D v2 := hv1.fr k2 (by decide) (by decide) (by decide)
  have hN2 : mN (eord D 40 A none) v2 := ⟨m3, m4⟩
  obtain ⟨v3, n1, n2, n3, n4⟩ := z_order hO hv2 hf
  have hv3 : mE D v3 := hv2.fr n2 (by decide) (by decide) (by decide)
  have k1 : zfr [11, 12, 13, 14, 15] [2] [2] [] v v1 := m2.mo (by simp <;> omega) (by simp <;> omega) (by simp <;> omega) (by simp <;> omega)
  have k3 : zfr [11, 12, 13, 14, 15] [2] [2] [] v2 v3 := n2.mo (by simp <;> omega) (by simp <;> omega) (by simp <;> omega) (by simp <;> omega)
  have hvc3 : mC D C v3 := hvc.fr ((k1.tr k2).tr k3) (fun k h1 h2 => by simp <;> omega) (by decide)
  have hfit : kfit D C (eord D 40 f none) s := kfit_ord hO hK hT 40 f s none hsc (fun x => zm_or) hf
  obtain ⟨v4, o1, o2, o3, o4, o5, o6, o7, o8⟩ := z_merge2 hO hK (by omega) memF hj hv3 hvc3 ⟨n3, n4⟩ (w := ever D (eord D 40 A none) B) hfit (emv D (eord D 40 A none) B)
  have k4 : zfr [11, 12, 13, 14, 15] [2] [2] [] v3 v4 := o2.mo (by simp <;> omega) (by simp <;> omega) (by simp <;> omega) (by simp <;> omega)
  refine ⟨u7, v4, zc 40 f, ?_, ?_, g2.tr (g26.tr g7), ((k1.tr k2).tr k3).tr k4, ?_, ?_, hF40, ?_, ?_, ?_, ?_, ?_, ?_⟩
  · rw [zb1 e1, zb2 p1, zb1 a1, zb2 c1, zb1 d1]
  · rw [zb1 m1, zg (zin hj (by omega)), zlet, zi_nat (by omega), z_merge1 hO (by omega) memA hj hv2 hN2, zb1 n1]
    exact o1
  · rw [o2.I (by simp <;> omega), n2.I (by simp <;> omega)]
    show upd (xs_I v1 11) j _ j = _
    rw [zup, m3, lenA, d2.i (k := 6 + j) (by simp <;> omega), c2.i (by simp <;> omega), a2.i (by simp <;> omega), p2.i (by simp <;> omega), e2.i (by simp <;> omega)]
    exact zii.symm
  · rw [o3, d2.i (by simp <;> omega), c3]; congr 1; omega
  · rw [d3, lenF]
  · rw [o4, lenF]
  · intro k hk
    have hk2 : k < (kops D C (eord D 40 f none) s).length := by rw [kops_len, lenF]; exact hk
    have hy := List.getElem?_eq_getElem hk2
    rw [o8 k _ hy, d4 k _ hy]
  · intro r hr
    have q := o6 r hr
    refine ⟨?_, ?_, ?_, ?_⟩
    · rw [o2.I (by simp <;> omega), n2.I (by simp <;> omega)]
      show upd (xs_I v1 11) j _ r = _
      rw [zupn hr, m2.I (by simp <;> omega)]
    · rw [q.1, n2.I (by simp <;> omega)]
      show xs_I (xs_sI v1 11 j _) 12 r = _
      rw [zIIn (by decide), m2.I (by simp <;> omega)]
    · rw [q.2.1, n2.I (by simp <;> omega)]
      show xs_I (xs_sI v1 11 j _) 13 r = _
      rw [zIIn (by decide), m2.I (by simp <;> omega)]
    · rw [q.2.2, n2.L (by simp <;> omega)]
      show xs_L v1 2 r = _
      rw [m2.L (by simp <;> omega)]
  · intro q hq
    rw [o7 q hq, n2.I (by simp <;> omega)]
    show xs_I (xs_sI v1 11 j _) 14 q = _
    rw [zIIn (by decide), m2.I (by simp <;> omega)]
  · rw [o5, know_ord hO 40 f s none hf hF40]
