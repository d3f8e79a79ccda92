theorem z_mcodes_in {D : zE} (hO : eOK D) {e : Nat} (he : e < en D) {c : Nat} (hc : c < 3) (K : Int32 → Int32 → xS → Option xS) :
    ∀ d q fu (R : List Int32) (v : xS), q + d = en D → d < fu → mE D v → mR R v → R.length + (ecodes D ((eis D c q).filter (zm (epa D e) ·))).length ≤ 460 →
    ∃ x, m_Model_putParents_l63 K fu (zi e) (zi c) (zi q) v = K (zi e) (zi (c + 1)) x ∧ zfr [16] [] [3] [] v x ∧ mR (R ++ ecodes D ((eis D c q).filter (zm (epa D e) ·))) x := by
  have hn := hO.n
  intro d
  induction d with
  | zero =>
    intro q fu R v hq hf hv hR hl
    obtain ⟨g, rfl⟩ : ∃ g, fu = g + 1 := ⟨fu - 1, by omega⟩
    refine ⟨v, ?_, zfr.rf, ?_⟩
    · show m_Model_putParents_s63 _ _ _ _ _ _ = _
      unfold m_Model_putParents_s63
      rw [hv.n, if_pos (zle_n (by omega) (by omega) (by omega)), zsucc]
    · rw [eis_end (by omega)]
      show mR (R ++ []) v
      rw [List.append_nil]; exact hR
  | succ d ih =>
    intro q fu R v hq hf hv hR hl
    obtain ⟨g, rfl⟩ : ∃ g, fu = g + 1 := ⟨fu - 1, by omega⟩
    have hqn : q < en D := by omega
    have s1 := hO.si hqn
    have s2 := hO.nu40 hqn
    rw [eis_step hqn] at hl ⊢
    show ∃ x, m_Model_putParents_s63 _ _ _ _ _ _ = _ ∧ _
    unfold m_Model_putParents_s63
    rw [hv.n, if_neg (zle_nn (by omega) (by omega) hqn), zg (zin (by omega) (by omega)), zg (zin (by omega) (by omega)), zi_nat (a := q) (by omega), zi_nat (a := e) (by omega), hv.si hqn, hv.pa he, zb1 (z_in (by omega)), hv.nu hqn, zsucc]
    by_cases z : esi D q = c
    · rw [if_pos z, List.filter_cons] at hl ⊢
      rw [if_pos (by rw [z])]
      cases h : zm (epa D e) q with
      | false =>
        rw [h] at hl
        rw [if_pos (zb_eq0.mpr (by simp))]
        exact ih (q + 1) g R v (by omega) (by omega) hv hR hl
      | true =>
        rw [h] at hl
        rw [if_neg (fun y => (zb_eq0.mp y) rfl), if_pos rfl]
        rw [if_pos rfl] at hl
        unfold ecodes at hl ⊢
        rw [List.length_append] at hl
        obtain ⟨x, x1, x2, x3⟩ := z_mput hR (n := esi D q + 3 * enu D q) (by omega) (by omega)
        obtain ⟨y, y1, y2, y3⟩ := ih (q + 1) g _ x (by omega) (by omega) (hv.fr x2 (by decide) (by decide) (by decide)) x3 (by rw [List.length_append]; omega)
        rw [List.append_assoc] at y3
        refine ⟨y, ?_, x2.tr y2, y3⟩
        rw [show (3 : Int32) = zi 3 from rfl, zmul, zadd, ← z, zb1 x1, z]
        exact y1
    · rw [if_neg z] at hl ⊢
      rw [if_neg (fun y => z ((zeq (by omega) (by omega)).mp y))]
      exact ih (q + 1) g R v (by omega) (by omega) hv hR hl
theorem ecodes_app {D : zE} : ∀ (A B : List Nat), ecodes D (A ++ B) = ecodes D A ++ ecodes D B := by
  intro A
  induction A with
  | nil => intro B; rfl
  | cons a t ih => intro B; show zput _ ++ ecodes D (t ++ B) = zput _ ++ ecodes D t ++ ecodes D B; rw [ih, List.append_assoc]
theorem z_mcodes_out {D : zE} (hO : eOK D) {e : Nat} (he : e < en D) :
    ∀ d fu (R : List Int32) (v : xS), d ≤ 3 → d < fu → mE D v → mR R v → R.length + (ecodes D ((efr D d).filter (zm (epa D e) ·))).length ≤ 460 →
    ∃ x, m_Model_putParents_l55 fu (zi e) (zi (3 - d)) v = some x ∧ zfr [16] [] [3] [] v x ∧ mR (R ++ ecodes D ((efr D d).filter (zm (epa D e) ·))) x := by
  have hn := hO.n
  intro d
  induction d with
  | zero =>
    intro fu R v hd hf hv hR hl
    obtain ⟨g, rfl⟩ : ∃ g, fu = g + 1 := ⟨fu - 1, by omega⟩
    refine ⟨v, ?_, zfr.rf, by show mR (R ++ []) v; rw [List.append_nil]; exact hR⟩
    show m_Model_putParents_s55 _ _ _ _ = _
    unfold m_Model_putParents_s55
    rw [if_pos (show (3 : Int32) ≤ zi (3 - 0) from by decide)]
  | succ d ih =>
    intro fu R v hd hf hv hR hl
    obtain ⟨g, rfl⟩ : ∃ g, fu = g + 1 := ⟨fu - 1, by omega⟩
    have e1 : efr D (d + 1) = eis D (2 - d) 0 ++ efr D d := rfl
    rw [e1, List.filter_append, ecodes_app] at hl ⊢
    rw [List.length_append] at hl
    show ∃ x, m_Model_putParents_s55 _ _ _ _ = _ ∧ _
    unfold m_Model_putParents_s55
    rw [if_neg (show ¬ (3 : Int32) ≤ zi (3 - (d + 1)) from zle_nn (b := 3) (by omega) (by omega) (by omega)), show 3 - (d + 1) = 2 - d from by omega]
    obtain ⟨x, x1, x2, x3⟩ := z_mcodes_in hO he (c := 2 - d) (by omega) (m_Model_putParents_l55 g) (en D) 0 xFU R v (by omega) (by unfold xFU; omega) hv hR (by omega)
    obtain ⟨y, y1, y2, y3⟩ := ih g _ x (by omega) (by omega) (hv.fr x2 (by decide) (by decide) (by decide)) x3 (by rw [List.length_append]; omega)
    rw [List.append_assoc] at y3
    refine ⟨y, ?_, x2.tr y2, y3⟩
    rw [show 2 - d + 1 = 3 - d from by omega] at x1
    exact x1.trans y1
theorem z_mplist {D : zE} (hO : eOK D) {e : Nat} (he : e < en D) {R : List Int32} {v : xS} (hv : mE D v) (hR : mR R v) (hl : R.length + (zput (1 + zc 40 (epa D e)) ++ ecodes D (eL D (epa D e))).length ≤ 460) :
    ∃ x, m_Model_putParents_b38 (zi e) v = some x ∧ zfr [16] [] [3] [] v x ∧ mR (R ++ (zput (1 + zc 40 (epa D e)) ++ ecodes D (eL D (epa D e)))) x := by
  have hn := hO.n
  have h40 := zc_le 40 (epa D e)
  rw [List.length_append] at hl
  unfold m_Model_putParents_b38
  obtain ⟨x, x1, x2, x3⟩ := z_mput hR (n := 1 + zc 40 (epa D e)) (by omega) (by omega)
  obtain ⟨y, y1, y2, y3⟩ := z_mcodes_out hO he 3 xFU _ x (by omega) (by decide) (hv.fr x2 (by decide) (by decide) (by decide)) x3 (by rw [List.length_append]; show _ + (ecodes D (eL D (epa D e))).length ≤ 460; omega)
  rw [zg (zin (by omega) (by omega)), zi_nat (by omega), hv.pa he, zb1 (z_many _), show (1 : Int32) = zi 1 from rfl, zadd, zb1 x1]
  refine ⟨y, y1, x2.tr y2, ?_⟩
  rw [List.append_assoc] at y3; exact y3
theorem z_mparents {D : zE} (hO : eOK D) {L : List Nat} (hL : L.length ≤ 40) (hM : ∀ e, e ∈ L → e < en D) : ∀ d k fu (R : List Int32) (v : xS), k + d = L.length → d < fu → mw D L v → mR R v → R.length + (epars D (eprev L k) (L.drop k)).length ≤ 460 →
    ∃ x, m_Model_write_l137 fu (zi k) v = some x ∧ zfr [16] [] [3] [] v x ∧ mR (R ++ epars D (eprev L k) (L.drop k)) x := by
  have hn := hO.n
  intro d
  induction d with
  | zero =>
    intro k fu R v hk hf hw hR hl
    obtain ⟨g, rfl⟩ : ∃ g, fu = g + 1 := ⟨fu - 1, by omega⟩
    refine ⟨v, ?_, zfr.rf, ?_⟩
    · show m_Model_write_s137 _ _ _ = _
      unfold m_Model_write_s137
      rw [hw.2.1, if_pos (zle_n (by omega) (by omega) (by omega))]
    · rw [List.drop_eq_nil_of_le (by omega)]
      show mR (R ++ []) v
      rw [List.append_nil]; exact hR
  | succ d ih =>
    intro k fu R v hk hf hw hR hl
    obtain ⟨g, rfl⟩ : ∃ g, fu = g + 1 := ⟨fu - 1, by omega⟩
    obtain ⟨e, he⟩ : ∃ x, L[k]? = some x := ⟨_, List.getElem?_eq_getElem (by omega)⟩
    have hen := hM e (List.mem_of_getElem? he)
    rw [zdrop_step he] at hl ⊢
    have hpk : eprev L (k + 1) = some e := by unfold eprev; rw [if_neg (by omega)]; exact he
    have go : ∀ {A : List Int32}, (∃ x, m_Model_putParents (zi k) v = some x ∧ zfr [16] [] [3] [] v x ∧ mR (R ++ A) x) → R.length + (A ++ epars D (some e) (L.drop (k + 1))).length ≤ 460 → ∃ x, m_Model_write_l137 (g + 1) (zi k) v = some x ∧ zfr [16] [] [3] [] v x ∧ mR (R ++ (A ++ epars D (some e) (L.drop (k + 1)))) x := by
      intro A ⟨x, x1, x2, x3⟩ hl
      rw [List.length_append] at hl
      obtain ⟨y, y1, y2, y3⟩ := ih (k + 1) g _ x (by omega) (by omega) (hw.fr x2) x3 (by rw [hpk, List.length_append]; omega)
      rw [hpk, List.append_assoc] at y3
      refine ⟨y, ?_, x2.tr y2, y3⟩
      show m_Model_write_s137 _ _ _ = _
      unfold m_Model_write_s137
      rw [hw.2.1, if_neg (zle_nn (by omega) (by omega) (by omega)), zb1 x1, zsucc]
      exact y1
    unfold epars at hl ⊢
    refine go ?_ hl
    rw [List.length_append] at hl
    unfold m_Model_putParents
    rw [zg (zin (by omega) (by omega)), zi_nat (a := k) (by omega), hw.2.at he]
    cases k with
    | zero =>
      rw [if_pos (show zi 0 ≤ 0 from by decide)]
      exact z_mplist hO hen hw.1 hR (by
        have hl2 : R.length + ((zput (1 + zc 40 (epa D e)) ++ ecodes D (eL D (epa D e))).length + (epars D (some e) (L.drop (0 + 1))).length) ≤ 460 := hl
        omega)
    | succ k =>
      obtain ⟨y, hy⟩ : ∃ x, L[k]? = some x := ⟨_, List.getElem?_eq_getElem (by omega)⟩
      have hyn := hM y (List.mem_of_getElem? hy)
      have hpy : eprev L (k + 1) = some y := by unfold eprev; rw [if_neg (by omega)]; exact hy
      rw [hpy] at hl ⊢
      rw [if_neg (show ¬ zi (k + 1) ≤ 0 from fun q => absurd ((zle (b := 0) (by omega) (by omega)).mp q) (by omega)), zpred, zg (zin (by omega) (by omega)), zg (zin (by omega) (by omega)), zi_nat (a := k) (by omega), hw.2.at hy, zb1 (z_one y), zi_nat (a := e) (by omega), hw.1.pa hen]
      by_cases q : epa D e = zbit y
      · have qb : (epa D e == zbit y) = true := beq_iff_eq.mpr q
        simp only [qb, if_true] at hl ⊢
        obtain ⟨x, x1, x2, x3⟩ := z_mput hR (n := 0) (by omega) (by omega)
        rw [if_pos q, show (0 : Int32) = zi 0 from rfl, zb1 x1]
        exact ⟨x, rfl, x2, x3⟩
      · have qb : (epa D e == zbit y) = false := by
          cases h : (epa D e == zbit y) with
          | false => rfl
          | true => exact absurd (beq_iff_eq.mp h) q
        simp only [qb, Bool.false_eq_true, if_false] at hl ⊢
        rw [if_neg q]
        exact z_mplist hO hen hw.1 hR (by omega)
theorem z_mchars {D : zE} (hO : eOK D) {L : List Nat} (hL : L.length ≤ 40) (hM : ∀ e, e ∈ L → e < en D) : ∀ d k p fu (R : List Int32) (v : xS), k + d = L.length → d < fu → p ≤ 126 → mw D L v → mR R v → R.length + (echs D p (L.drop k)).length ≤ 460 →
    ∃ x, m_Model_write_l78 fu (zi p) (zi k) v = m_Model_write_l137 xFU 0 x ∧ zfr [16] [] [3] [] v x ∧ mR (R ++ echs D p (L.drop k)) x := by
  have hn := hO.n
  intro d
  induction d with
  | zero =>
    intro k p fu R v hk hf hp hw hR hl
    obtain ⟨g, rfl⟩ : ∃ g, fu = g + 1 := ⟨fu - 1, by omega⟩
    refine ⟨v, ?_, zfr.rf, ?_⟩
    · show m_Model_write_s78 _ _ _ _ = _
      unfold m_Model_write_s78
      rw [hw.2.1, if_pos (zle_n (by omega) (by omega) (by omega))]
    · rw [List.drop_eq_nil_of_le (by omega)]
      show mR (R ++ []) v
      rw [List.append_nil]; exact hR
  | succ d ih =>
    intro k p fu R v hk hf hp hw hR hl
    obtain ⟨g, rfl⟩ : ∃ g, fu = g + 1 := ⟨fu - 1, by omega⟩
    obtain ⟨e, he⟩ : ∃ x, L[k]? = some x := ⟨_, List.getElem?_eq_getElem (by omega)⟩
    have hen := hM e (List.mem_of_getElem? he)
    have hch := hO.ch hen
    rw [zdrop_step he] at hl ⊢
    unfold echs at hl ⊢
    show ∃ x, m_Model_write_s78 _ _ _ _ = _ ∧ _
    unfold m_Model_write_s78
    rw [hw.2.1, if_neg (zle_nn (by omega) (by omega) (by omega)), zg (zin (by omega) (by omega)), zi_nat (a := k) (by omega), hw.2.at he, zg (zin (by omega) (by omega)), zi_nat (a := e) (by omega), hw.1.ins hen, zsucc]
    by_cases q : ein D e
    · rw [if_pos q] at hl ⊢
      rw [List.length_append] at hl
      obtain ⟨x, x1, x2, x3⟩ := z_mputSigned hR (a := ech D e) (b := p) (by omega) (by omega) (by omega)
      have hwx := hw.fr x2
      obtain ⟨y, y1, y2, y3⟩ := ih (k + 1) (ech D e) g _ x (by omega) (by omega) hch hwx x3 (by rw [List.length_append]; omega)
      rw [if_neg (fun z => (zb_eq0.mp z) q), hw.1.ch hen q, zb1 x1, hwx.2.at he, zg (zin (by omega) (by omega)), zi_nat (a := e) (by omega), hwx.1.ch hen q]
      refine ⟨y, y1, x2.tr y2, ?_⟩
      rw [List.append_assoc] at y3; exact y3
    · rw [if_neg q] at hl ⊢
      rw [if_pos (zb_eq0.mpr q)]
      exact ih (k + 1) p g R v (by omega) (by omega) hp hw hR hl
theorem z_mindices {D : zE} (hO : eOK D) {L : List Nat} (hL : L.length ≤ 40) (hM : ∀ e, e ∈ L → e < en D) : ∀ d k p fu (R : List Int32) (v : xS), k + d = L.length → d < fu → p ≤ 40 → mw D L v → mR R v → R.length + (eidx D p (L.drop k)).length ≤ 460 →
    ∃ x, m_Model_write_l31 fu (zi p) (zi k) v = m_Model_write_l78 xFU 0 0 x ∧ zfr [16] [] [3] [] v x ∧ mR (R ++ eidx D p (L.drop k)) x := by
  have hn := hO.n
  intro d
  induction d with
  | zero =>
    intro k p fu R v hk hf hp hw hR hl
    obtain ⟨g, rfl⟩ : ∃ g, fu = g + 1 := ⟨fu - 1, by omega⟩
    refine ⟨v, ?_, zfr.rf, ?_⟩
    · show m_Model_write_s31 _ _ _ _ = _
      unfold m_Model_write_s31
      rw [hw.2.1, if_pos (zle_n (by omega) (by omega) (by omega))]
    · rw [List.drop_eq_nil_of_le (by omega)]
      show mR (R ++ []) v
      rw [List.append_nil]; exact hR
  | succ d ih =>
    intro k p fu R v hk hf hp hw hR hl
    obtain ⟨g, rfl⟩ : ∃ g, fu = g + 1 := ⟨fu - 1, by omega⟩
    obtain ⟨e, he⟩ : ∃ x, L[k]? = some x := ⟨_, List.getElem?_eq_getElem (by omega)⟩
    have hen := hM e (List.mem_of_getElem? he)
    have hix := hO.ix hen
    rw [zdrop_step he] at hl ⊢
    unfold eidx at hl ⊢
    rw [List.length_append] at hl
    show ∃ x, m_Model_write_s31 _ _ _ _ = _ ∧ _
    unfold m_Model_write_s31
    obtain ⟨x, x1, x2, x3⟩ := z_mputSigned hR (a := eix D e) (b := p) (by omega) (by omega) (by omega)
    have hwx := hw.fr x2
    obtain ⟨y, y1, y2, y3⟩ := ih (k + 1) (eix D e) g _ x (by omega) (by omega) hix hwx x3 (by rw [List.length_append]; omega)
    rw [hw.2.1, if_neg (zle_nn (by omega) (by omega) (by omega)), zg (zin (by omega) (by omega)), zi_nat (a := k) (by omega), hw.2.at he, zg (zin (by omega) (by omega)), zi_nat (a := e) (by omega), hw.1.ix hen, zsucc, zb1 x1, hwx.2.at he, zg (zin (by omega) (by omega)), zi_nat (a := e) (by omega), hwx.1.ix hen]
    refine ⟨y, y1, x2.tr y2, ?_⟩
    rw [List.append_assoc] at y3; exact y3
theorem eord_ne {D : zE} (hO : eOK D) {s : Int64} (hs : zbel (en D) s) (h0 : s ≠ 0) : eord D 40 s none ≠ [] := by
  obtain ⟨e, he⟩ := enext_some hO (l := none) hs h0
  rw [eord_some he]
  exact List.cons_ne_nil _ _
theorem z_mwrite {D : zE} (hO : eOK D) {m : Nat} (hm : m < 6) {v : xS} (hv : mE D v) {s : Int64} (hs : xs_L v 4 m = s) (hb : zbel (en D) s) (h0 : s ≠ 0) : ∃ x, m_Model_write (zi m) v = some x ∧ zfr [15, 16] [] [2, 3] [] v x ∧ mR (enc D s) x := by
  have hn := hO.n
  unfold m_Model_write
  obtain ⟨v1, m1, m2, m3, m4⟩ := z_order hO hv hb
  rw [zg (zin hm (by omega)), zi_nat (by omega), hs, zb1 m1, zlet]
  have hv1 : mE D v1 := hv.fr m2 (by decide) (by decide) (by decide)
  generalize hLe : eord D 40 s none = L at *
  have hL : L.length ≤ 40 := by
    have := eord_len hO 40 s none hb (zc_le 40 s)
    have := zc_le 40 s
    rw [← hLe]; omega
  have hM : ∀ e, e ∈ L → e < en D := fun e he => (eord_mem hO 40 s none e (by rw [hLe]; exact he)).1
  have hne : L ≠ [] := by rw [← hLe]; exact eord_ne hO hb h0
  have hen : enc D s = encL D L := by unfold enc; rw [hLe]
  rw [hen]
  have hl := encL_len hO hL hM
  unfold encL at hl ⊢
  rw [List.length_append, List.length_append, List.length_append, List.length_append, List.length_append] at hl
  have f1 : zfr [16] [] [3] [] v1 (xs_si v1 3 (0 : Int32)) := zfr_si List.mem_cons_self
  have hw1 : mw D L (xs_si v1 3 (0 : Int32)) := (show mw D L v1 from ⟨hv1, m3, m4⟩).fr f1
  have hR1 : mR [] (xs_si v1 3 (0 : Int32)) := ⟨zii, fun k y h => by cases h⟩
  obtain ⟨u1, a1, a2, a3⟩ := z_mput hR1 (n := L.length) (by omega) (by rw [List.length_nil]; omega)
  rw [List.nil_append] at a3
  have hw2 := hw1.fr a2
  obtain ⟨u2, b1, b2, b3⟩ := z_mruns hO hL hne hM hw2 a3 (by omega)
  have hw3 := hw2.fr b2
  obtain ⟨u3, c1, c2, c3⟩ := z_mindices hO hL hM L.length 0 0 xFU _ u2 (by omega) (by unfold xFU; omega) (by omega) hw3 b3 (by rw [List.drop_zero, List.length_append, List.length_append]; omega)
  rw [List.drop_zero] at c3
  have hw4 := hw3.fr c2
  obtain ⟨u4, d1, d2, d3⟩ := z_mchars hO hL hM L.length 0 0 xFU _ u3 (by omega) (by unfold xFU; omega) (by omega) hw4 c3 (by rw [List.drop_zero, List.length_append, List.length_append, List.length_append]; omega)
  rw [List.drop_zero] at d3
  have hw5 := hw4.fr d2
  obtain ⟨u5, e1, e2, e3⟩ := z_mparents hO hL hM L.length 0 xFU _ u4 (by omega) (by unfold xFU; omega) hw5 d3 (by rw [List.drop_zero, List.length_append, List.length_append, List.length_append, List.length_append]; show _ + (epars D none L).length ≤ 460; omega)
  rw [List.drop_zero] at e3
  have g1 : zfr [15, 16] [] [2, 3] [] v v1 := m2.mo (by simp) (by simp) (by simp) (by simp)
  have g2 : zfr [15, 16] [] [2, 3] [] v1 u5 := (((((f1.tr a2).tr b2).tr c2).tr d2).tr e2).mo (by simp) (by simp) (by simp) (by simp)
  refine ⟨u5, ?_, g1.tr g2, ?_⟩
  · rw [hw1.2.1, zb1 a1, zb1 b1]
    exact (c1.trans d1).trans e1
  · rw [List.append_assoc, List.append_assoc, List.append_assoc, List.append_assoc] at e3
    exact e3
theorem zRel.wr {D : zE} {C : zK} {u v y : xS} (h : zRel D C u v) (f : zfr [15, 16] [] [2, 3] [] v y) : zRel D C u y := by
  obtain ⟨hO, hK, hu, hv, huc, hvc, hS, hM, hG⟩ := h
  refine ⟨hO, hK, hu, hv.fr f (by decide) (by decide) (by decide), huc, hvc.fr f (fun k _ _ => by simp <;> omega) (by decide), ?_, hM.fr (fun m hm => ⟨rfl, rfl, rfl, rfl, rfl, rfl⟩) ⟨f.L (by decide), f.I (by decide), f.I (by decide)⟩, hG.fr (fun r hr => ⟨rfl, rfl, rfl, rfl⟩) (fun k _ _ => f.I (by simp <;> omega))⟩
  unfold zS
  rw [f.L (k := 2) (by decide), f.L (k := 3) (by decide)]
  exact hS
theorem enc_len {D : zE} (hO : eOK D) {s : Int64} (hb : zbel (en D) s) : (enc D s).length ≤ 442 := by
  unfold enc
  apply encL_len hO
  · rw [eord_len hO 40 s none hb (zc_le 40 s)]; exact zc_le 40 s
  · exact fun e he => (eord_mem hO 40 s none e he).1
theorem q_octets {D : zE} {C : zK} {u v : xS} (h : zRel D C u v) (a : Int32) : ∃ r y, m_Text_octets a u = some r ∧ m_Model_octets a v = some (r, y) ∧ zRel D C u y := by
  have hh := h
  obtain ⟨hO, hK, hu, hv, huc, hvc, hS, hM, hG⟩ := h
  unfold m_Text_octets m_Model_octets m_OctetRow_size
  rcases z_none hM a with ⟨m, hm, rfl, hmu, h1, h2⟩ | ⟨h1, h2⟩
  · obtain ⟨m1, m2, m3, m4, _, m6⟩ := hmu
    obtain ⟨y, y1, y2, y3⟩ := z_mwrite hO hm hv m2 m4 m3
    rw [zb1 h1, zb1 h2, if_neg (by decide), if_pos rfl, zg (zin hm (by omega)), zb1 rfl, zb1 y1, zi_nat (by omega), m6.1, y3.1]
    exact ⟨_, _, rfl, rfl, hh.wr y2⟩
  · rw [zb1 h1, zb1 h2, if_pos rfl, if_neg (by decide)]
    exact ⟨_, v, rfl, rfl, hh⟩
theorem q_octet {D : zE} {C : zK} {u v : xS} (h : zRel D C u v) (a b : Int32) : ∃ r y, m_Text_octet a b u = some r ∧ m_Model_octet a b v = some (r, y) ∧ zRel D C u y := by
  have hh := h
  obtain ⟨hO, hK, hu, hv, huc, hvc, hS, hM, hG⟩ := h
  unfold m_Text_octet m_Model_octet m_OctetRow_get
  rcases z_none hM a with ⟨m, hm, rfl, hmu, h1, h2⟩ | ⟨h1, h2⟩
  · obtain ⟨m1, m2, m3, m4, _, m6⟩ := hmu
    obtain ⟨y, y1, y2, y3⟩ := z_mwrite hO hm hv m2 m4 m3
    have hlen := enc_len hO m4
    rw [zb1 h1, zb1 h2, if_neg (by decide), if_pos rfl, zg (zin hm (by omega)), zb1 y1, zi_nat (a := m) (by omega), m6.1, y3.1]
    by_cases q : b < 0
    · rw [if_pos q, if_pos q, zb1 rfl]
      exact ⟨_, y, rfl, rfl, hh.wr y2⟩
    · obtain ⟨k, hk, rfl⟩ := z_of_nn q
      rw [if_neg q, if_neg q]
      by_cases z : k < (enc D (xs_l u (5 + m))).length
      · have hx := List.getElem?_eq_getElem z
        rw [if_neg (fun w => absurd ((zle (by omega) hk).mp w) (by omega)), if_pos ((zlt hk (by omega)).mpr z), zg (zin (by omega) (by omega)), zg (zin (by omega) (by omega)), zb1 rfl, zi_nat hk, m6.2 k _ hx, y3.2 k _ hx]
        exact ⟨_, y, rfl, rfl, hh.wr y2⟩
      · rw [if_pos ((zle (by omega) hk).mpr (by omega)), if_neg (fun w => z ((zlt hk (by omega)).mp w)), zb1 rfl]
        exact ⟨_, y, rfl, rfl, hh.wr y2⟩
  · rw [zb1 h1, zb1 h2, if_pos rfl, if_neg (by decide)]
    exact ⟨_, v, rfl, rfl, hh⟩
