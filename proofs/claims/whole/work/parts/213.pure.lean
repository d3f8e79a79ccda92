def zput (v : Nat) : List Int32 := if 127 < v then [zi (128 + v % 128), zi (v / 128)] else [zi v]
def zsg (a b : Nat) : Nat := if a < b then 2 * (b - a) - 1 else 2 * (a - b)
def eruns (D : zE) : Nat → Nat → List Nat → List Int32
  | f, c, [] => zput (esi D f) ++ zput (enu D f) ++ zput c
  | f, c, x :: t => if esi D x = esi D f then eruns D f (c + 1) t else zput (esi D f) ++ zput (enu D f) ++ zput c ++ eruns D x 1 t
def esites (D : zE) : List Nat → List Int32
  | [] => []
  | e :: t => eruns D e 1 t
def ekin (D : zE) : Bool → Nat → List Nat → List Int32
  | _, c, [] => zput c
  | b, c, x :: t => if ein D x = b then ekin D b (c + 1) t else zput c ++ ekin D (!b) 1 t
def eidx (D : zE) : Nat → List Nat → List Int32
  | _, [] => []
  | p, x :: t => zput (zsg (eix D x) p) ++ eidx D (eix D x) t
def echs (D : zE) : Nat → List Nat → List Int32
  | _, [] => []
  | p, x :: t => if ein D x then zput (zsg (ech D x) p) ++ echs D (ech D x) t else echs D p t
def ecodes (D : zE) : List Nat → List Int32
  | [] => []
  | f :: t => zput (esi D f + 3 * enu D f) ++ ecodes D t
def epars (D : zE) : Option Nat → List Nat → List Int32
  | _, [] => []
  | p, x :: t => (if (match p with | none => false | some y => epa D x == zbit y) then zput 0 else zput (1 + zc 40 (epa D x)) ++ ecodes D (eL D (epa D x))) ++ epars D (some x) t
def encL (D : zE) (L : List Nat) : List Int32 := zput L.length ++ (esites D L ++ (ekin D true 0 L ++ (eidx D 0 L ++ (echs D 0 L ++ epars D none L))))
def enc (D : zE) (s : Int64) : List Int32 := encL D (eord D 40 s none)
def cR (R : List Int32) (j : Nat) (u : xS) : Prop := xs_i u (30 + j) = zi R.length ∧ ∀ k y, R[k]? = some y → xs_I u (14 + j) k = y
def zMu (D : zE) (u v : xS) (m : Nat) : Prop := xs_i u (12 + m) = 1 ∧ xs_L v 4 m = xs_l u (5 + m) ∧ xs_l u (5 + m) ≠ 0 ∧ zbel (en D) (xs_l u (5 + m)) ∧ (∃ f t, f < 3 ∧ t < 3 ∧ f ≠ t ∧ xs_i u (18 + m) = zi f ∧ xs_i u (24 + m) = zi t ∧ xs_I v 9 m = zi f ∧ xs_I v 10 m = zi t) ∧ cR (enc D (xs_l u (5 + m))) m u
def zM (D : zE) (u v : xS) : Prop := ∀ m, m < 6 → (xs_i u (12 + m) = 0 ∧ xs_L v 4 m = 0) ∨ zMu D u v m
theorem z_none {D : zE} {u v : xS} (h : zM D u v) (a : Int32) : (∃ m, m < 6 ∧ a = zi m ∧ zMu D u v m ∧ m_Text_isUnderWay a u = some 1 ∧ m_Model_none a v = some 0) ∨ (m_Text_isUnderWay a u = some 0 ∧ m_Model_none a v = some 1) := by
  unfold m_Text_isUnderWay m_Model_none
  by_cases h0 : a < 0
  · rw [if_pos h0, if_pos h0]; exact Or.inr ⟨rfl, rfl⟩
  · obtain ⟨k, hk, rfl⟩ := z_of_nn h0
    rw [if_neg h0, if_neg h0]
    by_cases q : k < 6
    · rw [if_neg (show ¬ (6 : Int32) ≤ zi k from zle_nn (b := 6) (by omega) (by omega) q), if_neg (show ¬ (5 : Int32) < zi k from fun z => absurd ((zlt (a := 5) (by omega) hk).mp z) (by omega)), zg (zin q (by omega)), zg (zin q (by omega)), zi_nat hk]
      rcases h k q with ⟨h1, h2⟩ | hm
      · rw [h1, h2, if_pos rfl, if_pos rfl]; exact Or.inr ⟨rfl, rfl⟩
      · refine Or.inl ⟨k, q, rfl, hm, ?_, ?_⟩
        · rw [hm.1, if_neg (by decide)]
        · rw [hm.2.1, if_neg hm.2.2.1]
    · rw [if_pos (show (6 : Int32) ≤ zi k from (zle (a := 6) (by omega) hk).mpr (by omega)), if_pos (show (5 : Int32) < zi k from (zlt (a := 5) (by omega) hk).mpr (by omega))]
      exact Or.inr ⟨rfl, rfl⟩
def zRel (D : zE) (C : zK) (u v : xS) : Prop := eOK D ∧ kOK D C ∧ cE D u ∧ mE D v ∧ cC D C u ∧ mC D C v ∧ zS D u v ∧ zM D u v ∧ zMg u v
theorem zMg.fr {u v x y : xS} (h : zMg u v) (h1 : ∀ r, r < 3 → xs_i x (6 + r) = xs_i u (6 + r) ∧ xs_i x (9 + r) = xs_i u (9 + r) ∧ xs_i x (3 + r) = xs_i u (3 + r) ∧ xs_I x (11 + r) = xs_I u (11 + r)) (h2 : ∀ k, 11 ≤ k → k < 15 → xs_I y k = xs_I v k) : zMg x y := by
  intro r hr
  obtain ⟨a1, a2, a3, a4⟩ := h1 r hr
  rw [a1, a2, a3, a4, h2 11 (by omega) (by omega), h2 12 (by omega) (by omega), h2 13 (by omega) (by omega), h2 14 (by omega) (by omega)]
  exact h r hr
theorem zMu.fr {D : zE} {u v x y : xS} {m : Nat} (h : zMu D u v m) (h1 : xs_i x (12 + m) = xs_i u (12 + m) ∧ xs_i x (18 + m) = xs_i u (18 + m) ∧ xs_i x (24 + m) = xs_i u (24 + m) ∧ xs_i x (30 + m) = xs_i u (30 + m) ∧ xs_l x (5 + m) = xs_l u (5 + m) ∧ xs_I x (14 + m) = xs_I u (14 + m)) (h2 : xs_L y 4 m = xs_L v 4 m ∧ xs_I y 9 m = xs_I v 9 m ∧ xs_I y 10 m = xs_I v 10 m) : zMu D x y m := by
  unfold zMu cR at *
  obtain ⟨a1, a2, a3, a4, a5, a6⟩ := h1
  rw [a1, a2, a3, a4, a5, a6, h2.1, h2.2.1, h2.2.2]
  exact h
theorem zM.fr {D : zE} {u v x y : xS} (h : zM D u v) (h1 : ∀ m, m < 6 → xs_i x (12 + m) = xs_i u (12 + m) ∧ xs_i x (18 + m) = xs_i u (18 + m) ∧ xs_i x (24 + m) = xs_i u (24 + m) ∧ xs_i x (30 + m) = xs_i u (30 + m) ∧ xs_l x (5 + m) = xs_l u (5 + m) ∧ xs_I x (14 + m) = xs_I u (14 + m)) (h2 : xs_L y 4 = xs_L v 4 ∧ xs_I y 9 = xs_I v 9 ∧ xs_I y 10 = xs_I v 10) : zM D x y := by
  intro m hm
  rcases h m hm with ⟨q1, q2⟩ | q
  · refine Or.inl ⟨?_, ?_⟩
    · rw [(h1 m hm).1, q1]
    · rw [h2.1, q2]
  · exact Or.inr (q.fr (h1 m hm) ⟨by rw [h2.1], by rw [h2.2.1], by rw [h2.2.2]⟩)
theorem q_discard {D : zE} {C : zK} {u v : xS} (h : zRel D C u v) (a : Int32) : ∃ r x y, m_Text_discard a u = some (r, x) ∧ m_Model_discard a v = some (r, y) ∧ zRel D C x y ∧ (r = 0 ∨ r = 1) := by
  obtain ⟨hO, hK, hu, hv, huc, hvc, hS, hM, hG⟩ := h
  unfold m_Text_discard m_Model_discard
  rcases z_none hM a with ⟨m, hm, rfl, hmu, h1, h2⟩ | ⟨h1, h2⟩
  · rw [zb1 h1, zb1 h2, if_neg (by decide), if_pos rfl, zg (zin hm (by omega)), zg (zin hm (by omega)), zlet, zlet, zi_nat (by omega)]
    have f1 : zfr [] [] [12 + m] [] u (xs_si u (12 + m) (0 : Int32)) := zfr_si List.mem_cons_self
    have f2 : zfr [] [4] [] [] v (xs_sL v 4 m (0 : Int64)) := zfr_sL (by decide)
    refine ⟨1, _, _, rfl, rfl, ⟨hO, hK, hu.fr f1 (by decide) (by decide) (by simp <;> omega), hv.fr f2 (by decide) (by decide) (by decide), huc.fr f1 (fun k _ _ => by simp) (by decide) (by simp <;> omega) (by decide) (by decide), hvc.fr f2 (fun k _ _ => by simp) (by decide), ?_, ?_, ?_⟩, Or.inr rfl⟩
    · unfold zS
      rw [f2.L (k := 2) (by decide), f2.L (k := 3) (by decide)]
      exact hS
    · intro q hq
      by_cases z : q = m
      · subst z
        exact Or.inl ⟨zii, by rw [zLL, zuL]⟩
      · have b1 : xs_L (xs_sL v 4 m (0 : Int64)) 4 q = xs_L v 4 q := by rw [zLL, zuLn z]
        rcases hM q hq with ⟨q1, q2⟩ | hmq
        · exact Or.inl ⟨by rw [ziin (by omega), q1], by rw [b1, q2]⟩
        · exact Or.inr (hmq.fr ⟨ziin (by omega), ziin (by omega), ziin (by omega), ziin (by omega), rfl, rfl⟩ ⟨b1, rfl, rfl⟩)
    · exact hG.fr (fun r hr => ⟨ziin (by omega), ziin (by omega), ziin (by omega), rfl⟩) (fun k _ _ => rfl)
  · rw [zb1 h1, zb1 h2, if_pos rfl, if_neg (by decide)]
    exact ⟨0, u, v, rfl, rfl, ⟨hO, hK, hu, hv, huc, hvc, hS, hM, hG⟩, Or.inl rfl⟩
theorem q_hear {D : zE} {C : zK} {u v : xS} (h : zRel D C u v) (a b : Int32) : ∃ r x y, m_Text_hear a b u = some (r, x) ∧ m_Model_hear a b v = some (r, y) ∧ zRel D C x y := by
  obtain ⟨hO, hK, hu, hv, huc, hvc, hS, hM, hG⟩ := h
  have hn := hO.n
  unfold m_Text_hear m_Model_hear
  rcases z_pair a b with ⟨i, j, hi, hj, hij, rfl, rfl, h1, h2⟩ | ⟨h1, h2⟩
  · obtain ⟨t, t1, t2, t3⟩ := z_heads hO hu hv (hS.gc hj)
    obtain ⟨k, k1, k2, k3⟩ := z_withAnc hO hu hv (t &&& (xs_l u (2 + i)))
    have hkg : ∀ x, zm k x → zm (xs_l u (2 + i)) x := by
      intro x hx
      rcases (k3 x).mp hx with q | ⟨e, _, q1, q2⟩
      · exact (zm_and.mp q).2
      · exact hS.gc hi e (zm_and.mp q1).2 x q2
    have f1 : zfr [] [3 + i] [] [] u (xs_sL u (3 + i) j k) := zfr_sL List.mem_cons_self
    have f2 : zfr [] [3] [] [] v (xs_sL v 3 (3 * i + j) k) := zfr_sL (by decide)
    have hS2 : zS D (xs_sL u (3 + i) j k) (xs_sL v 3 (3 * i + j) k) := by
      refine ⟨fun r hr => ?_, fun p q hp hq => ?_⟩
      · rw [zlL, f2.L (by decide)]
        exact hS.1 r hr
      · rw [zlL]
        by_cases z : p = i
        · subst z
          rw [zLL, zLL]
          by_cases z2 : q = j
          · subst z2
            rw [zuL, zuL]
            exact ⟨rfl, hkg⟩
          · rw [zuLn z2, zuLn (by omega)]
            exact hS.2 p q hp hq
        · rw [zLLn (show 3 + p ≠ 3 + i by omega), zLL, zuLn (by omega)]
          exact hS.2 p q hp hq
    have hbel : m_Model_believed (zi i) (zi j) (xs_sL v 3 (3 * i + j) k) = some (zi (zc 40 k)) := by
      unfold m_Model_believed
      rw [zb1 h2, if_pos rfl, z3ab hi hj, zg (zin (by omega) (by omega)), zi_nat (by omega), zLL, zuL, zb1 (z_many _)]
    rw [zb1 h1, zb1 h2, if_neg (by decide), if_pos rfl, zg (zin hi (by omega)), zg (zin hj (by omega)), zg (zin hj (by omega)), zi_nat (a := j) (by omega), hS.g hj, zb1 t1, zb1 t2, zg (zin hi (by omega)), zi_nat (a := i) (by omega), hS.g hi, zb1 k1, zb1 k2, z3ab hi hj, zg (zin (by omega) (by omega)), zlet, zlet, zi_nat (by omega), zb1 hbel, zLL, zuL, zb1 (z_count hn (fun x hx => hS.gb hi x (hkg x hx)))]
    refine ⟨_, _, _, rfl, rfl, hO, hK, hu.fr f1 (by decide) (fun k hk => by simp <;> omega) (by decide), hv.fr f2 (by decide) (by decide) (by decide), huc.fr f1 (fun k _ _ => by simp) (by simp <;> omega) (by decide) (by decide) (by decide), hvc.fr f2 (fun k _ _ => by simp) (by decide), hS2, ?_, ?_⟩
    · exact hM.fr (fun m hm => ⟨rfl, rfl, rfl, rfl, rfl, rfl⟩) ⟨f2.L (by decide), rfl, rfl⟩
    · exact hG.fr (fun r hr => ⟨rfl, rfl, rfl, rfl⟩) (fun k _ _ => rfl)
  · rw [zb1 h1, zb1 h2, if_pos rfl, if_neg (by decide)]
    exact ⟨_, u, v, rfl, rfl, hO, hK, hu, hv, huc, hvc, hS, hM, hG⟩
theorem q_deliver {D : zE} {C : zK} {u v : xS} (h : zRel D C u v) (a : Int32) : ∃ r x y, m_Text_deliver a u = some (r, x) ∧ m_Model_deliver a v = some (r, y) ∧ zRel D C x y := by
  obtain ⟨hO, hK, hu, hv, huc, hvc, hS, hM, hG⟩ := h
  have hn := hO.n
  unfold m_Text_deliver m_Model_deliver
  rcases z_none hM a with ⟨m, hm, rfl, hmu, h1, h2⟩ | ⟨h1, h2⟩
  · obtain ⟨m1, m2, m3, m4, ⟨i, j, hi, hj, hij, c1, c2, c3, c4⟩, m6⟩ := hmu
    rw [zb1 h1, zb1 h2, if_neg (by decide), if_pos rfl, zg (zin hm (by omega)), zg (zin hm (by omega)), zi_nat (a := m) (by omega), c2, zg (zin hj (by omega)), zi_nat (a := j) (by omega), c1, c4, m2]
    generalize hs : xs_l u (5 + m) = s at *
    generalize hg : xs_l u (2 + j) = g at *
    have hgb : zbel (en D) g := hg ▸ hS.gb hj
    have hgc : zcl D g := hg ▸ hS.gc hj
    have hvg : xs_L v 2 j = g := hg ▸ hS.g hj
    obtain ⟨p, p1, p2⟩ := z_parentsOfAll hO hu s
    obtain ⟨w, w1, w2, w3⟩ := z_withAnc hO hu hv s
    rw [zb1 p1]
    have look : ∀ d k fu, k + d = en D → d < fu → (∀ e, e < k → zm s e → ∀ x, zm (epa D e) x → zm (s ||| g) x) →
        ((∀ e, zm s e → ∀ x, zm (epa D e) x → zm (s ||| g) x) ∧ m_Model_deliver_l29 fu (zi m) (zi j) s (zi k) v = m_Model_deliver_l29 1 (zi m) (zi j) s (zi (en D)) v) ∨ ((∃ e x, e < en D ∧ zm s e ∧ zm (epa D e) x ∧ ¬ zm (s ||| g) x) ∧ m_Model_deliver_l29 fu (zi m) (zi j) s (zi k) v = some (-1, v)) := by
      intro d
      induction d with
      | zero =>
        intro k fu hk hf hI
        obtain ⟨q, rfl⟩ : ∃ q, fu = q + 1 := ⟨fu - 1, by omega⟩
        have : k = en D := by omega
        subst this
        refine Or.inl ⟨fun e he => hI e (m4 e he) he, ?_⟩
        show m_Model_deliver_s29 _ _ _ _ _ _ = m_Model_deliver_s29 _ _ _ _ _ _
        unfold m_Model_deliver_s29
        rw [hv.n, if_pos (zle_n (by omega) (by omega) (Nat.le_refl _)), if_pos (zle_n (by omega) (by omega) (Nat.le_refl _))]
      | succ d ih =>
        intro k fu hk hf hI
        obtain ⟨q, rfl⟩ : ∃ q, fu = q + 1 := ⟨fu - 1, by omega⟩
        have hkn : k < en D := by omega
        have st : m_Model_deliver_l29 (q + 1) (zi m) (zi j) s (zi k) v = if zm s k then (if (epa D k &&& ((s ||| g) ^^^ (-1 : Int64))) = 0 then m_Model_deliver_l29 q (zi m) (zi j) s (zi (k + 1)) v else some (-1, v)) else m_Model_deliver_l29 q (zi m) (zi j) s (zi (k + 1)) v := by
          show m_Model_deliver_s29 _ _ _ _ _ _ = _
          unfold m_Model_deliver_s29
          rw [hv.n, if_neg (zle_nn (by omega) (by omega) hkn), zb1 (z_in (by omega)), zsucc, zg (zin (by omega) (by omega)), zg (zin hj (by omega)), zi_nat (a := k) (by omega), zi_nat (a := j) (by omega), hv.pa hkn, hvg]
          by_cases z : zm s k
          · rw [if_neg (fun y => (zb_eq0.mp y) z), if_pos z]
          · rw [if_pos (zb_eq0.mpr z), if_neg z]
        rw [st]
        by_cases z : zm s k
        · rw [if_pos z]
          by_cases y : (epa D k &&& ((s ||| g) ^^^ (-1 : Int64))) = 0
          · rw [if_pos y]
            refine ih (k + 1) q (by omega) (by omega) (fun e he hse x hx => ?_)
            by_cases e1 : e = k
            · subst e1
              by_cases e2 : zm (s ||| g) x
              · exact e2
              · exact absurd (zm_diff.mpr ⟨hx, e2⟩) (zm_eq0.mp y x)
            · exact hI e (by omega) hse x hx
          · rw [if_neg y]
            obtain ⟨x, hx⟩ := zm_ne0.mp y
            have hx := zm_diff.mp hx
            exact Or.inr ⟨⟨k, x, hkn, z, hx.1, hx.2⟩, rfl⟩
        · rw [if_neg z]
          refine ih (k + 1) q (by omega) (by omega) (fun e he hse x hx => ?_)
          by_cases e1 : e = k
          · subst e1; exact absurd hse z
          · exact hI e (by omega) hse x hx
    rcases look (en D) 0 xFU (by omega) (by unfold xFU; omega) (fun e he => absurd he (Nat.not_lt_zero _)) with ⟨hall, look⟩ | ⟨⟨e, x, he, h3, h4, h5⟩, look⟩
    ·
      have hp0 : p &&& ((s ||| g) ^^^ (-1 : Int64)) = 0 := zm_eq0.mpr fun x hx => by
        have hx := zm_diff.mp hx
        obtain ⟨e, _, q1, q2⟩ := (p2 x).mp hx.1
        exact hx.2 (hall e q1 x q2)
      have hTc : zcl D (g ||| s) := by
        have key : ∀ e, zm s e → ∀ x, zm (ean D e) x → zm (g ||| s) x := by
          intro e
          induction e using Nat.strongRecOn with
          | ind e ih =>
            intro he x hx
            have hen := m4 e he
            have tr : ∀ y, zm (epa D e) y → zm (g ||| s) y := fun y hy => zm_or.mpr ((zm_or.mp (hall e he y hy)).symm)
            rcases epa_cover hO hen hx with q | ⟨f, q1, q2⟩
            · exact tr x q
            · rcases zm_or.mp (tr f q1) with z | z
              · exact zm_or.mpr (Or.inl (hgc f z x q2))
              · exact ih f (hO.sub hen f (hO.paan hen q1)) z x q2
        intro e he x hx
        rcases zm_or.mp he with q | q
        · exact zm_or.mpr (Or.inl (hgc e q x hx))
        · exact key e q x hx
      have hwT : ∀ x, zm w x → zm (g ||| s) x := by
        intro x hx
        rcases (w3 x).mp hx with q | ⟨e, _, q1, q2⟩
        · exact zm_or.mpr (Or.inr q)
        · exact hTc e (zm_or.mpr (Or.inr q1)) x q2
      rw [if_pos hp0, zg (zin hi (by omega)), zb1 w1, zlet, zi_nat (a := i) (by omega)]
      have hmodel : m_Model_deliver_l29 xFU (zi m) (zi j) s 0 v = (let y := xs_sL v 3 (3 * j + i) (xs_L v 3 (3 * j + i) ||| w); if (s &&& (g ^^^ (-1 : Int64))) = 0 then m_Model_deliver_b131 (s &&& (g ^^^ (-1 : Int64))) y else xb1 (m_Model_merge (zi j) (s &&& (g ^^^ (-1 : Int64))) y) fun u128 => m_Model_deliver_b131 (s &&& (g ^^^ (-1 : Int64))) u128) := by
        rw [show m_Model_deliver_l29 xFU (zi m) (zi j) s 0 v = _ from look]
        show m_Model_deliver_s29 _ _ _ _ _ _ = _
        unfold m_Model_deliver_s29
        rw [hv.n, if_pos (zle_n (by omega) (by omega) (Nat.le_refl _)), zg (zin hm (by omega)), zi_nat (a := m) (by omega), c3, z3ab hj hi, zg (zin (by omega) (by omega)), zb1 w2, zlet, zg (zin hj (by omega)), zi_nat (by omega), zi_nat (a := j) (by omega), zLLn (by decide), hvg]
      rw [hmodel]
      simp only
      rw [hS.t hj hi]
      have hfr : zbel (en D) (s &&& (g ^^^ (-1 : Int64))) := fun x hx => m4 x (zm_diff.mp hx).1
      generalize hk : xs_L u (3 + j) i ||| w = k
      have hkT : ∀ x, zm k x → zm (g ||| s) x := by
        intro x hx
        rw [← hk] at hx
        rcases zm_or.mp hx with q | q
        · have := hS.tg hj hi x q
          rw [hg] at this
          exact zm_or.mpr (Or.inl this)
        · exact hwT x q
      have f1 : zfr [] [3 + j] [] [] u (xs_sL u (3 + j) i k) := zfr_sL List.mem_cons_self
      have f2 : zfr [] [3] [] [] v (xs_sL v 3 (3 * j + i) k) := zfr_sL (by decide)
      have hu1 : cE D (xs_sL u (3 + j) i k) := hu.fr f1 (by decide) (fun k hk => by simp <;> omega) (by decide)
      have hv1 : mE D (xs_sL v 3 (3 * j + i) k) := hv.fr f2 (by decide) (by decide) (by decide)
      have huc1 : cC D C (xs_sL u (3 + j) i k) := huc.fr f1 (fun k _ _ => by simp) (by simp <;> omega) (by decide) (by decide) (by decide)
      have hvc1 : mC D C (xs_sL v 3 (3 * j + i) k) := hvc.fr f2 (fun k _ _ => by simp) (by decide)
      have hM1 : zM D (xs_sL u (3 + j) i k) (xs_sL v 3 (3 * j + i) k) := hM.fr (fun m hm => ⟨rfl, rfl, rfl, rfl, rfl, rfl⟩) ⟨f2.L (by decide), rfl, rfl⟩
      have hG1 : zMg (xs_sL u (3 + j) i k) (xs_sL v 3 (3 * j + i) k) := hG.fr (fun r hr => ⟨rfl, rfl, rfl, rfl⟩) (fun k _ _ => rfl)
      have hth : ∀ (U V : xS), xs_L V 3 = xs_L (xs_sL v 3 (3 * j + i) k) 3 → (∀ p, p < 3 → xs_L U (3 + p) = xs_L (xs_sL u (3 + j) i k) (3 + p)) → (∀ p, p < 3 → ∀ x, zm (xs_l u (2 + p)) x → zm (xs_l U (2 + p)) x) → (∀ x, zm (g ||| s) x → zm (xs_l U (2 + j)) x) → ∀ p q, p < 3 → q < 3 → xs_L V 3 (3 * p + q) = xs_L U (3 + p) q ∧ ∀ x, zm (xs_L U (3 + p) q) x → zm (xs_l U (2 + p)) x := by
        intro U V e1 e2 e3 e4 p q hp hq
        rw [e1, e2 p hp]
        by_cases z : p = j
        · subst z
          rw [zLL, zLL]
          by_cases z2 : q = i
          · subst z2
            rw [zuL, zuL]
            exact ⟨rfl, fun x hx => e4 x (hkT x hx)⟩
          · rw [zuLn z2, zuLn (by omega)]
            exact ⟨hS.t hp hq, fun x hx => e3 p hp x (hS.tg hp hq x hx)⟩
        · rw [zLLn (show 3 + p ≠ 3 + j by omega), zLL, zuLn (by omega)]
          exact ⟨hS.t hp hq, fun x hx => e3 p hp x (hS.tg hp hq x hx)⟩
      have hT2 : g ||| (s &&& (g ^^^ (-1 : Int64))) = g ||| s := zm_ext fun x => by
        rw [zm_or, zm_or, zm_diff]
        constructor
        · rintro (q | q)
          · exact Or.inl q
          · exact Or.inr q.1
        · rintro (q | q)
          · exact Or.inl q
          · by_cases z : zm g x
            · exact Or.inl z
            · exact Or.inr ⟨q, z⟩
      unfold m_Text_deliver_b138 m_Model_deliver_b131
      rw [zb1 (z_count hn hfr), zb1 (z_many _)]
      by_cases hF : s &&& (g ^^^ (-1 : Int64)) = 0
      · rw [if_pos hF, if_pos hF]
        have hsg : ∀ x, zm (g ||| s) x → zm g x := by
          intro x hx
          rcases zm_or.mp hx with q | q
          · exact q
          · by_cases z : zm g x
            · exact z
            · exact absurd (zm_diff.mpr ⟨q, z⟩) (zm_eq0.mp hF x)
        refine ⟨_, _, _, rfl, rfl, hO, hK, hu1, hv1, huc1, hvc1, ⟨fun r hr => ?_, hth _ _ rfl (fun _ _ => rfl) (fun p hp x hx => hx) (fun x hx => ?_)⟩, hM1, hG1⟩
        · rw [zlL, f2.L (by decide)]; exact hS.1 r hr
        · rw [zlL, hg]; exact hsg x hx
      · rw [if_neg hF, if_neg hF]
        obtain ⟨x, y, P, r1, r2, r3, r4, r5, r6, r7, r8, r9, r10, r11, r12, r13⟩ := z_merge hO hK hu1 hv1 huc1 hvc1 hj hgb hgc hfr (by rw [hT2]; exact hTc) (show xs_L (xs_sL v 3 (3 * j + i) k) 2 j = g from by rw [zLLn (by decide), hvg])
        rw [zb1 r1, zb1 r2, zlet, zb1 (z_count hn hfr), zb1 (z_many _)]
        have g1 : zfr [10, 11 + j] [] [2, 3 + j, 6 + j, 9 + j] [2 + j] (xs_sL u (3 + j) i k) (xs_sl x (2 + j) (g ||| (s &&& (g ^^^ (-1 : Int64))))) := (r3.mo (fun _ h => h) (fun _ h => h) (fun _ h => h) (by simp)).tr (zfr_sl List.mem_cons_self)
        refine ⟨_, _, _, rfl, rfl, hO, hK, hu1.fr g1 (fun k hk => by simp <;> omega) (by decide) (by simp <;> omega), hv1.fr r4 (by decide) (by decide) (by decide), huc1.fr g1 (fun k _ _ => by simp <;> omega) (by decide) (by simp <;> omega) (by simp <;> omega) (by simp <;> omega), hvc1.fr r4 (fun k _ _ => by simp <;> omega) (by decide), ⟨fun r hr => ?_, hth _ _ (r4.L (by decide)) (fun p hp => g1.L (by simp)) (fun p hp x' hx => ?_) (fun x' hx => ?_)⟩, ?_, ?_⟩
        · by_cases z : r = j
          · subst z
            rw [zll, r13, hT2]
            exact ⟨rfl, fun x hx => (zm_or.mp hx).elim (hgb x) (m4 x), hTc, fun e he hs2 => zm_or.mpr (Or.inl (by have := hS.own hr he hs2; rw [hg] at this; exact this))⟩
          · rw [zlln (by omega), r3.l (by simp), (r11 r z).2.2.2, zLLn (by decide), zlL]
            exact hS.1 r hr
        · by_cases z : p = j
          · subst z
            rw [zll]
            rw [hg] at hx
            exact zm_or.mpr (Or.inl hx)
          · rw [zlln (by omega), r3.l (by simp), zlL]; exact hx
        · rw [zll, hT2]; exact hx
        · exact hM1.fr (fun q hq => ⟨g1.i (by simp <;> omega), g1.i (by simp <;> omega), g1.i (by simp <;> omega), g1.i (by simp <;> omega), g1.l (by simp <;> omega), g1.I (by simp <;> omega)⟩) ⟨r4.L (by decide), r4.I (by decide), r4.I (by decide)⟩
        · intro r hr
          by_cases z : r = j
          · subst z
            exact ⟨r5, r6, P, r7, r8, r9, r10⟩
          · have q := r11 r z
            obtain ⟨a1, a2, P2, a3, a4, a5, a6⟩ := hG1 r hr
            refine ⟨?_, ?_, P2, a3, ?_, ?_, ?_⟩
            · rw [q.1, a1, g1.i (by simp <;> omega)]
            · rw [q.2.1, a2, g1.i (by simp <;> omega)]
            · rw [g1.i (by simp <;> omega), a4]
            · rw [q.2.2.1, a5]
            · intro k2 hk2
              rw [r12 (40 * r + k2) (fun k3 hk3 => by omega), a6 k2 hk2, g1.I (by simp <;> omega)]
    · have hp0 : ¬ p &&& ((s ||| g) ^^^ (-1 : Int64)) = 0 := fun q => zm_eq0.mp q x (zm_diff.mpr ⟨(p2 x).mpr ⟨e, he, h3, h4⟩, h5⟩)
      rw [if_neg hp0]
      exact ⟨_, u, v, rfl, look, hO, hK, hu, hv, huc, hvc, hS, hM, hG⟩
  · rw [zb1 h1, zb1 h2, if_pos rfl, if_neg (by decide)]
    exact ⟨_, u, v, rfl, rfl, hO, hK, hu, hv, huc, hvc, hS, hM, hG⟩
