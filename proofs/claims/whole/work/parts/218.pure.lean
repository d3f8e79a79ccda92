theorem z_free {D : zE} {u v : xS} (hM : zM D u v) (a b : Int32) (s : Int64) : ∃ p, p ≤ 6 ∧ m_Text_freeNumber u = some (zi p) ∧ m_Model_send_l37 xFU a b s 0 v = m_Model_send_b62 a b s (zi p) v ∧ (p < 6 → xs_i u (12 + p) = 0) := by
  have key : ∀ d k fu gu, k + d = 6 → d < fu → d < gu → ∃ p, p ≤ 6 ∧ m_Text_freeNumber_l2 fu (zi k) u = some (zi p) ∧ m_Model_send_l37 gu a b s (zi k) v = m_Model_send_b62 a b s (zi p) v ∧ (p < 6 → xs_i u (12 + p) = 0) := by
    intro d
    induction d with
    | zero =>
      intro k fu gu hk hf hg
      obtain ⟨f, rfl⟩ : ∃ g, fu = g + 1 := ⟨fu - 1, by omega⟩
      obtain ⟨g, rfl⟩ : ∃ g, gu = g + 1 := ⟨gu - 1, by omega⟩
      have : k = 6 := by omega
      subst this
      refine ⟨6, by omega, ?_, ?_, fun h => absurd h (by omega)⟩
      · show m_Text_freeNumber_s2 _ _ _ = _
        unfold m_Text_freeNumber_s2
        rw [if_pos (by decide)]
      · show m_Model_send_s37 _ _ _ _ _ _ = _
        unfold m_Model_send_s37
        rw [if_pos (by decide)]
    | succ d ih =>
      intro k fu gu hk hf hg
      obtain ⟨f, rfl⟩ : ∃ g, fu = g + 1 := ⟨fu - 1, by omega⟩
      obtain ⟨g, rfl⟩ : ∃ g, gu = g + 1 := ⟨gu - 1, by omega⟩
      show ∃ p, _ ∧ m_Text_freeNumber_s2 _ _ _ = _ ∧ m_Model_send_s37 _ _ _ _ _ _ = _ ∧ _
      unfold m_Text_freeNumber_s2 m_Model_send_s37
      rw [if_neg (show ¬ (6 : Int32) ≤ zi k from zle_nn (b := 6) (by omega) (by omega) (by omega)), if_neg (show ¬ (6 : Int32) ≤ zi k from zle_nn (b := 6) (by omega) (by omega) (by omega)), zg (zin (by omega) (by omega)), zg (zin (by omega) (by omega)), zi_nat (by omega), zsucc]
      rcases hM k (by omega) with ⟨h1, h2⟩ | hm
      · rw [if_pos h1, if_pos h2]
        exact ⟨k, by omega, rfl, rfl, fun _ => h1⟩
      · rw [hm.1, if_neg (by decide), hm.2.1, if_neg hm.2.2.1]
        exact ih (k + 1) f g (by omega) (by omega) (by omega)
  exact key 6 0 xFU xFU (by omega) (by decide) (by decide)
theorem q_send {D : zE} {C : zK} {u v : xS} (h : zRel D C u v) (a b : Int32) : ∃ r x y, m_Text_send a b u = some (r, x) ∧ m_Model_send a b v = some (r, y) ∧ zRel D C x y := by
  have hh := h
  obtain ⟨hO, hK, hu, hv, huc, hvc, hS, hM, hG⟩ := h
  have hn := hO.n
  unfold m_Text_send m_Model_send
  rcases z_pair a b with ⟨i, j, hi, hj, hij, rfl, rfl, h1, h2⟩ | ⟨h1, h2⟩
  · rw [zb1 h1, zb1 h2, if_neg (by decide), if_pos rfl, zg (zin hi (by omega)), zg (zin hj (by omega)), zg (zin hi (by omega)), z3ab hi hj, zg (zin (by omega) (by omega)), zi_nat (a := i) (by omega), zi_nat (a := j) (by omega), zi_nat (a := 3 * i + j) (by omega), hS.g hi, hS.t hi hj]
    generalize hg : xs_l u (2 + i) = g at *
    generalize hs : g &&& (xs_L u (3 + i) j ^^^ (-1 : Int64)) = s at *
    have hgb : zbel (en D) g := hg ▸ hS.gb hi
    have hsg : ∀ x, zm s x → zm g x := fun x hx => by rw [← hs] at hx; exact (zm_diff.mp hx).1
    have hsb : zbel (en D) s := fun x hx => hgb x (hsg x hx)
    obtain ⟨p, hp6, p1, p2, p3⟩ := z_free hM (zi i) (zi j) s
    rw [zb1 p1, p2]
    unfold m_Model_send_b62
    by_cases hs0 : s = 0
    · rw [if_pos hs0, if_pos hs0, ite_self]
      exact ⟨_, u, v, rfl, rfl, hh⟩
    · rw [if_neg hs0, if_neg hs0]
      by_cases hp : p = 6
      · subst hp
        rw [if_pos (by decide), if_pos (by decide)]
        exact ⟨_, u, v, rfl, rfl, hh⟩
      · have hp6 : p < 6 := by omega
        have np : ¬ zi p = (6 : Int32) := fun q => hp ((zeq (b := 6) (by omega) (by omega)).mp q)
        obtain ⟨u1, a1, a2, a3, a4⟩ := z_arrange hO hu s
        rw [if_neg np, if_neg np, zb1 a1]
        let u2 := xs_sl (xs_si (xs_si (xs_si u1 (12 + p) (1 : Int32)) (18 + p) (zi i)) (24 + p) (zi j)) (5 + p) s
        have b2 : zfr [] [] [12 + p, 18 + p, 24 + p] [5 + p] u1 u2 := (((zfr_si (by simp)).tr (zfr_si (by simp))).tr (zfr_si (by simp))).tr (zfr_sl (by simp))
        have hu1 : cE D u1 := hu.fr a2 (by decide) (by decide) (by decide)
        have hu2 : cE D u2 := hu1.fr b2 (by decide) (by decide) (by simp <;> omega)
        have hN2 : cN (eord D 40 s none) u2 := (show cN (eord D 40 s none) u1 from ⟨a3, a4⟩).fr b2 (by decide) (by simp <;> omega)
        have lenS := eord_len hO 40 s none hsb (zc_le 40 s)
        have hL40 : (eord D 40 s none).length ≤ 40 := by rw [lenS]; exact zc_le 40 s
        have memS : ∀ e, e ∈ eord D 40 s none → e < en D := fun e he => (eord_mem hO _ _ _ _ he).1
        obtain ⟨u3, c1, c2, c3⟩ := z_write hO hL40 (eord_ne hO hsb hs0) memS (j := p) ⟨hu2, hN2⟩ (encL_len hO hL40 memS)
        have hc1 : m_Message_write p u2 = some u3 := c1
        have g3 : zfr [10, 14 + p] [] [2, 12 + p, 18 + p, 24 + p, 30 + p] [5 + p] u u3 := ((a2.mo (by simp) (by simp) (by simp) (by simp)).tr (b2.mo (by simp) (by simp) (by simp) (by simp))).tr (c2.mo (by simp) (by simp) (by simp) (by simp))
        have hg3 : xs_l u3 (2 + i) = g := by rw [g3.l (by simp <;> omega), hg]
        have g4 : zfr [10, 14 + p] [3 + i] [2, 12 + p, 18 + p, 24 + p, 30 + p] [5 + p] u (xs_sL u3 (3 + i) j g) := (g3.mo (fun _ h => h) (by simp) (fun _ h => h) (fun _ h => h)).tr (zfr_sL (by simp))
        let v1 := xs_sI (xs_sI (xs_sL v 4 p s) 9 p (zi i)) 10 p (zi j)
        have k1 : zfr [9, 10] [4] [] [] v v1 := ((zfr_sL (by decide)).tr (zfr_sI (by decide))).tr (zfr_sI (by decide))
        have t3 : xs_L v1 3 (3 * i + j) = xs_L u (3 + i) j := by rw [k1.L (by decide)]; exact hS.t hi hj
        have t2 : xs_L v1 2 i = g := by rw [k1.L (by decide)]; exact (hS.g hi).trans hg
        have tg : xs_L u (3 + i) j ||| g = g := zm_ext fun x => by
          rw [zm_or]
          exact ⟨fun q => q.elim (fun z => by have := hS.tg hi hj x z; rw [hg] at this; exact this) id, Or.inr⟩
        have k2 : zfr [9, 10] [3, 4] [] [] v (xs_sL v1 3 (3 * i + j) g) := (k1.mo (fun _ h => h) (by simp) (fun _ h => h) (fun _ h => h)).tr (zfr_sL (by simp))
        refine ⟨zi p, xs_sL u3 (3 + i) j g, xs_sL v1 3 (3 * i + j) g, ?_, ?_, hO, hK, hu.fr g4 (fun k hk => by simp <;> omega) (fun k hk => by simp <;> omega) (by simp <;> omega), hv.fr k2 (by decide) (by decide) (by decide), huc.fr g4 (fun k _ _ => by simp <;> omega) (by simp <;> omega) (by simp <;> omega) (by simp <;> omega) (by simp <;> omega), hvc.fr k2 (fun k _ _ => by simp <;> omega) (by decide), ⟨fun r hr => ?_, fun q t hq ht => ?_⟩, fun q hq => ?_, ?_⟩
        · rw [zg (zin hp6 (by omega)), zi_nat (a := p) (by omega)]
          unfold m_Message_start
          rw [zlet, zlet, zlet, zlet, zb1 rfl, zb1 hc1, zlet, hg3]
        · rw [zg (zin hp6 (by omega)), zlet, zlet, zlet, z3ab hi hj, zg (zin (by omega) (by omega)), zg (zin hi (by omega)), zlet, zi_nat (a := p) (by omega), zi_nat (a := 3 * i + j) (by omega), zi_nat (a := i) (by omega)]
          show some (zi p, xs_sL v1 3 (3 * i + j) (xs_L v1 3 (3 * i + j) ||| xs_L v1 2 i)) = _
          rw [t3, t2, tg]
        · rw [g4.l (by simp <;> omega), k2.L (by decide)]
          exact hS.1 r hr
        · rw [g4.l (by simp <;> omega), zLL]
          by_cases z : q = i
          · subst z
            rw [zLL]
            by_cases z2 : t = j
            · subst z2
              rw [zuL, zuL, hg]
              exact ⟨rfl, fun x hx => hx⟩
            · rw [zuLn z2, zuLn (by omega), k1.L (by decide), g3.L (by simp)]
              exact hS.2 q t hq ht
          · rw [zuLn (by omega), zLLn (by omega), k1.L (by decide), g3.L (by simp)]
            exact hS.2 q t hq ht
        · by_cases z : q = p
          · subst z
            refine Or.inr ⟨?_, ?_, ?_, ?_, ⟨i, j, hi, hj, hij, ?_, ?_, ?_, ?_⟩, ?_⟩
            · show xs_i u3 (12 + q) = 1
              rw [c2.i (by simp <;> omega)]
              show xs_i (xs_si (xs_si (xs_si u1 (12 + q) (1 : Int32)) (18 + q) (zi i)) (24 + q) (zi j)) (12 + q) = 1
              rw [ziin (by omega), ziin (by omega), zii]
            · show xs_L (xs_sL v1 3 (3 * i + j) g) 4 q = xs_l u3 (5 + q)
              rw [c2.l (by simp), zLLn (by decide)]
              show vp_updL (xs_L v 4) q s q = xs_l u2 (5 + q)
              rw [zuL]; exact zll.symm
            · show xs_l u3 (5 + q) ≠ 0
              rw [c2.l (by simp)]
              show xs_l u2 (5 + q) ≠ 0
              rw [show xs_l u2 (5 + q) = s from zll]; exact hs0
            · show zbel (en D) (xs_l u3 (5 + q))
              rw [c2.l (by simp), show xs_l u2 (5 + q) = s from zll]; exact hsb
            · show xs_i u3 (18 + q) = zi i
              rw [c2.i (by simp <;> omega)]
              show xs_i (xs_si (xs_si (xs_si u1 (12 + q) (1 : Int32)) (18 + q) (zi i)) (24 + q) (zi j)) (18 + q) = zi i
              rw [ziin (by omega), zii]
            · show xs_i u3 (24 + q) = zi j
              rw [c2.i (by simp <;> omega)]
              show xs_i (xs_si (xs_si (xs_si u1 (12 + q) (1 : Int32)) (18 + q) (zi i)) (24 + q) (zi j)) (24 + q) = zi j
              rw [zii]
            · show xs_I v1 9 q = zi i
              show xs_I (xs_sI (xs_sI (xs_sL v 4 q s) 9 q (zi i)) 10 q (zi j)) 9 q = zi i
              rw [zIIn (by decide), zII, zup]
            · show xs_I (xs_sI (xs_sI (xs_sL v 4 q s) 9 q (zi i)) 10 q (zi j)) 10 q = zi j
              rw [zII, zup]
            · show cR (enc D (xs_l u3 (5 + q))) q (xs_sL u3 (3 + i) j g)
              rw [c2.l (by simp), show xs_l u2 (5 + q) = s from zll]
              exact c3
          · have e1 : xs_L (xs_sL v1 3 (3 * i + j) g) 4 q = xs_L v 4 q := by
              rw [zLLn (by decide)]
              show vp_updL (xs_L v 4) p s q = _
              rw [zuLn z]
            have e2 : xs_I (xs_sL v1 3 (3 * i + j) g) 9 q = xs_I v 9 q := by
              show xs_I (xs_sI (xs_sI (xs_sL v 4 p s) 9 p (zi i)) 10 p (zi j)) 9 q = _
              rw [zIIn (by decide), zII, zupn z]; rfl
            have e3 : xs_I (xs_sL v1 3 (3 * i + j) g) 10 q = xs_I v 10 q := by
              show xs_I (xs_sI (xs_sI (xs_sL v 4 p s) 9 p (zi i)) 10 p (zi j)) 10 q = _
              rw [zII, zupn z, zIIn (by decide)]; rfl
            rcases hM q hq with ⟨h3, h4⟩ | hm
            · exact Or.inl ⟨by rw [g4.i (by simp <;> omega), h3], by rw [e1, h4]⟩
            · exact Or.inr (hm.fr ⟨g4.i (by simp <;> omega), g4.i (by simp <;> omega), g4.i (by simp <;> omega), g4.i (by simp <;> omega), g4.l (by simp <;> omega), g4.I (by simp <;> omega)⟩ ⟨e1, e2, e3⟩)
        · exact hG.fr (fun r hr => ⟨g4.i (by simp <;> omega), g4.i (by simp <;> omega), g4.i (by simp <;> omega), g4.I (by simp <;> omega)⟩) (fun k _ _ => k2.I (by simp <;> omega))
  · rw [zb1 h1, zb1 h2, if_pos rfl, if_neg (by decide)]
    exact ⟨_, u, v, rfl, rfl, hh⟩
