theorem z_isFull {D : zE} {u : xS} (hO : eOK D) (hu : cE D u) : m_History_isFull u = some (if en D < 40 then 0 else 1) := by
  have hn := hO.n
  unfold m_History_isFull
  rw [hu.n]
  by_cases h : en D < 40
  · rw [if_pos h, if_pos (show zi (en D) < (40 : Int32) from (zlt (b := 40) (by omega) (by omega)).mpr h)]
  · rw [if_neg h, if_neg (show ¬ zi (en D) < (40 : Int32) from fun q => h ((zlt (b := 40) (by omega) (by omega)).mp q))]
theorem kOK_del {D : zE} {C : zK} (hO : eOK D) (hK : kOK D C) {r nu ix ch : Nat} {g p : Int64} {c : Nat} (hc : c < en D ∧ ein D c) (hcg : zm g c) : kOK (epush D r nu ix ch false g p) (krow C, zu (kpl C) (en D) c, krt C) := by
  have hp : ∀ e, e < en D → kpl (krow C, zu (kpl C) (en D) c, krt C) e = kpl C e := fun e he => zu_ne (by omega)
  have hp1 : kpl (krow C, zu (kpl C) (en D) c, krt C) (en D) = c := zu_at
  refine ⟨hK.nd, fun e => ?_, fun e he hi => ?_, fun e he hi => ?_, fun e he => ?_, ?_, fun e he hi hq => ?_⟩
  · show e ∈ krow C ↔ _
    rw [hK.mem, ep_n]
    constructor
    · intro q; exact ⟨by omega, by rw [ep_in q.1]; exact q.2⟩
    · intro q
      rcases zlt_succ q.1 with rfl | z
      · rw [ep_in1] at q; cases q.2
      · rw [ep_in z] at q; exact ⟨z, q.2⟩
  · rcases zlt_succ he with rfl | z
    · rw [hp1, ep_in hc.1]; exact hc
    · rw [ep_in z] at hi
      have := hK.del z hi
      rw [hp e z, ep_in (by omega)]; exact this
  · rcases zlt_succ he with rfl | z
    · rw [ep_in1] at hi; cases hi
    · rw [ep_in z] at hi
      rw [hp e z]
      rcases hK.ins z hi with q | q
      · exact Or.inl q
      · exact Or.inr ⟨q.1, by rw [ep_in (by omega)]; exact q.2⟩
  · rcases zlt_succ he with rfl | z
    · rw [hp1, ep_an1]; exact Or.inr hcg
    · rw [hp e z, ep_an z]; exact hK.an z
  · show (krow C).Pairwise _
    refine List.Pairwise.imp_of_mem ?_ hK.so
    intro a b ha hb hab
    rw [kkey_old hO hK.t hp (fun _ _ _ => rfl) (Or.inr (hK.mem.mp ha)), kkey_old hO hK.t hp (fun _ _ _ => rfl) (Or.inr (hK.mem.mp hb))]
    exact hab
  · rcases zlt_succ he with rfl | z
    · rw [ep_in1] at hi; cases hi
    · rw [ep_in z] at hi
      rw [hp e z] at hq
      exact hK.st z hi hq
theorem q_delete {D : zE} {C : zK} {u v : xS} (h : zRel D C u v) (a i : Int32) : ∃ w D2 C2 x y, m_Text_delete a i u = some (w, x) ∧ m_Model_delete a i v = some (w, y) ∧ zRel D2 C2 x y := by
  have hh := h
  obtain ⟨hO, hK, hu, hv, huc, hvc, hS, hM, hG⟩ := h
  have hn := hO.n
  unfold m_Text_delete m_Model_delete m_Model_length
  rcases z_site a with ⟨r, hr, rfl, h1, h2⟩ | ⟨h1, h2⟩
  · rw [zb1 h1, zb1 h2, if_neg (by decide), if_pos rfl, zb1 (z_isFull hO hu), hv.n]
    by_cases hfull : en D < 40
    · rw [if_pos hfull, if_pos rfl, if_neg (show ¬ (40 : Int32) ≤ zi (en D) from zle_nn (b := 40) (by omega) (by omega) hfull), zg (zin hr (by omega)), zb1 h2, if_pos rfl, zg (zin hr (by omega)), zg (zin hr (by omega)), zi_nat (a := r) (by omega), hS.g hr]
      generalize hg : xs_l u (2 + r) = g at *
      have hgb : zbel (en D) g := hg ▸ hS.gb hr
      have hgc : zcl D g := hg ▸ hS.gc hr
      have hvg : xs_L v 2 r = g := hg ▸ hS.g hr
      obtain ⟨t, t1, t2, t3, t4, t5⟩ := z_length hO hK hv huc hvc g
      rw [zb1 t1, zb1 (z_shownAt hO hK huc t i), zb1 t3, zb1 rfl]
      by_cases hi : i < 0
      · rw [if_pos hi, if_pos hi, if_pos rfl]
        exact ⟨_, D, C, u, v, rfl, rfl, hh⟩
      · obtain ⟨q, hq, rfl⟩ := z_of_nn hi
        rw [if_neg hi, if_neg hi, zi_nat (a := q) hq, zb1 (t4 q hq)]
        by_cases z : q < ((krow C).filter (zm t ·)).length
        · rw [if_pos ((zlt hq (by omega)).mpr z)]
          have hx := List.getElem?_eq_getElem z
          have hxm := List.mem_filter.mp (List.mem_of_getElem? hx)
          generalize ((krow C).filter (zm t ·))[q] = c at hx hxm
          have hck := hK.mem.mp hxm.1
          have hcg : zm g c := by
            obtain ⟨r', g', r1, g1, r2, r3, r4⟩ := z_shown hO hK hv huc hvc g
            rw [t1] at r1
            cases r1
            exact ((r3 c hxm.1).mp hxm.2).1
          obtain ⟨p, x, y, p1, p2, p3, ⟨x0, x1, x2, x3, x4, x5, x6, x7, x8, x9, x10, x11⟩, ⟨y0, y1, y2, y3, y4, y5, y6, y7, y8, y9, y10⟩⟩ := z_push hO hu hv hfull hr hgb hgc hvg q (-1) false
          have p2' : m_Model_event (zi r) 0 (zi q) v = some (zi (en D), y) := p2
          rw [hx, zo_some, if_neg (zne_m1 (by omega)), zb2 p1, zb2 p2']
          have e1 : en D < 41 := by omega
          unfold m_CharacterList_hide
          rw [zg (zin hfull (by omega)), zlet, zb1 (z_bit _), zlet, zb1 rfl, zb1 (z_bit _), zlet, zg (zin e1 (by omega)), zlet, zg (zin hfull (by omega)), zi_nat (a := en D) (by omega)]
          generalize hX : xs_sl (xs_sl (xs_sI x 9 (en D) (zi c)) 0 (xs_l (xs_sI x 9 (en D) (zi c)) 0 ||| zbit (en D))) (2 + r) (g ||| zbit (en D)) = X
          generalize hY : xs_sI y 5 (en D) (zi c) = Y
          have XI : ∀ k, k ≠ 9 → xs_I X k = xs_I x k := fun k hk => by rw [← hX]; exact zIIn hk
          have XL : ∀ k, xs_L X k = xs_L x k := fun k => by rw [← hX]; rfl
          have Xi : ∀ k, xs_i X k = xs_i x k := fun k => by rw [← hX]; rfl
          have YI : ∀ k, k ≠ 5 → xs_I Y k = xs_I y k := fun k hk => by rw [← hY]; exact zIIn hk
          have YL : ∀ k, xs_L Y k = xs_L y k := fun k => by rw [← hY]; rfl
          have Yi : ∀ k, xs_i Y k = xs_i y k := fun k => by rw [← hY]; rfl
          have l0 : xs_l X 0 = xs_l u 0 ||| zbit (en D) := by
            rw [← hX, zlln (by omega), zll, zlI, x0.l (by simp)]
          have l1 : xs_l X 1 = xs_l u 1 := by
            rw [← hX, zlln (by omega), zlln (by decide), zlI, x0.l (by simp)]
          have fX : zfr [0, 1, 2, 3, 4, 5, 6, 7, 8, 9] [0, 1, 2] [0, 1] [0, 1, 2 + r] u X := by
            rw [← hX]
            exact (((x0.mo (by simp) (by simp) (by simp) (by simp)).tr (zfr_sI (by simp))).tr (zfr_sl (by simp))).tr (zfr_sl (by simp))
          have fY : zfr [0, 1, 2, 3, 4, 5, 6, 7, 8] [0, 1, 2] [0, 1] [] v Y := by
            rw [← hY]
            exact (y0.mo (by simp) (by simp) (by simp) (by simp)).tr (zfr_sI (by simp))
          have hXE : cE (epush D r (ecnt D r (en D)) q 0 false g p) X := by
            apply cE_push hu hr rfl hO hfull
            · intro k hk e he; rw [XI k (by omega)]; exact x1 k hk e he
            · intro k hk e he; rw [XL]; exact x2 k hk e he
            · rw [Xi]; exact x3
            · rw [XI 0 (by decide)]; exact x4
            · rw [XI 1 (by decide)]; exact x5
            · rw [XI 2 (by decide)]; exact x6
            · rw [XI 3 (by decide)]; exact x7
            · rw [XL]; exact x8
            · rw [XL]; exact x9
            · rw [XI 4 (by decide)]; exact x10
            · rw [XI 5 (by decide)]; exact x11
          have y44 : ∀ e, e < en D → xs_I Y 4 e = xs_I v 4 e := fun e he => by rw [YI 4 (by decide), y0.I (by simp)]
          have hYE : mE (epush D r (ecnt D r (en D)) q 0 false g p) Y := by
            apply mE_push hv
            · intro k hk e he
              by_cases k4 : k = 4
              · subst k4; exact y44 e he
              · rw [YI k (by omega)]; exact y1 k (by omega) e he
            · intro k hk e he; rw [YL]; exact y2 k hk e he
            · rw [Yi]; exact y3
            · rw [YI 0 (by decide)]; exact y4
            · rw [YI 1 (by decide)]; exact y5
            · rw [YI 2 (by decide)]; exact y6
            · rw [YI 3 (by decide)]; exact y7
            · intro hb; cases hb
            · rw [YL]; exact y8
            · rw [YL]; exact y9
          have hO2 : eOK (epush D r (ecnt D r (en D)) q 0 false g p) := epush_ok hO hfull hr rfl (by omega) (by omega) hgb hgc p3 (fun e he hs => by have := hS.own hr he hs; rw [hg] at this; exact this)
          have hK2 := kOK_del hO hK (r := r) (nu := ecnt D r (en D)) (ix := q) (ch := 0) (g := g) (p := p) hck hcg
          have hp : ∀ e, e < en D → kpl (krow C, zu (kpl C) (en D) c, krt C) e = kpl C e := fun e he => zu_ne (by omega)
          have hXC : cC (epush D r (ecnt D r (en D)) q 0 false g p) (krow C, zu (kpl C) (en D) c, krt C) X := by
            refine ⟨?_, fun k w hw => ?_, fun e he hi2 => ?_, fun e he hi2 => ?_, fun w => ?_, fun w => ?_⟩
            · rw [Xi, x0.i (by simp)]; exact huc.len
            · rw [XI 6 (by decide), x0.I (by simp)]; exact huc.row hw
            · rcases zlt_succ he with rfl | w
              · rw [ep_in1] at hi2; cases hi2
              · rw [ep_in w] at hi2
                refine ⟨?_, ?_, fun s => ?_⟩
                · rw [XI 7 (by decide), x0.I (by simp), hp e w]; exact huc.pl w hi2
                · rw [XI 8 (by decide), x0.I (by simp)]; exact huc.rt w hi2
                · rw [XL, x0.L (by simp), huc.ch w hi2, kchain_old hO hK.t hp e (Or.inr ⟨w, hi2⟩)]
            · rcases zlt_succ he with rfl | w
              · rw [← hX]
                show xs_I (xs_sI x 9 (en D) (zi c)) 9 (en D) = zi (zu (kpl C) (en D) c (en D))
                rw [zII, zup, zu_at]
              · rw [ep_in w] at hi2
                rw [hp e w, ← huc.tk w hi2, ← hX]
                show xs_I (xs_sI x 9 (en D) (zi c)) 9 e = _
                rw [zII, zupn (by omega), x0.I (by simp)]
            · rw [l0, zm_or, zm_bit (by omega), huc.de, ep_n]
              constructor
              · rintro (q | q)
                · exact ⟨by omega, by rw [ep_in q.1]; exact q.2⟩
                · subst q; exact ⟨by omega, by rw [ep_in1]; simp⟩
              · intro q
                rcases zlt_succ q.1 with rfl | s
                · exact Or.inr rfl
                · rw [ep_in s] at q; exact Or.inl ⟨s, q.2⟩
            · rw [l1, huc.ins, ep_n]
              constructor
              · intro q; exact ⟨by omega, by rw [ep_in q.1]; exact q.2⟩
              · intro q
                rcases zlt_succ q.1 with rfl | s
                · rw [ep_in1] at q; cases q.2
                · rw [ep_in s] at q; exact ⟨s, q.2⟩
          have hYC : mC (epush D r (ecnt D r (en D)) q 0 false g p) (krow C, zu (kpl C) (en D) c, krt C) Y := by
            refine ⟨?_, fun k w hw => ?_, fun e he => ?_, fun e he hi2 => ?_, fun e he hi2 => ?_, ?_⟩
            · rw [Yi, y0.i (by simp)]; exact hvc.len
            · rw [YI 8 (by decide), y0.I (by simp)]; exact hvc.row hw
            · rcases zlt_succ he with rfl | w
              · rw [← hY, zII, zup]
                show _ = zi (zu (kpl C) (en D) c (en D))
                rw [zu_at]
              · rw [hp e w, ← hvc.pl w, ← hY, zII, zupn (by omega), y0.I (by simp)]
            · rcases zlt_succ he with rfl | w
              · rw [ep_in1] at hi2; cases hi2
              · rw [ep_in w] at hi2
                rw [YI 6 (by decide), y0.I (by simp)]; exact hvc.rt w hi2
            · rcases zlt_succ he with rfl | w
              · rw [ep_in1] at hi2; cases hi2
              · rw [ep_in w] at hi2
                rw [YI 7 (by decide), y0.I (by simp), kdep_old hO hK.t hp 41 e (Or.inr ⟨w, hi2⟩)]; exact hvc.dp w hi2
            · rw [YI 7 (by decide), y0.I (by simp)]; exact hvc.d0
          have hfin := zRel_push hh hr hg hfull fX fY (by rw [← hX]; exact zll) (by rw [YL]; exact y10) hO2 hK2 hXE hYE hXC hYC
          have hnum : m_History_numberOf (zi (en D)) X = some (zi (ecnt D r (en D))) := by
            have := z_numberOf hO2 hXE (e := en D) (by rw [ep_n]; omega)
            rw [ep_nu1] at this
            exact this
          rw [zb1 hnum, YI 1 (by decide), y5]
          exact ⟨_, _, _, X, Y, rfl, rfl, hfin⟩
        · rw [if_neg (fun y => z ((zlt hq (by omega)).mp y)), List.getElem?_eq_none (by omega), zo_none, if_pos rfl]
          exact ⟨_, D, C, u, v, rfl, rfl, hh⟩
    · rw [if_neg hfull, if_neg (by decide), if_pos (show (40 : Int32) ≤ zi (en D) from zle_n (b := 40) (by omega) (by omega) (by omega))]
      exact ⟨_, D, C, u, v, rfl, rfl, hh⟩
  · rw [zb1 h1, zb1 h2, if_pos rfl, if_neg (by decide)]
    exact ⟨_, D, C, u, v, rfl, rfl, hh⟩
