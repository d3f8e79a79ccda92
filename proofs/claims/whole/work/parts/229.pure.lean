theorem kOK_ins {D : zE} {C : zK} (hO : eOK D) (hK : kOK D C) (hn : en D < 40) {r nu ix ch : Nat} {g p : Int64} (hO2 : eOK (epush D r nu ix ch true g p)) {H q : Nat} {s : Bool} (hH : kin D H) (hHg : H = 40 ∨ zm g H) (hHs : H = 40 → s = true)
    (hp : kpos (kkey (epush D r nu ix ch true g p) (kinto (krow C) q (en D), zu (kpl C) (en D) H, zu (krt C) (en D) s)) (krow C) (kkey (epush D r nu ix ch true g p) (kinto (krow C) q (en D), zu (kpl C) (en D) H, zu (krt C) (en D) s) (en D)) q) :
    kOK (epush D r nu ix ch true g p) (kinto (krow C) q (en D), zu (kpl C) (en D) H, zu (krt C) (en D) s) := by
  have kp : ∀ e, e < en D → kpl (kinto (krow C) q (en D), zu (kpl C) (en D) H, zu (krt C) (en D) s) e = kpl C e := fun e he => zu_ne (by omega)
  have kr : ∀ e, e < en D → krt (kinto (krow C) q (en D), zu (kpl C) (en D) H, zu (krt C) (en D) s) e = krt C e := fun e he => zu_ne (by omega)
  have kp1 : kpl (kinto (krow C) q (en D), zu (kpl C) (en D) H, zu (krt C) (en D) s) (en D) = H := zu_at
  have kr1 : krt (kinto (krow C) q (en D), zu (kpl C) (en D) H, zu (krt C) (en D) s) (en D) = s := zu_at
  have hKT : kT (epush D r nu ix ch true g p) (kinto (krow C) q (en D), zu (kpl C) (en D) H, zu (krt C) (en D) s) := by
    intro e he hi
    rcases zlt_succ he with rfl | z
    · rw [kp1]
      rcases hH with y | y
      · exact Or.inl y
      · exact Or.inr ⟨y.1, by rw [ep_in y.1]; exact y.2⟩
    · rw [ep_in z] at hi
      rw [kp e z]
      rcases hK.ins z hi with y | y
      · exact Or.inl y
      · exact Or.inr ⟨y.1, by rw [ep_in (by omega)]; exact y.2⟩
  have hrow : ∀ x, x ∈ krow C → x < en D := fun x hx => (hK.mem.mp hx).1
  refine ⟨?_, fun e => ?_, fun e he hi => ?_, hKT, fun e he => ?_, ?_, fun e he hi hq => ?_⟩
  · show (kinto (krow C) q (en D)).Pairwise _
    refine kinto_pw hp.1 hK.nd (fun k x _ hx => ?_) (fun k x _ hx => ?_)
    · have := hrow x (List.mem_of_getElem? hx); omega
    · have := hrow x (List.mem_of_getElem? hx); omega
  · show e ∈ kinto (krow C) q (en D) ↔ _
    rw [kinto_mem, hK.mem, ep_n]
    constructor
    · rintro (z | z)
      · subst z; exact ⟨by omega, ep_in1⟩
      · exact ⟨by omega, by rw [ep_in z.1]; exact z.2⟩
    · intro z
      rcases zlt_succ z.1 with rfl | y
      · exact Or.inl rfl
      · rw [ep_in y] at z; exact Or.inr ⟨y, z.2⟩
  · rcases zlt_succ he with rfl | z
    · rw [ep_in1] at hi; exact absurd rfl hi
    · rw [ep_in z] at hi
      have := hK.del z hi
      rw [kp e z, ep_in (by omega)]; exact this
  · rcases zlt_succ he with rfl | z
    · rw [kp1, ep_an1]; exact hHg
    · rw [kp e z, ep_an z]; exact hK.an z
  · show (kinto (krow C) q (en D)).Pairwise _
    refine kinto_pw hp.1 ?_ (fun k x hk hx => hp.2.1 k x hk hx) (fun k x hk hx => ?_)
    · refine List.Pairwise.imp_of_mem ?_ hK.so
      intro a b ha hb hab
      rw [kkey_old hO hK.t kp (fun e he _ => kr e he) (Or.inr (hK.mem.mp ha)), kkey_old hO hK.t kp (fun e he _ => kr e he) (Or.inr (hK.mem.mp hb))]
      exact hab
    · have hx1 := hK.mem.mp (List.mem_of_getElem? hx)
      rcases klt_tot (s := kkey (epush D r nu ix ch true g p) (kinto (krow C) q (en D), zu (kpl C) (en D) H, zu (krt C) (en D) s) x) (t := kkey (epush D r nu ix ch true g p) (kinto (krow C) q (en D), zu (kpl C) (en D) H, zu (krt C) (en D) s) (en D)) with z | z | z
      · have := kkey_inj hO2 hKT (Or.inr ⟨by rw [ep_n]; omega, by rw [ep_in hx1.1]; exact hx1.2⟩) (Or.inr ⟨by rw [ep_n]; omega, ep_in1⟩) z
        omega
      · exact absurd z (hp.2.2 k x hk hx)
      · exact z
  · rcases zlt_succ he with rfl | z
    · rw [kp1] at hq
      rw [kr1]; exact hHs hq
    · rw [ep_in z] at hi
      rw [kp e z] at hq
      rw [kr e z]; exact hK.st z hi hq
theorem z_ins_core {D : zE} {C : zK} {u v : xS} (hh : zRel D C u v) (hn : en D < 40) {r : Nat} (hr : r < 3) {g : Int64} (hg : xs_l u (2 + r) = g) {q c : Nat} (hq : q ≤ 40) (hc : c ≤ 126) {H : Nat} (hH : kin D H) (hHg : H = 40 ∨ zm g H) {s : Bool} (hHs : H = 40 → s = true) :
    ∃ w D2 C2 X Y, (∃ x, m_History_record (zi r) (zi q) (zi c) g u = some (zi (en D), x) ∧ cT C x ∧ (xb1 (m_CharacterList_putBehind_b37 (zi (en D)) (zb s) (zh H) x) fun u122 => xg (xin (zi r) 3) (xb1 (m_Text_bit (zi (en D))) fun r135 => xlt (xs_sl u122 (2 + ((zi r).toNatClampNeg)) (g ||| r135)) fun w139 => xb1 (m_History_numberOf (zi (en D)) w139) fun r148 => some (r148, w139))) = some (w, X)) ∧ m_Model_insert_b157 (zi r) (zi q) (zi c) (zb s) (zi H) v = some (w, Y) ∧ zRel D2 C2 X Y := by
  have hh2 := hh
  obtain ⟨hO, hK, hu, hv, huc, hvc, hS, hM, hG⟩ := hh
  have hlen := kOK.len hO hK
  have hgb : zbel (en D) g := hg ▸ hS.gb hr
  have hgc : zcl D g := hg ▸ hS.gc hr
  have hvg : xs_L v 2 r = g := hg ▸ hS.g hr
  have hH41 : H < 41 := by rcases hH with z | z <;> omega
  obtain ⟨p, x, y, p1, p2, p3, ⟨x0, x1, x2, x3, x4, x5, x6, x7, x8, x9, x10, x11⟩, ⟨y0, y1, y2, y3, y4, y5, y6, y7, y8, y9, y10⟩⟩ := z_push hO hu hv hn hr hgb hgc hvg q (zi c) true
  have hO2 : eOK (epush D r (ecnt D r (en D)) q c true g p) := epush_ok hO hn hr rfl hq hc hgb hgc p3 (fun e he hs => by have := hS.own hr he hs; rw [hg] at this; exact this)
  have hxE : cE (epush D r (ecnt D r (en D)) q c true g p) x := cE_push hu hr rfl hO hn x1 x2 x3 x4 x5 x6 x7 x8 x9 x10 x11
  have hxT : cT C x := by
    have := huc.toT hK
    refine ⟨by rw [x0.i (by simp)]; exact this.1, fun k z hz => by rw [x0.I (by simp)]; exact this.2.1 k z hz, fun z hz => ?_⟩
    rw [x0.I (k := 7) (by simp), x0.I (k := 8) (by simp), x0.L (k := 2) (by simp)]
    exact this.2.2 z hz
  obtain ⟨X1, k, b1, b2, b3, b4, b5, b6, b7, b8, b9⟩ := z_b37 hK hO hn hO2 hH s hHs hxE hxT
  have hK2 := kOK_ins hO hK hn hO2 hH hHg hHs b9
  have kp : ∀ e, e < en D → kpl (kinto (krow C) k (en D), zu (kpl C) (en D) H, zu (krt C) (en D) s) e = kpl C e := fun e he => zu_ne (by omega)
  have kr : ∀ e, e < en D → krt (kinto (krow C) k (en D), zu (kpl C) (en D) H, zu (krt C) (en D) s) e = krt C e := fun e he => zu_ne (by omega)
  have kp1 : kpl (kinto (krow C) k (en D), zu (kpl C) (en D) H, zu (krt C) (en D) s) (en D) = H := zu_at
  have kr1 : krt (kinto (krow C) k (en D), zu (kpl C) (en D) H, zu (krt C) (en D) s) (en D) = s := zu_at
  generalize hX : xs_sl X1 (2 + r) (g ||| zbit (en D)) = X
  have fX1 : zfr [0, 1, 2, 3, 4, 5, 6, 7, 8, 9] [0, 1, 2] [0, 1] [0, 1, 2 + r] u X := by
    rw [← hX]
    exact ((x0.mo (by simp) (by simp) (by simp) (by simp)).tr (b2.mo (by simp) (by simp) (by simp) (by simp))).tr (zfr_sl (by simp))
  have fXx : zfr [6, 7, 8] [2] [1] [1, 2 + r] x X := by
    rw [← hX]
    exact (b2.mo (fun _ h => h) (fun _ h => h) (fun _ h => h) (by simp)).tr (zfr_sl (by simp))
  have hXE : cE (epush D r (ecnt D r (en D)) q c true g p) X := hxE.fr fXx (by decide) (by decide) (by decide)
  have X7 : xs_I X 7 = upd (xs_I x 7) (en D) (zh H) := by rw [← hX]; exact b6
  have X8 : xs_I X 8 = upd (xs_I x 8) (en D) (zb s) := by rw [← hX]; exact b7
  have X2 : xs_L X 2 = vp_updL (xs_L x 2) (en D) (zbit (en D) ||| (if H = 40 then 0 else xs_L x 2 H)) := by rw [← hX]; exact b8
  have hXC : cC (epush D r (ecnt D r (en D)) q c true g p) (kinto (krow C) k (en D), zu (kpl C) (en D) H, zu (krt C) (en D) s) X := by
    refine ⟨?_, fun j w hw => ?_, fun e he hi => ?_, fun e he hi => ?_, fun w => ?_, fun w => ?_⟩
    · show xs_i X 1 = zi (kinto (krow C) k (en D)).length
      rw [kinto_len b9.1, ← hX]; exact b3
    · rw [← hX]; exact b5 j w hw
    · rcases zlt_succ he with rfl | z
      · rw [X7, X8, X2, zup, zup, zuL, kp1, kr1]
        refine ⟨rfl, rfl, fun w => ?_⟩
        rw [zm_or, zm_bit (by omega), kchain_step (by omega), kp1, kchain_old hO hK.t kp H hH]
        by_cases h40 : H = 40
        · rw [if_pos h40, h40]
          exact ⟨fun q => q.imp id (fun q => absurd q zm_zero), fun q => q.imp id (fun q => absurd q kchain_40)⟩
        · have hHi : H < en D ∧ ein D H := by
            rcases hH with y | y
            · exact absurd y h40
            · exact y
          rw [if_neg h40, x0.L (by simp), huc.ch hHi.1 hHi.2]
      · rw [ep_in z] at hi
        have hne : e ≠ en D := by omega
        rw [X7, X8, X2, zupn hne, zupn hne, zuLn hne, kp e z, kr e z, x0.I (k := 7) (by simp), x0.I (k := 8) (by simp), x0.L (k := 2) (by simp)]
        refine ⟨huc.pl z hi, huc.rt z hi, fun w => ?_⟩
        rw [huc.ch z hi, kchain_old hO hK.t kp e (Or.inr ⟨z, hi⟩)]
    · rcases zlt_succ he with rfl | z
      · rw [ep_in1] at hi; exact absurd rfl hi
      · rw [ep_in z] at hi
        rw [fXx.I (by simp), x0.I (by simp), kp e z]; exact huc.tk z hi
    · rw [fXx.l (by simp <;> omega), x0.l (by simp), huc.de, ep_n]
      constructor
      · intro z; exact ⟨by omega, by rw [ep_in z.1]; exact z.2⟩
      · intro z
        rcases zlt_succ z.1 with rfl | t
        · exact absurd ep_in1 z.2
        · rw [ep_in t] at z; exact ⟨t, z.2⟩
    · have : xs_l X 1 = xs_l u 1 ||| zbit (en D) := by rw [← hX, zlln (by omega), b4, x0.l (by simp)]
      rw [this, zm_or, zm_bit (by omega), huc.ins, ep_n]
      constructor
      · rintro (z | z)
        · exact ⟨by omega, by rw [ep_in z.1]; exact z.2⟩
        · subst z; exact ⟨by omega, ep_in1⟩
      · intro z
        rcases zlt_succ z.1 with rfl | t
        · exact Or.inr rfl
        · rw [ep_in t] at z; exact Or.inl ⟨t, z.2⟩
  have hdep : kdep (kinto (krow C) k (en D), zu (kpl C) (en D) H, zu (krt C) (en D) s) 41 (en D) = kdep C 41 H + 1 := by
    have e1 : kdep (kinto (krow C) k (en D), zu (kpl C) (en D) H, zu (krt C) (en D) s) 41 (en D) = kdep (kinto (krow C) k (en D), zu (kpl C) (en D) H, zu (krt C) (en D) s) 40 H + 1 := by
      show (if en D = 40 then 0 else kdep _ 40 (zu (kpl C) (en D) H (en D)) + 1) = _
      rw [if_neg (by omega), zu_at]
    rw [e1, kdep_old hO hK.t kp 40 H hH, kdep_len (D := D), kdep_len (D := D), kpath_fuel hO hK.t H hH 40 (by omega) (by omega)]
  have hd7 : xs_I v 7 H = zi (kdep C 41 H) := by
    rcases hH with z | z
    · subst z
      rw [hvc.d0, kdep_len (D := D), kpath_40]; rfl
    · exact hvc.dp z.1 z.2
  generalize hY4 : xs_sI (xs_sI (xs_sI (xs_sI y 4 (en D) (zi c)) 5 (en D) (zi H)) 6 (en D) (zb s)) 7 (en D) (zi (kdep C 41 H + 1)) = Y4
  have fY : zfr [4, 5, 6, 7] [] [] [] y Y4 := by
    rw [← hY4]
    exact (((zfr_sI (by decide)).tr (zfr_sI (by decide))).tr (zfr_sI (by decide))).tr (zfr_sI (by decide))
  have Y44 : xs_I Y4 4 = upd (xs_I v 4) (en D) (zi c) := by
    rw [← hY4, zIIn (by decide), zIIn (by decide), zIIn (by decide), zII, y0.I (by simp)]
  have Y45 : xs_I Y4 5 = upd (xs_I v 5) (en D) (zi H) := by
    rw [← hY4, zIIn (by decide), zIIn (by decide), zII, zIIn (by decide), y0.I (by simp)]
  have Y46 : xs_I Y4 6 = upd (xs_I v 6) (en D) (zb s) := by
    rw [← hY4, zIIn (by decide), zII, zIIn (by decide), zIIn (by decide), y0.I (by simp)]
  have Y47 : xs_I Y4 7 = upd (xs_I v 7) (en D) (zi (kdep C 41 H + 1)) := by
    rw [← hY4, zII, zIIn (by decide), zIIn (by decide), zIIn (by decide), y0.I (by simp)]
  have hYE : mE (epush D r (ecnt D r (en D)) q c true g p) Y4 := by
    apply mE_push hv
    · intro j hj e he
      by_cases j4 : j = 4
      · subst j4; rw [Y44, zupn (by omega)]
      · rw [fY.I (by simp <;> omega)]; exact y1 j (by omega) e he
    · intro j hj e he; rw [fY.L (by simp)]; exact y2 j hj e he
    · rw [fY.i (by simp)]; exact y3
    · rw [fY.I (by simp)]; exact y4
    · rw [fY.I (by simp)]; exact y5
    · rw [fY.I (by simp)]; exact y6
    · rw [fY.I (by simp)]; exact y7
    · intro _; rw [Y44, zup]
    · rw [fY.L (by simp)]; exact y8
    · rw [fY.L (by simp)]; exact y9
  have hYT : mT (epush D r (ecnt D r (en D)) q c true g p) (kinto (krow C) k (en D), zu (kpl C) (en D) H, zu (krt C) (en D) s) Y4 := by
    refine ⟨fun e he hi => ?_, ?_⟩
    · rcases zlt_succ he with rfl | z
      · rw [Y45, Y46, Y47, zup, zup, zup, kp1, kr1, hdep]; exact ⟨rfl, rfl, rfl⟩
      · rw [ep_in z] at hi
        have hne : e ≠ en D := by omega
        rw [Y45, Y46, Y47, zupn hne, zupn hne, zupn hne, kp e z, kr e z, kdep_old hO hK.t kp 41 e (Or.inr ⟨z, hi⟩)]
        exact ⟨hvc.pl z, hvc.rt z hi, hvc.dp z hi⟩
    · rw [Y47, zupn (by omega)]; exact hvc.d0
  have hLm : ∀ z, z ∈ krow C → z < en (epush D r (ecnt D r (en D)) q c true g p) ∧ ein (epush D r (ecnt D r (en D)) q c true g p) z ∧ z ≠ en D := by
    intro z hz
    have := hK.mem.mp hz
    exact ⟨by rw [ep_n]; omega, by rw [ep_in this.1]; exact this.2, by omega⟩
  obtain ⟨Y, r1, r2, r3, r4⟩ := z_intoRow hO2 hK2.t hYE hYT (L := krow C) (e := en D) (p := k) ⟨by rw [ep_n]; omega, ep_in1⟩ hLm (by omega) (by rw [fY.i (by simp), y0.i (by simp)]; exact hvc.len) (fun j w hw => by rw [fY.I (by simp), y0.I (by simp)]; exact hvc.row hw) b9
  have hYE2 : mE (epush D r (ecnt D r (en D)) q c true g p) Y := hYE.fr r2 (by decide) (by decide) (by decide)
  have hYC : mC (epush D r (ecnt D r (en D)) q c true g p) (kinto (krow C) k (en D), zu (kpl C) (en D) H, zu (krt C) (en D) s) Y := by
    refine ⟨?_, fun j w hw => r4 j w hw, fun e he => ?_, fun e he hi => ?_, fun e he hi => ?_, ?_⟩
    · show xs_i Y 1 = zi (kinto (krow C) k (en D)).length
      rw [kinto_len b9.1]; exact r3
    · rw [r2.I (by simp)]
      rcases zlt_succ he with rfl | z
      · rw [Y45, zup, kp1]
      · rw [Y45, zupn (by omega), kp e z]; exact hvc.pl z
    · rw [r2.I (by simp)]; exact hYT.rt he hi
    · rw [r2.I (by simp)]; exact (hYT.1 e he hi).2.2
    · rw [r2.I (by simp)]; exact hYT.2
  have fYv : zfr [0, 1, 2, 3, 4, 5, 6, 7, 8] [0, 1, 2] [0, 1] [] v Y := ((y0.mo (by simp) (by simp) (by simp) (by simp)).tr (fY.mo (by simp) (by simp) (by simp) (by simp))).tr (r2.mo (by simp) (by simp) (by simp) (by simp))
  have hfin := zRel_push hh2 hr hg hn fX1 fYv (by rw [← hX]; exact zll) (by rw [r2.L (by simp), fY.L (by simp)]; exact y10) hO2 hK2 hXE hYE2 hXC hYC
  have hnum : m_History_numberOf (zi (en D)) X = some (zi (ecnt D r (en D))) := by
    have := z_numberOf hO2 hXE (e := en D) (by rw [ep_n]; omega)
    rw [ep_nu1] at this
    exact this
  refine ⟨zi (ecnt D r (en D)), _, _, X, Y, ⟨x, p1, hxT, ?_⟩, ?_, hfin⟩
  · rw [zb1 b1, zg (zin hr (by omega)), zb1 (z_bit _), zlet, zi_nat (a := r) (by omega), hX, zb1 hnum]
  · unfold m_Model_insert_b157
    have p2' : m_Model_event (zi r) 1 (zi q) v = some (zi (en D), y) := p2
    have e41 : en D < 41 := by omega
    have y7v : xs_I (xs_sI (xs_sI (xs_sI y 4 (en D) (zi c)) 5 (en D) (zi H)) 6 (en D) (zb s)) 7 H = zi (kdep C 41 H) := by
      rw [zIIn (by decide), zIIn (by decide), zIIn (by decide), y0.I (by simp), hd7]
    rw [zb2 p2', zg (zin hn (by omega)), zlet, zg (zin e41 (by omega)), zlet, zlet, zg (zin hH41 (by omega)), zlet, zi_nat (a := en D) (by omega), zi_nat (a := H) (by omega), z_nar, y7v, zsucc, hY4, zb1 r1, r2.I (by simp), fY.I (by simp), y5]
