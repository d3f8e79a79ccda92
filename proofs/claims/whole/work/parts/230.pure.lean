theorem z_child_free {D : zE} {C : zK} {x : xS} (hO : eOK D) (hK : kOK D C) (hT : cT C x) {l : Nat} (hl : l ≤ 40) (g : Int64) : ∃ r, m_CharacterList_childrenOf (zh l) 1 x = some r ∧ ((r &&& g) = 0 ↔ kfree D C g l) := by
  have hn := hO.n
  have hlen := kOK.len hO hK
  obtain ⟨r, r1, r2⟩ := z_childrenOf hT (kOK.row40 hO hK) (by omega) (fun z hz => by
    have h1 := hK.mem.mp hz
    rcases hK.ins h1.1 h1.2 with w | w <;> omega) hl true
  refine ⟨r, r1, ?_⟩
  rw [zm_eq0]
  constructor
  · intro h f hf hg hi hrt hp
    exact h f (zm_and.mpr ⟨(r2 f).mpr ⟨hK.mem.mpr ⟨hf, hi⟩, hp, hrt⟩, hg⟩)
  · intro h f hf
    have hf := zm_and.mp hf
    have h2 := (r2 f).mp hf.1
    have h3 := hK.mem.mp h2.1
    exact h f h3.1 hf.2 h3.2 h2.2.2 h2.2.1
theorem kbeh_found {D : zE} {C : zK} (hO : eOK D) (hK : kOK D C) {g : Int64} {l : Nat} (hl : l = 40 ∨ l ∈ krow C) (h : ¬ kfree D C g l) : ∃ y, kbeh g l (l == 40) (krow C) = some y := by
  have hf : ∃ f, f < en D ∧ zm g f ∧ ein D f ∧ krt C f = true ∧ kpl C f = l := by
    by_cases q : ∃ f, f < en D ∧ zm g f ∧ ein D f ∧ krt C f = true ∧ kpl C f = l
    · exact q
    · exact absurd (fun f h1 h2 h3 h4 h5 => q ⟨f, h1, h2, h3, h4, h5⟩) h
  obtain ⟨f, f1, f2, f3, f4, f5⟩ := hf
  have hfr : f ∈ krow C := hK.mem.mpr ⟨f1, f3⟩
  by_cases h40 : l = 40
  · rw [show (l == 40) = true from beq_iff_eq.mpr h40]
    exact kbeh_true hfr f2
  · have hlr : l ∈ krow C := hl.resolve_left h40
    have hlm := hK.mem.mp hlr
    rw [show (l == 40) = false from by simp [h40]]
    obtain ⟨A, B, hAB⟩ := List.append_of_mem hlr
    have hnd := hK.nd
    have hso := hK.so
    rw [hAB] at hfr hnd hso ⊢
    have hlA : l ∉ A := fun hz => (List.pairwise_append.mp hnd).2.2 l hz l List.mem_cons_self rfl
    have hlt : klt (kkey D C l) (kkey D C f) := by
      unfold kkey
      rw [kpath_step hO hK.t f1 f3, f5, List.append_assoc, klt_app]
      exact Or.inl ((kdig_side hO (C := C) f1).1 f4)
    have hfB : f ∈ B := by
      rcases List.mem_append.mp hfr with z | z
      · have := (List.pairwise_append.mp hso).2.2 f z l List.mem_cons_self
        exact absurd (klt_tr hlt this) klt_irr
      · rcases List.mem_cons.mp z with w | w
        · subst w; exact absurd hlt klt_irr
        · exact w
    exact kbeh_some hlA hfB f2
theorem z_ins_tail {D : zE} {C : zK} {u v : xS} (hh : zRel D C u v) (hn : en D < 40) {r : Nat} (hr : r < 3) {g : Int64} (hg : xs_l u (2 + r) = g) {q c : Nat} (hq : q ≤ 40) (hc : c ≤ 126) {l : Nat} (hl : l = 40 ∨ (l ∈ krow C ∧ zm g l)) :
    ∃ w D2 C2 X Y, m_Text_insert_b92 (zi r) (zi q) (zi c) g (zh l) u = some (w, X) ∧ m_Model_insert_l79 xFU (zi r) (zi q) (zi c) g (zi l) 1 0 v = some (w, Y) ∧ zRel D2 C2 X Y := by
  have hh2 := hh
  obtain ⟨hO, hK, hu, hv, huc, hvc, hS, hM, hG⟩ := hh
  have hlen := kOK.len hO hK
  have h40 := kOK.row40 hO hK
  have hl40 : l ≤ 40 := by
    rcases hl with z | z
    · omega
    · have := h40 l z.1; omega
  have hlk : kin D l := by
    rcases hl with z | z
    · exact Or.inl z
    · exact Or.inr (hK.mem.mp z.1)
  rcases z_free2 hO hv hvc hK hl40 g (zi r) (zi q) (zi c) with ⟨hf, hm⟩ | ⟨hf, hm⟩
  · obtain ⟨w, D2, C2, X, Y, ⟨x, x1, x2, x3⟩, y1, y2⟩ := z_ins_core hh2 hn hr hg hq hc hlk (hl.imp id And.right) (s := true) (fun _ => rfl)
    obtain ⟨t, t1, t2⟩ := z_child_free hO hK x2 hl40 g
    refine ⟨w, D2, C2, X, Y, ?_, hm.trans y1, y2⟩
    unfold m_Text_insert_b92 m_CharacterList_putBehind m_CharacterList_putBehind_b19
    rw [zb2 x1, zb1 t1, if_pos (t2.mpr hf), if_neg (by decide)]
    exact x3
  · obtain ⟨y, hy⟩ := kbeh_found hO hK (hl.imp id And.left) hf
    have hym := kbeh_mem hy
    have hyk := hK.mem.mp hym.1
    have hy40 := h40 y hym.1
    obtain ⟨w, D2, C2, X, Y, ⟨x, x1, x2, x3⟩, y1, y2⟩ := z_ins_core hh2 hn hr hg hq hc (H := y) (Or.inr hyk) (Or.inr hym.2) (s := false) (fun z => by omega)
    obtain ⟨t, t1, t2⟩ := z_child_free hO hK x2 hl40 g
    have hb := z_behind hO hK hvc hl40 g
    rw [hy] at hb
    refine ⟨w, D2, C2, X, Y, ?_, ?_, y2⟩
    · have hnb := z_nextBehind x2 h40 (by omega) hl40 g
      rw [hy] at hnb
      have hzh : zh y = zi y := by unfold zh; rw [if_neg (by omega)]
      unfold m_Text_insert_b92 m_CharacterList_putBehind m_CharacterList_putBehind_b19
      rw [zb2 x1, zb1 t1, if_neg (fun z => hf (t2.mp z)), if_pos rfl, zb1 hnb, zo_some, ← hzh]
      exact x3
    · rw [hm, zb1 hb]; exact y1
theorem q_insert {D : zE} {C : zK} {u v : xS} (h : zRel D C u v) (a i b : Int32) : ∃ w D2 C2 x y, m_Text_insert a i b u = some (w, x) ∧ m_Model_insert a i b v = some (w, y) ∧ zRel D2 C2 x y := by
  have hh := h
  obtain ⟨hO, hK, hu, hv, huc, hvc, hS, hM, hG⟩ := h
  have hn := hO.n
  unfold m_Text_insert m_Model_insert
  rcases z_site a with ⟨r, hr, rfl, h1, h2⟩ | ⟨h1, h2⟩
  · rw [zb1 h1, zb1 h2, if_neg (by decide), if_pos rfl]
    by_cases q1 : b < 32
    · rw [if_pos q1, if_pos q1]; exact ⟨_, D, C, u, v, rfl, rfl, hh⟩
    · rw [if_neg q1, if_neg q1]
      by_cases q2 : 126 < b
      · rw [if_pos q2, if_pos q2]; exact ⟨_, D, C, u, v, rfl, rfl, hh⟩
      · rw [if_neg q2, if_neg q2]
        have hb : ∃ c, c ≤ 126 ∧ b = zi c := by
          have hb0 : ¬ b < 0 := fun z => q1 (by
            rw [Int32.lt_iff_toInt_lt] at z ⊢
            have : (32 : Int32).toInt = 32 := by decide
            have : (0 : Int32).toInt = 0 := by decide
            omega)
          obtain ⟨c, hc, rfl⟩ := z_of_nn hb0
          refine ⟨c, ?_, rfl⟩
          by_cases z : c ≤ 126
          · exact z
          · exact absurd ((zlt (a := 126) (by omega) hc).mpr (by omega)) q2
        obtain ⟨c, hc, rfl⟩ := hb
        rw [zb1 (z_isFull hO hu), hv.n]
        by_cases hfull : en D < 40
        · rw [if_pos hfull, if_pos rfl, if_neg (show ¬ (40 : Int32) ≤ zi (en D) from zle_nn (b := 40) (by omega) (by omega) hfull), zg (zin hr (by omega))]
          have hg0 : xs_l u (2 + (zi r).toNatClampNeg) = xs_l u (2 + r) := by rw [zi_nat (a := r) (by omega)]
          rw [hg0]
          generalize hg : xs_l u (2 + r) = g at *
          have hvg : xs_L v 2 r = g := hg ▸ hS.g hr
          obtain ⟨t, t1, t2, t3, t4, t5⟩ := z_length hO hK hv huc hvc g
          have hml : m_Model_length (zi r) v = some (zi ((krow C).filter (zm t ·)).length) := by
            unfold m_Model_length
            rw [zb1 h2, if_pos rfl, zg (zin hr (by omega)), zi_nat (a := r) (by omega), hvg, zb1 t3]
          rw [zb1 t1]
          by_cases hi : i < 0
          · rw [if_pos hi, if_pos hi]; exact ⟨_, D, C, u, v, rfl, rfl, hh⟩
          · obtain ⟨q, hq, rfl⟩ := z_of_nn hi
            rw [if_neg hi, if_neg hi, zb1 t2, zb1 hml]
            by_cases hql : q ≤ ((krow C).filter (zm t ·)).length
            · rw [if_pos ((zle hq (by omega)).mpr hql), if_pos ((zle hq (by omega)).mpr hql), zg (zin hr (by omega)), zi_nat (a := r) (by omega), hvg]
              cases q with
              | zero =>
                rw [if_pos (show zi 0 = 0 from rfl), if_pos (show zi 0 = 0 from rfl)]
                exact z_ins_tail hh hfull hr hg (q := 0) (by omega) hc (l := 40) (Or.inl rfl)
              | succ q =>
                have hne : ¬ zi (q + 1) = 0 := fun z => absurd ((zeq (b := 0) hq (by omega)).mp z) (by omega)
                have hlt : q < ((krow C).filter (zm t ·)).length := by omega
                have hx := List.getElem?_eq_getElem hlt
                have hxm := List.mem_filter.mp (List.mem_of_getElem? hx)
                have hsa := z_shownAt hO hK huc t (zi q)
                have hma := t4 q (by omega)
                generalize ((krow C).filter (zm t ·))[q] = l at hx hxm
                rw [if_neg (znn (by omega)), zi_nat (a := q) (by omega), hx, zo_some] at hsa
                rw [hx, zo_some] at hma
                have hl40 := kOK.row40 hO hK l hxm.1
                have hlg : zm g l := by
                  obtain ⟨r', g', r1, g1, r2, r3, r4⟩ := z_shown hO hK hv huc hvc g
                  rw [t1] at r1
                  cases r1
                  exact ((r3 l hxm.1).mp hxm.2).1
                rw [if_neg hne, if_neg hne, zpred, zb1 hsa, zb1 hma]
                have hzh : zh l = zi l := by unfold zh; rw [if_neg (by omega)]
                have := z_ins_tail hh hfull hr hg (q := q + 1) (by omega) hc (l := l) (Or.inr ⟨hxm.1, hlg⟩)
                rw [hzh] at this
                exact this
            · rw [if_neg (fun z => hql ((zle hq (by omega)).mp z)), if_neg (fun z => hql ((zle hq (by omega)).mp z))]
              exact ⟨_, D, C, u, v, rfl, rfl, hh⟩
        · rw [if_neg hfull, if_neg (by decide), if_pos (show (40 : Int32) ≤ zi (en D) from zle_n (b := 40) (by omega) (by omega) (by omega))]
          exact ⟨_, D, C, u, v, rfl, rfl, hh⟩
  · rw [zb1 h1, zb1 h2, if_pos rfl, if_neg (by decide)]
    exact ⟨_, D, C, u, v, rfl, rfl, hh⟩
def zR (u v : xS) : Prop := ∃ D C, zRel D C u v
def zs0 : xS := (fun _ _ => 0, fun _ _ => 0, fun _ => 0, fun _ => 0)
theorem zR_0 : zR zs0 zs0 := by
  refine ⟨(0, fun _ => 0, fun _ => 0, fun _ => 0, fun _ => 0, fun _ => false, fun _ => 0, fun _ => 0), ([], fun _ => 0, fun _ => false), ?_⟩
  refine ⟨⟨Nat.zero_le _, fun e he => absurd he (Nat.not_lt_zero _), fun e he => absurd he (Nat.not_lt_zero _), fun e he => absurd he (Nat.not_lt_zero _), fun e he => absurd he (Nat.not_lt_zero _), fun e he => absurd he (Nat.not_lt_zero _), fun e he => absurd he (Nat.not_lt_zero _), fun e he => absurd he (Nat.not_lt_zero _), fun e f _ he => absurd he (Nat.not_lt_zero _)⟩, ⟨List.Pairwise.nil, fun e => ⟨fun h => absurd h List.not_mem_nil, fun h => absurd h.1 (Nat.not_lt_zero _)⟩, fun e he => absurd he (Nat.not_lt_zero _), fun e he => absurd he (Nat.not_lt_zero _), fun e he => absurd he (Nat.not_lt_zero _), List.Pairwise.nil, fun e he => absurd he (Nat.not_lt_zero _)⟩, ⟨rfl, fun e he => absurd he (Nat.not_lt_zero _), fun e he => absurd he (Nat.not_lt_zero _), fun e he => absurd he (Nat.not_lt_zero _), fun e he => absurd he (Nat.not_lt_zero _), fun e he => absurd he (Nat.not_lt_zero _), fun e he => absurd he (Nat.not_lt_zero _), fun e he => absurd he (Nat.not_lt_zero _), fun r _ => rfl⟩, ⟨rfl, fun e he => absurd he (Nat.not_lt_zero _), fun e he => absurd he (Nat.not_lt_zero _), fun e he => absurd he (Nat.not_lt_zero _), fun e he => absurd he (Nat.not_lt_zero _), fun e he => absurd he (Nat.not_lt_zero _), fun e he => absurd he (Nat.not_lt_zero _), fun e he => absurd he (Nat.not_lt_zero _)⟩, ⟨rfl, fun k x h => absurd (show (none : Option Nat) = some x from h) (by simp), fun e he => absurd he (Nat.not_lt_zero _), fun e he => absurd he (Nat.not_lt_zero _), fun x => ⟨fun h => absurd h zm_zero, fun h => absurd h.1 (Nat.not_lt_zero _)⟩, fun x => ⟨fun h => absurd h zm_zero, fun h => absurd h.1 (Nat.not_lt_zero _)⟩⟩, ⟨rfl, fun k x h => absurd (show (none : Option Nat) = some x from h) (by simp), fun e he => absurd he (Nat.not_lt_zero _), fun e he => absurd he (Nat.not_lt_zero _), fun e he => absurd he (Nat.not_lt_zero _), rfl⟩, ⟨fun r _ => ⟨rfl, fun x h => absurd h zm_zero, fun e h => absurd h zm_zero, fun e he => absurd he (Nat.not_lt_zero _)⟩, fun a b _ _ => ⟨rfl, fun x h => absurd h zm_zero⟩⟩, fun m _ => Or.inl ⟨rfl, rfl⟩, fun r _ => ⟨rfl, rfl, 0, Nat.zero_le _, rfl, rfl, fun k hk => absurd hk (Nat.not_lt_zero _)⟩⟩
