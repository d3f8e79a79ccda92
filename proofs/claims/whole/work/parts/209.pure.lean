theorem z40rk {r k : Nat} : (40 : Int32) * zi r + zi k = zi (40 * r + k) := by
  rw [show (40 : Int32) = zi 40 from rfl, zmul, zadd]
theorem q_operation {u v : xS} (hM : zMg u v) (r a : Int32) : ∃ x, m_Text_operation r a u = some x ∧ m_Model_operation r a v = some x := by
  unfold m_Text_operation m_Model_operation
  rcases z_site r with ⟨k, hk, rfl, h1, h2⟩ | ⟨h1, h2⟩
  · rw [zb1 h1, zb1 h2, if_neg (by decide), if_pos rfl]
    by_cases h : a < 0
    · rw [if_pos h, if_pos h]; exact ⟨_, rfl, rfl⟩
    · obtain ⟨q, hq, rfl⟩ := z_of_nn h
      obtain ⟨p, hp, e1, e2, e3⟩ := (hM k hk).2.2
      rw [if_neg h, if_neg h, zg (zin hk (by omega)), zg (zin hk (by omega)), zi_nat (by omega), e1, e2]
      by_cases z : q < p
      · rw [if_pos ((zlt hq (by omega)).mpr z), if_pos ((zlt hq (by omega)).mpr z), zg (zin (by omega) (by omega)), z40rk, zg (zin (by omega) (by omega)), zi_nat hq, zi_nat (by omega), e3 q z]
        exact ⟨_, rfl, rfl⟩
      · rw [if_neg (fun y => z ((zlt hq (by omega)).mp y)), if_neg (fun y => z ((zlt hq (by omega)).mp y))]
        exact ⟨_, rfl, rfl⟩
  · rw [zb1 h1, zb1 h2, if_pos rfl, if_neg (by decide)]
    exact ⟨_, rfl, rfl⟩
def ecode (D : zE) (e : Nat) : Int32 := zi (esi D e) + (3 : Int32) * zi (enu D e)
theorem z_codeOf {D : zE} {u : xS} (hO : eOK D) (hu : cE D u) {e : Nat} (he : e < en D) : m_History_codeOf (zi e) u = some (ecode D e) := by
  have hn := hO.n
  unfold m_History_codeOf
  rw [zg (zin (by omega) (by omega)), zi_nat (by omega), hu.si he, hu.nu he]; rfl
def eL (D : zE) (s : Int64) : List Nat := (eids D).filter (zm s ·)
theorem eids_nodup {D : zE} : (eids D).Pairwise (· ≠ ·) := eids_sorted.imp fun {a b} h q => by
  subst q; unfold elt at h; omega
theorem eL_mem {D : zE} (hO : eOK D) {s : Int64} {e : Nat} : e ∈ eL D s ↔ e < en D ∧ zm s e := by
  unfold eL; rw [List.mem_filter, eids_mem hO]
theorem zfilter_cons {L t : List Nat} {P : Nat → Bool} {e : Nat} (hd : L.Pairwise (· ≠ ·)) (h : L.filter P = e :: t) : L.filter (fun x => P x && x != e) = t := by
  have h1 : L.filter (fun x => P x && x != e) = (L.filter P).filter (fun x => x != e) := by
    rw [List.filter_filter]; congr 1; funext x; exact Bool.and_comm _ _
  have h2 : (e :: t).Pairwise (· ≠ ·) := h ▸ hd.filter P
  rw [h1, h, List.filter_cons]
  simp only [bne_self_eq_false, Bool.false_eq_true, if_false]
  rw [List.filter_eq_self]
  intro a ha
  have := (List.pairwise_cons.mp h2).1 a ha
  simp only [bne_iff_ne]
  exact fun q => this q.symm
theorem eL_tail {D : zE} (hO : eOK D) {s : Int64} {e : Nat} {t : List Nat} (h : eL D s = e :: t) : eL D (s &&& (zbit e ^^^ (-1 : Int64))) = t := by
  have hn := hO.n
  have he : e ∈ eL D s := by rw [h]; exact List.mem_cons_self
  have he := (eL_mem hO).mp he
  rw [← zfilter_cons eids_nodup h]
  unfold eL
  congr 1
  funext x
  apply zbe
  rw [zm_diff, zm_bit (by omega), Bool.and_eq_true, bne_iff_ne]
theorem eL_find {D : zE} {s : Int64} : (eids D).find? (zm s ·) = (eL D s).head? := by
  unfold eL; rw [List.head?_filter]
theorem eL_len {D : zE} (hO : eOK D) (s : Int64) : (eL D s).length ≤ 40 := by
  have h : ∀ L : List Nat, L.Pairwise (· ≠ ·) → (∀ x ∈ L, x < 40) → L.length ≤ 40 := by
    intro L h1 h2
    have := List.Nodup.length_le_of_subset (l₁ := L) (l₂ := List.range 40) h1 (fun x hx => List.mem_range.mpr (h2 x hx))
    rw [List.length_range] at this
    exact this
  have hn := hO.n
  exact h _ (eids_nodup.filter _) (fun x hx => by have := ((eL_mem hO).mp hx).1; omega)
def ehd (D : zE) (L : List Nat) (k : Nat) : Int32 := match L[k]? with
  | some e => ecode D e
  | none => -1000
theorem z_head_loop {D : zE} {u : xS} (hO : eOK D) (hu : cE D u) {k : Nat} (hk : k < 2147483648) : ∀ (L : List Nat) (s : Int64) (p fu : Nat), eL D s = L → p ≤ k → L.length < fu → m_Text_head_l45 fu (zi k) s (zo L.head?) (zi p) u = some (ehd D L (k - p)) := by
  have hn := hO.n
  intro L
  induction L with
  | nil =>
    intro s p fu hL hp hf
    obtain ⟨g, rfl⟩ : ∃ g, fu = g + 1 := ⟨fu - 1, by omega⟩
    show m_Text_head_s45 _ _ _ _ _ _ = _
    unfold m_Text_head_s45 m_Text_head_b85
    rw [List.head?_nil, zo_none, if_pos rfl, if_pos rfl, ite_self]; rfl
  | cons e t ih =>
    intro s p fu hL hp hf
    obtain ⟨g, rfl⟩ : ∃ g, fu = g + 1 := ⟨fu - 1, by omega⟩
    show m_Text_head_s45 _ _ _ _ _ _ = _
    unfold m_Text_head_s45 m_Text_head_b85
    have he : e ∈ eL D s := by rw [hL]; exact List.mem_cons_self
    have he := (eL_mem hO).mp he
    rw [List.head?_cons, zo_some, if_neg (zne_m1 (by omega)), if_neg (zne_m1 (by omega)), zb1 (z_codeOf hO hu he.1), zb1 (z_bit e), zb1 (z_leastOf hO hu _), zsucc, eL_find, eL_tail hO hL]
    by_cases q : k ≤ p
    · rw [if_pos ((zle hk (by omega)).mpr q), show k - p = 0 from by omega]; rfl
    · rw [if_neg (fun z => q ((zle hk (by omega)).mp z)), ih _ (p + 1) g (eL_tail hO hL) (by omega) (by rw [List.length_cons] at hf; omega)]
      unfold ehd
      rw [show k - p = (k - (p + 1)) + 1 from by omega, List.getElem?_cons_succ]
theorem z_mhead_in {D : zE} {v : xS} (hO : eOK D) (hv : mE D v) {s : Int64} {k : Nat} (hk : k < 2147483648) {c : Nat} (hc : c < 3) (K : Int32 → Int64 → Int32 → Int32 → xS → Option Int32) :
    ∀ d q fu p, q + d = en D → d < fu → p ≤ k → p ≤ 40 + q → m_Model_head_l41 K fu (zi k) s (zi p) (zi c) (zi q) v = match ((eis D c q).filter (zm s ·))[k - p]? with
      | some e => some (ecode D e)
      | none => K (zi k) s (zi (p + ((eis D c q).filter (zm s ·)).length)) (zi (c + 1)) v := by
  have hn := hO.n
  intro d
  induction d with
  | zero =>
    intro q fu p hq hf hp _
    obtain ⟨g, rfl⟩ : ∃ g, fu = g + 1 := ⟨fu - 1, by omega⟩
    show m_Model_head_s41 _ _ _ _ _ _ _ _ = _
    unfold m_Model_head_s41
    rw [hv.n, if_pos (zle_n (by omega) (by omega) (by omega)), eis_end (by omega), zsucc]; rfl
  | succ d ih =>
    intro q fu p hq hf hp hp2
    obtain ⟨g, rfl⟩ : ∃ g, fu = g + 1 := ⟨fu - 1, by omega⟩
    show m_Model_head_s41 _ _ _ _ _ _ _ _ = _
    unfold m_Model_head_s41
    have hqn : q < en D := by omega
    have hs3 := hO.si hqn
    rw [hv.n, if_neg (zle_nn (by omega) (by omega) hqn), zg (zin (by omega) (by omega)), zi_nat (by omega), hv.si hqn, hv.nu hqn, zb1 (z_in (by omega)), zsucc, zsucc, eis_step hqn]
    by_cases z : esi D q = c
    · rw [if_pos (by rw [z]), if_pos z, List.filter_cons]
      cases h : zm s q with
      | false =>
        rw [if_pos (zb_eq0.mpr (by simp))]
        exact ih (q + 1) g p (by omega) (by omega) hp (by omega)
      | true =>
        rw [if_neg (fun y => (zb_eq0.mp y) rfl), if_pos rfl]
        by_cases y : p = k
        · subst y
          rw [if_pos rfl, Nat.sub_self, List.getElem?_cons_zero]
          show _ = some (zi (esi D q) + (3 : Int32) * zi (enu D q))
          rw [z]
        · rw [if_neg (fun x => y ((zeq (by omega) hk).mp x)), ih (q + 1) g (p + 1) (by omega) (by omega) (by omega) (by omega)]
          rw [show k - p = (k - (p + 1)) + 1 from by omega, List.getElem?_cons_succ, List.length_cons, show p + 1 + ((eis D c (q + 1)).filter (zm s ·)).length = p + (((eis D c (q + 1)).filter (zm s ·)).length + 1) from by omega]
    · rw [if_neg (fun y => z ((zeq (by omega) (by omega)).mp y)), if_neg z]
      exact ih (q + 1) g p (by omega) (by omega) hp (by omega)
theorem zgetapp {A B : List Nat} {i : Nat} : (A ++ B)[i]? = match A[i]? with
    | some e => some e
    | none => B[i - A.length]? := by
  by_cases h : i < A.length
  · rw [List.getElem?_append_left h, List.getElem?_eq_getElem h]
  · have h2 : A[i]? = none := List.getElem?_eq_none (by omega)
    rw [List.getElem?_append_right (by omega), h2]
theorem z_mhead_out {D : zE} {v : xS} (hO : eOK D) (hv : mE D v) {s : Int64} {k : Nat} (hk : k < 2147483648) :
    ∀ d fu p, d ≤ 3 → d < fu → p ≤ k → p + ((efr D d).filter (zm s ·)).length ≤ 40 → m_Model_head_l32 fu (zi k) s (zi p) (zi (3 - d)) v = some (ehd D ((efr D d).filter (zm s ·)) (k - p)) := by
  have hn := hO.n
  intro d
  induction d with
  | zero =>
    intro fu p _ hf _ _
    obtain ⟨g, rfl⟩ : ∃ g, fu = g + 1 := ⟨fu - 1, by omega⟩
    show m_Model_head_s32 _ _ _ _ _ _ = _
    unfold m_Model_head_s32
    rw [if_pos (show (3 : Int32) ≤ zi (3 - 0) from by decide)]; rfl
  | succ d ih =>
    intro fu p hd hf hp hb
    obtain ⟨g, rfl⟩ : ∃ g, fu = g + 1 := ⟨fu - 1, by omega⟩
    show m_Model_head_s32 _ _ _ _ _ _ = _
    unfold m_Model_head_s32
    rw [if_neg (show ¬ (3 : Int32) ≤ zi (3 - (d + 1)) from zle_nn (b := 3) (by omega) (by omega) (by omega))]
    rw [show (0 : Int32) = zi 0 from rfl, z_mhead_in hO hv hk (by omega) _ (en D) 0 xFU p (by omega) (by unfold xFU; omega) hp (by omega)]
    have e1 : efr D (d + 1) = eis D (2 - d) 0 ++ efr D d := rfl
    rw [e1, List.filter_append, List.length_append] at hb
    rw [e1, List.filter_append]
    unfold ehd
    rw [show 3 - (d + 1) = 2 - d from by omega, zgetapp]
    cases h : ((eis D (2 - d) 0).filter (zm s ·))[k - p]? with
    | some e => rfl
    | none =>
      have hlen : ((eis D (2 - d) 0).filter (zm s ·)).length ≤ k - p := List.getElem?_eq_none_iff.mp h
      rw [show 2 - d + 1 = 3 - d from by omega]
      show m_Model_head_l32 g (zi k) s _ (zi (3 - d)) v = _
      rw [ih g _ (by omega) (by omega) (by omega) (by omega)]
      unfold ehd
      rw [show k - (p + ((eis D (2 - d) 0).filter (zm s ·)).length) = k - p - ((eis D (2 - d) 0).filter (zm s ·)).length from by omega]
theorem q_head {D : zE} {u v : xS} (hO : eOK D) (hu : cE D u) (hv : mE D v) (hS : zS D u v) (r a : Int32) : ∃ x, m_Text_head r a u = some x ∧ m_Model_head r a v = some x := by
  have hn := hO.n
  unfold m_Text_head m_Model_head
  rcases z_site r with ⟨k, hk, rfl, h1, h2⟩ | ⟨h1, h2⟩
  · rw [zb1 h1, zb1 h2, if_neg (by decide), if_pos rfl]
    by_cases h : 0 ≤ a
    · have hq0 : ¬ a < 0 := by rw [Int32.lt_iff_toInt_lt]; rw [Int32.le_iff_toInt_le] at h; omega
      obtain ⟨q, hq, rfl⟩ := z_of_nn hq0
      obtain ⟨t, t1, t2, t3⟩ := z_heads hO hu hv (hS.gc hk)
      rw [if_pos h, if_pos h, zg (zin hk (by omega)), zg (zin hk (by omega)), zi_nat (by omega), hS.g hk, zb1 t1, zb1 t2, zb1 (z_leastOf hO hu _), eL_find]
      have hl := eL_len hO t
      have := z_head_loop hO hu hq (eL D t) t 0 xFU rfl (by omega) (by unfold xFU; omega)
      have m := z_mhead_out hO hv (s := t) hq 3 xFU 0 (by omega) (by decide) (by omega) (by rw [Nat.zero_add]; exact hl)
      exact ⟨_, this, m⟩
    · rw [if_neg h, if_neg h]; exact ⟨_, rfl, rfl⟩
  · rw [zb1 h1, zb1 h2, if_pos rfl, if_neg (by decide)]
    exact ⟨_, rfl, rfl⟩
theorem ecnt_surj {D : zE} {r i : Nat} : ∀ {n : Nat}, i < ecnt D r n → ∃ e, e < n ∧ esi D e = r ∧ ecnt D r e = i := by
  intro n
  induction n with
  | zero => intro h; exact absurd h (Nat.not_lt_zero _)
  | succ n ih =>
    intro h
    by_cases q : i < ecnt D r n
    · obtain ⟨e, h1, h2⟩ := ih q
      exact ⟨e, by omega, h2⟩
    · have h : i < ecnt D r n + if esi D n = r then 1 else 0 := h
      by_cases z : esi D n = r
      · rw [if_pos z] at h
        exact ⟨n, by omega, z, by omega⟩
      · rw [if_neg z] at h
        omega
def eId (D : zE) (a i : Int32) (e : Nat) : Prop := e < en D ∧ zi (esi D e) = a ∧ zi (enu D e) = i
theorem z_find {D : zE} {v : xS} (hO : eOK D) (hv : mE D v) (a i : Int32) : (∃ e, eId D a i e ∧ m_Model_find a i v = some (zi e)) ∨ ((∀ e, ¬ eId D a i e) ∧ m_Model_find a i v = some (-1)) := by
  have hn := hO.n
  refine zinv (fun fu (_ : Unit) k => m_Model_find_l2 fu a i (zi k) v) (en D) (fun k _ => ∀ e, e < k → ¬ eId D a i e) (fun o => (∃ e, eId D a i e ∧ o = some (zi e)) ∨ ((∀ e, ¬ eId D a i e) ∧ o = some (-1))) ?_ ?_ (en D) 0 xFU () (by omega) (by unfold xFU; omega) ?_
  · intro fu _ hI
    refine Or.inr ⟨fun e he => hI e he.1 he, ?_⟩
    show m_Model_find_s2 _ _ _ _ _ = _
    unfold m_Model_find_s2
    rw [hv.n, if_pos (zle_n (by omega) (by omega) (Nat.le_refl _))]
  · intro fu _ k hk hI
    show (∃ a', _ ∧ m_Model_find_s2 _ _ _ _ _ = _) ∨ (∃ e, _ ∧ m_Model_find_s2 _ _ _ _ _ = _) ∨ _ ∧ m_Model_find_s2 _ _ _ _ _ = _
    unfold m_Model_find_s2
    rw [hv.n, if_neg (zle_nn (by omega) (by omega) hk), zg (zin (by omega) (by omega)), zi_nat (by omega), hv.si hk, hv.nu hk, zsucc]
    have ext : ¬ eId D a i k → ∀ e, e < k + 1 → ¬ eId D a i e := by
      intro hq e he
      by_cases z : e = k
      · subst z; exact hq
      · exact hI e (by omega)
    by_cases h1 : zi (esi D k) = a
    · rw [if_pos h1]
      by_cases h2 : zi (enu D k) = i
      · rw [if_pos h2]
        exact Or.inr (Or.inl ⟨k, ⟨hk, h1, h2⟩, rfl⟩)
      · rw [if_neg h2]
        exact Or.inl ⟨(), ext (fun q => h2 q.2.2), rfl⟩
    · rw [if_neg h1]
      exact Or.inl ⟨(), ext (fun q => h1 q.2.1), rfl⟩
  · exact fun e he => absurd he (Nat.not_lt_zero _)
theorem eId_un {D : zE} (hO : eOK D) {a i : Int32} {e f : Nat} (he : eId D a i e) (hf : eId D a i f) : e = f := by
  have h1 := hO.si he.1
  have h2 := hO.si hf.1
  have h3 := hO.nu40 he.1
  have h4 := hO.nu40 hf.1
  have h5 : esi D e = esi D f := (zeq (by omega) (by omega)).mp (he.2.1.trans hf.2.1.symm)
  have h6 : enu D e = enu D f := (zeq (by omega) (by omega)).mp (he.2.2.trans hf.2.2.symm)
  have a1 := enu_lt hO he.1 hf.1 h5
  have a2 := enu_lt hO hf.1 he.1 h5.symm
  omega
theorem z_wasMade {D : zE} {u : xS} (hO : eOK D) (hu : cE D u) (a i : Int32) : (∃ e, eId D a i e ∧ m_History_wasMade a i u = some 1 ∧ m_History_slotOf a i u = some (zi e)) ∨ ((∀ e, ¬ eId D a i e) ∧ m_History_wasMade a i u = some 0) := by
  have hn := hO.n
  unfold m_History_wasMade m_History_slotOf
  rcases z_site a with ⟨k, hk, rfl, h1, _⟩ | ⟨h1, _⟩
  · rw [zb1 h1, if_neg (by decide)]
    have hm := ecnt_le D k (en D)
    by_cases h : i < 0
    · rw [if_pos h]
      refine Or.inr ⟨fun e he => ?_, rfl⟩
      have := hO.nu40 he.1
      rw [← he.2.2] at h
      exact znn (by omega) h
    · obtain ⟨q, hq, rfl⟩ := z_of_nn h
      rw [if_neg h, zg (zin hk (by omega)), zi_nat (by omega), hu.ma hk]
      by_cases z : q < ecnt D k (en D)
      · rw [if_neg (fun y => absurd ((zle (by omega) hq).mp y) (by omega))]
        obtain ⟨e, e1, e2, e3⟩ := ecnt_surj z
        have e4 : enu D e = q := by rw [hO.nu e1, e2, e3]
        refine Or.inl ⟨e, ⟨e1, by rw [e2], by rw [e4]⟩, rfl, ?_⟩
        rw [show (40 : Int32) = zi 40 from rfl, zmul, zadd, zg (zin (by omega) (by omega)), zi_nat (by omega)]
        have := hu.sl e1
        rw [e2, e4] at this
        rw [this]
      · rw [if_pos ((zle (by omega) hq).mpr (by omega))]
        refine Or.inr ⟨fun e he => ?_, rfl⟩
        have a1 := hO.si he.1
        have a2 := hO.nu40 he.1
        have b1 : esi D e = k := (zeq (by omega) (by omega)).mp he.2.1
        have b2 : enu D e = q := (zeq (by omega) (by omega)).mp he.2.2
        have b3 := hO.nu he.1
        have b4 : ecnt D k (e + 1) = ecnt D k e + 1 := by
          show _ + _ = _
          rw [if_pos b1]
        have b5 := ecnt_mono D k (show e + 1 ≤ en D from he.1)
        rw [b1] at b3
        omega
  · rw [zb1 h1, if_pos rfl]
    refine Or.inr ⟨fun e he => ?_, rfl⟩
    have a1 := hO.si he.1
    rw [← he.2.1] at h1
    unfold m_Text_isSite at h1
    rw [if_neg (znn (by omega)), if_neg (show ¬ (3 : Int32) ≤ zi (esi D e) from zle_nn (b := 3) (by omega) (by omega) a1)] at h1
    exact absurd h1 (by decide)
theorem q_ancestor {D : zE} {u v : xS} (hO : eOK D) (hu : cE D u) (hv : mE D v) (a i b j : Int32) : ∃ x, m_Text_ancestor a i b j u = some x ∧ m_Model_ancestor a i b j v = some x := by
  have hn := hO.n
  unfold m_Text_ancestor m_Model_ancestor
  rcases z_wasMade hO hu a i with ⟨e, he, h1, h2⟩ | ⟨h0, h1⟩
  · rcases z_find hO hv a i with ⟨e2, he2, g1⟩ | ⟨g0, _⟩
    · have := eId_un hO he2 he
      subst this
      have hen := he.1
      rw [zb1 h1, if_neg (by decide), zb1 g1]
      rcases z_wasMade hO hu b j with ⟨f, hf, k1, k2⟩ | ⟨k0, k1⟩
      · rcases z_find hO hv b j with ⟨f2, hf2, m1⟩ | ⟨m0, _⟩
        · have := eId_un hO hf2 hf
          subst this
          have hfn := hf.1
          have hanc : m_History_ancestorsOf (zi f2) u = some (ean D f2) := by
            unfold m_History_ancestorsOf
            rw [zg (zin (by omega) (by omega)), zi_nat (by omega), hu.an hfn]
          rw [zb1 k1, if_neg (by decide), zb1 m1, zb1 k2, zb1 hanc, zb1 h2, zb1 (z_has (by omega)), if_neg (znn (by omega)), if_pos (zge0 (by omega)), zg (zin (by omega) (by omega)), zi_nat (by omega), hv.an hfn, zb1 (z_in (by omega))]
          by_cases hq : zb (zm (ean D f2) e2) = 0
          · rw [if_pos hq]; exact ⟨_, rfl, rfl⟩
          · rw [if_neg hq]; exact ⟨_, rfl, rfl⟩
        · exact absurd hf (m0 f)
      · rcases z_find hO hv b j with ⟨f2, hf2, m1⟩ | ⟨m0, m1⟩
        · exact absurd hf2 (k0 f2)
        · rw [zb1 k1, if_pos rfl, zb1 m1, if_neg (znn (by omega)), if_neg (by decide)]
          exact ⟨_, rfl, rfl⟩
    · exact absurd he (g0 e)
  · rw [zb1 h1, if_pos rfl]
    rcases z_find hO hv a i with ⟨e2, he2, g1⟩ | ⟨g0, g1⟩
    · exact absurd he2 (h0 e2)
    · rw [zb1 g1]
      rcases z_find hO hv b j with ⟨f2, hf2, m1⟩ | ⟨m0, m1⟩
      · rw [zb1 m1, if_pos zm1_lt]; exact ⟨_, rfl, rfl⟩
      · rw [zb1 m1, if_pos zm1_lt]; exact ⟨_, rfl, rfl⟩
