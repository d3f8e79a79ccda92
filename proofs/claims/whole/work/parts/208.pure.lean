theorem z_site (r : Int32) : (∃ k, k < 3 ∧ r = zi k ∧ m_Text_isSite r = some 1 ∧ m_Model_wrong r = some 0) ∨ (m_Text_isSite r = some 0 ∧ m_Model_wrong r = some 1) := by
  unfold m_Text_isSite m_Model_wrong
  by_cases h : r < 0
  · rw [if_pos h, if_pos h]; exact Or.inr ⟨rfl, rfl⟩
  · obtain ⟨k, hk, rfl⟩ := z_of_nn h
    rw [if_neg h, if_neg h]
    by_cases q : k < 3
    · rw [if_neg (show ¬ (3 : Int32) ≤ zi k from zle_nn (b := 3) (by omega) (by omega) q), if_pos (show zi k ≤ (2 : Int32) from zle_n (a := 2) (by omega) (by omega) (by omega))]
      exact Or.inl ⟨k, q, rfl, rfl, rfl⟩
    · rw [if_pos (show (3 : Int32) ≤ zi k from (zle (a := 3) (by omega) hk).mpr (by omega)), if_neg (show ¬ zi k ≤ (2 : Int32) from fun z => absurd ((zle (b := 2) hk (by omega)).mp z) (by omega))]
      exact Or.inr ⟨rfl, rfl⟩
theorem z_pair (a b : Int32) : (∃ i j, i < 3 ∧ j < 3 ∧ i ≠ j ∧ a = zi i ∧ b = zi j ∧ m_Text_areTwoSites a b = some 1 ∧ m_Model_wrongPair a b = some 0) ∨ (m_Text_areTwoSites a b = some 0 ∧ m_Model_wrongPair a b = some 1) := by
  unfold m_Text_areTwoSites m_Model_wrongPair
  rcases z_site a with ⟨i, hi, rfl, h1, h2⟩ | ⟨h1, h2⟩
  · rw [zb1 h1, zb1 h2, if_neg (by decide), if_pos rfl]
    rcases z_site b with ⟨j, hj, rfl, h3, h4⟩ | ⟨h3, h4⟩
    · rw [zb1 h3, zb1 h4, if_neg (by decide), if_pos rfl]
      by_cases q : i = j
      · rw [if_pos (by rw [q]), if_pos (by rw [q])]; exact Or.inr ⟨rfl, rfl⟩
      · rw [if_neg (fun z => q ((zeq (by omega) (by omega)).mp z)), if_neg (fun z => q ((zeq (by omega) (by omega)).mp z))]
        exact Or.inl ⟨i, j, hi, hj, q, rfl, rfl, rfl, rfl⟩
    · rw [zb1 h3, zb1 h4, if_pos rfl, if_neg (by decide)]; exact Or.inr ⟨rfl, rfl⟩
  · rw [zb1 h1, zb1 h2, if_pos rfl, if_neg (by decide)]; exact Or.inr ⟨rfl, rfl⟩
def zS (D : zE) (u v : xS) : Prop := (∀ r, r < 3 → xs_L v 2 r = xs_l u (2 + r) ∧ zbel (en D) (xs_l u (2 + r)) ∧ zcl D (xs_l u (2 + r)) ∧ ∀ e, e < en D → esi D e = r → zm (xs_l u (2 + r)) e) ∧ (∀ a b, a < 3 → b < 3 → xs_L v 3 (3 * a + b) = xs_L u (3 + a) b ∧ ∀ x, zm (xs_L u (3 + a) b) x → zm (xs_l u (2 + a)) x)
theorem zS.g {D : zE} {u v : xS} (h : zS D u v) {r : Nat} (hr : r < 3) : xs_L v 2 r = xs_l u (2 + r) := (h.1 r hr).1
theorem zS.gb {D : zE} {u v : xS} (h : zS D u v) {r : Nat} (hr : r < 3) : zbel (en D) (xs_l u (2 + r)) := (h.1 r hr).2.1
theorem zS.gc {D : zE} {u v : xS} (h : zS D u v) {r : Nat} (hr : r < 3) : zcl D (xs_l u (2 + r)) := (h.1 r hr).2.2.1
theorem zS.own {D : zE} {u v : xS} (h : zS D u v) {r : Nat} (hr : r < 3) {e : Nat} (he : e < en D) (hs : esi D e = r) : zm (xs_l u (2 + r)) e := (h.1 r hr).2.2.2 e he hs
theorem zS.t {D : zE} {u v : xS} (h : zS D u v) {a b : Nat} (ha : a < 3) (hb : b < 3) : xs_L v 3 (3 * a + b) = xs_L u (3 + a) b := (h.2 a b ha hb).1
theorem zS.tg {D : zE} {u v : xS} (h : zS D u v) {a b : Nat} (ha : a < 3) (hb : b < 3) : ∀ x, zm (xs_L u (3 + a) b) x → zm (xs_l u (2 + a)) x := (h.2 a b ha hb).2
def zMg (u v : xS) : Prop := ∀ r, r < 3 → xs_I v 11 r = xs_i u (6 + r) ∧ xs_I v 12 r = xs_i u (9 + r) ∧ ∃ p, p ≤ 40 ∧ xs_i u (3 + r) = zi p ∧ xs_I v 13 r = zi p ∧ ∀ k, k < p → xs_I v 14 (40 * r + k) = xs_I u (11 + r) k
theorem z3ab {i j : Nat} (hi : i < 3) (hj : j < 3) : (3 : Int32) * zi i + zi j = zi (3 * i + j) := by
  rw [show (3 : Int32) = zi 3 from rfl, zmul, zadd]
theorem q_events {D : zE} {u v : xS} (hO : eOK D) (hS : zS D u v) (r : Int32) : ∃ x, m_Text_events r u = some x ∧ m_Model_events r v = some x := by
  have hn := hO.n
  unfold m_Text_events m_Model_events
  rcases z_site r with ⟨k, hk, rfl, h1, h2⟩ | ⟨h1, h2⟩
  · rw [zb1 h1, zb1 h2, if_neg (by decide), if_pos rfl, zg (zin hk (by omega)), zg (zin hk (by omega)), zi_nat (by omega), hS.g hk, zb1 (z_count hn (hS.gb hk)), zb1 (z_many _)]
    exact ⟨_, rfl, rfl⟩
  · rw [zb1 h1, zb1 h2, if_pos rfl, if_neg (by decide)]
    exact ⟨_, rfl, rfl⟩
theorem q_heads {D : zE} {u v : xS} (hO : eOK D) (hu : cE D u) (hv : mE D v) (hS : zS D u v) (r : Int32) : ∃ x, m_Text_heads r u = some x ∧ m_Model_heads r v = some x := by
  have hn := hO.n
  unfold m_Text_heads m_Model_heads
  rcases z_site r with ⟨k, hk, rfl, h1, h2⟩ | ⟨h1, h2⟩
  · obtain ⟨t, t1, t2, t3⟩ := z_heads hO hu hv (hS.gc hk)
    rw [zb1 h1, zb1 h2, if_neg (by decide), if_pos rfl, zg (zin hk (by omega)), zg (zin hk (by omega)), zi_nat (by omega), hS.g hk, zb1 t1, zb1 t2, zb1 (z_count hn (fun x hx => hS.gb hk x ((t3 x).mp hx).1)), zb1 (z_many _)]
    exact ⟨_, rfl, rfl⟩
  · rw [zb1 h1, zb1 h2, if_pos rfl, if_neg (by decide)]
    exact ⟨_, rfl, rfl⟩
theorem q_believed {D : zE} {u v : xS} (hO : eOK D) (hS : zS D u v) (a b : Int32) : ∃ x, m_Text_believed a b u = some x ∧ m_Model_believed a b v = some x := by
  have hn := hO.n
  unfold m_Text_believed m_Model_believed
  rcases z_pair a b with ⟨i, j, hi, hj, _, rfl, rfl, h1, h2⟩ | ⟨h1, h2⟩
  · rw [zb1 h1, zb1 h2, if_neg (by decide), if_pos rfl, zg (zin hi (by omega)), zg (zin hj (by omega)), z3ab hi hj, zg (zin (by omega) (by omega)), zi_nat (by omega), zi_nat (by omega), zi_nat (by omega), hS.t hi hj, zb1 (z_count hn (fun x hx => hS.gb hi x (hS.tg hi hj x hx))), zb1 (z_many _)]
    exact ⟨_, rfl, rfl⟩
  · rw [zb1 h1, zb1 h2, if_pos rfl, if_neg (by decide)]
    exact ⟨_, rfl, rfl⟩
theorem zupTo_count {D : zE} (hO : eOK D) {e : Nat} (he : e < en D) : m_Long_bitCount (ean D e ||| zbit e) = some ((1 : Int32) + zi (zc 40 (ean D e))) := by
  have hn := hO.n
  have h2 : zc 40 (ean D e ||| zbit e) = zc 40 (ean D e) + 1 := zc_ins (e := e) (by omega) (fun q => absurd (hO.sub he e q) (by omega)) (fun x => by rw [zm_or, zm_bit (by omega)])
  rw [z_count hn (fun x hx => ?_), h2, show (1 : Int32) = zi 1 from rfl, zadd, Nat.add_comm]
  rcases zm_or.mp hx with q | q
  · have := hO.sub he x q; omega
  · rw [zm_bit (by omega)] at q; omega
theorem q_critical {D : zE} {u v : xS} (hO : eOK D) (hu : cE D u) (hv : mE D v) (hS : zS D u v) (r : Int32) : ∃ x, m_Text_critical r u = some x ∧ m_Model_critical r v = some x := by
  have hn := hO.n
  unfold m_Text_critical m_Model_critical
  rcases z_site r with ⟨k, hk, rfl, h1, h2⟩ | ⟨h1, h2⟩
  · rw [zb1 h1, zb1 h2, if_neg (by decide), if_pos rfl, zg (zin hk (by omega)), zg (zin hk (by omega)), zi_nat (by omega), hS.g hk, zb1 (z_lastCritical hO hu (hS.gb hk)), zb1 (z_top hO hv (hS.gb hk) (fun _ h => h))]
    cases h : elast D (xs_l u (2 + k)) (xs_l u (2 + k)) (en D) with
    | none =>
      rw [zo_none, zb1 z_upTo_none, z_bitCount, zc_zero, if_neg (by decide)]
      exact ⟨_, rfl, rfl⟩
    | some e =>
      have he := elast_lt h
      rw [zo_some, zb1 (z_upTo hO hu he.1), zb1 (zupTo_count hO he.1), if_pos (zge0 (by omega)), zg (zin (by omega) (by omega)), zi_nat (by omega), hv.an he.1, zb1 (z_many _)]
      exact ⟨_, rfl, rfl⟩
  · rw [zb1 h1, zb1 h2, if_pos rfl, if_neg (by decide)]
    exact ⟨_, rfl, rfl⟩
theorem q_replayed {u v : xS} (hM : zMg u v) (r : Int32) : ∃ x, m_Text_replayed r u = some x ∧ m_Model_replayed r v = some x := by
  unfold m_Text_replayed m_Model_replayed
  rcases z_site r with ⟨k, hk, rfl, h1, h2⟩ | ⟨h1, h2⟩
  · rw [zb1 h1, zb1 h2, if_neg (by decide), if_pos rfl, zg (zin hk (by omega)), zg (zin hk (by omega)), zi_nat (by omega), (hM k hk).1]
    exact ⟨_, rfl, rfl⟩
  · rw [zb1 h1, zb1 h2, if_pos rfl, if_neg (by decide)]
    exact ⟨_, rfl, rfl⟩
theorem q_moves {u v : xS} (hM : zMg u v) (r : Int32) : ∃ x, m_Text_moves r u = some x ∧ m_Model_moves r v = some x := by
  unfold m_Text_moves m_Model_moves
  rcases z_site r with ⟨k, hk, rfl, h1, h2⟩ | ⟨h1, h2⟩
  · rw [zb1 h1, zb1 h2, if_neg (by decide), if_pos rfl, zg (zin hk (by omega)), zg (zin hk (by omega)), zi_nat (by omega), (hM k hk).2.1]
    exact ⟨_, rfl, rfl⟩
  · rw [zb1 h1, zb1 h2, if_pos rfl, if_neg (by decide)]
    exact ⟨_, rfl, rfl⟩
