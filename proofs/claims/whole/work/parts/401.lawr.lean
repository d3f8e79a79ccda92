theorem xgl0 {g : Cond} (h : g ∈ xG) : GoodIn xG (g :: xG) := fun w hw => by
  rcases List.mem_cons.mp hw with rfl | hw
  · exact ⟨h, xG_good _ h⟩
  · exact ⟨hw, xG_good _ hw⟩
theorem xgl1 {g : Cond} {ws : List Cond} (h : ∀ w ∈ ws, w ∈ xG) (hg : g ∈ xG) : GoodIn xG (ws ++ (g :: xG)) := fun w hw => by
  rcases List.mem_append.mp hw with hw | hw
  · exact ⟨h w hw, xG_good _ (h w hw)⟩
  · exact xgl0 hg w hw
theorem xglV {g : Cond} {own C : String} {idx : Nat} {y : MethodName} (h1 : Cond.methodLink own idx y ∈ xG) (h2 : Cond.instanceMethod y ∈ xG) (h3 : Cond.selects C y y ∈ xG) (h4 : Cond.initialized C ∈ xG) (h5 : g ∈ xG) : GoodIn xG (wsV own idx C y (g :: xG)) :=
  xgl1 (ws := [.methodLink own idx y, .instanceMethod y, .selects C y y, .initialized C]) (List.forall_mem_cons.mpr ⟨h1, List.forall_mem_cons.mpr ⟨h2, List.forall_mem_cons.mpr ⟨h3, List.forall_mem_cons.mpr ⟨h4, fun _ h => absurd h List.not_mem_nil⟩⟩⟩⟩) h5
theorem xad {ws : va_W} {N : Nat} {ad : Nat → Nat} (h : ws.map Prod.fst = (List.range N).map ad) {k : Nat} {q : Nat × va_E} (hq : ws[k]? = some q) : k < N ∧ q.1 = ad k := by
  have h1 : (ws.map Prod.fst)[k]? = some q.1 := by rw [List.getElem?_map, hq]; rfl
  rw [h, List.getElem?_map] at h1
  by_cases hk : k < N
  · rw [List.getElem?_range hk] at h1
    exact ⟨hk, (Option.some.inj h1).symm⟩
  · rw [List.getElem?_eq_none (by rw [List.length_range]; omega)] at h1
    cases h1
theorem cW_ad {dT : Nat → ClassId} {ad : Nat → Nat} {u : xS} : (cW dT ad u).map Prod.fst = (List.range 50).map ad := rfl
theorem mW_ad {dT : Nat → ClassId} {ad : Nat → Nat} {u : xS} : (mW dT ad u).map Prod.fst = (List.range 23).map ad := rfl
theorem xP_l {D : va_G} {cl : List vw_C} {w1 w2 : va_W} {H : Heap} (h : va_P D cl (w1 ++ w2) H) : va_P D cl w1 H := fun k q hq => h k q (by rw [List.getElem?_append_left (List.getElem?_eq_some_iff.mp hq).1]; exact hq)
theorem xP_r {D : va_G} {cl : List vw_C} {w1 w2 : va_W} {H : Heap} (h : va_P D cl (w1 ++ w2) H) : va_P D cl w2 H := fun k q hq => h (w1.length + k) q (by rw [List.getElem?_append_right (by omega), Nat.add_sub_cancel_left]; exact hq)
theorem xD_l {A : Nat → Prop} {w1 w2 : va_W} (h : va_D A (w1 ++ w2)) : va_D A w1 := by
  have e : ∀ {k : Nat} {q : Nat × va_E}, w1[k]? = some q → (w1 ++ w2)[k]? = some q := fun hq => by rw [List.getElem?_append_left (List.getElem?_eq_some_iff.mp hq).1]; exact hq
  exact ⟨fun i j p q hi hj => h.1 i j p q (e hi) (e hj), fun k q hk => h.2 k q (e hk)⟩
theorem xD_r {A : Nat → Prop} {w1 w2 : va_W} (h : va_D A (w1 ++ w2)) : va_D A w2 := by
  have e : ∀ {k : Nat} {q : Nat × va_E}, w2[k]? = some q → (w1 ++ w2)[w1.length + k]? = some q := fun hq => by rw [List.getElem?_append_right (by omega), Nat.add_sub_cancel_left]; exact hq
  exact ⟨fun i j p q hi hj hpq => by have := h.1 _ _ p q (e hi) (e hj) hpq; omega, fun k q hk => h.2 _ q (e hk)⟩
theorem xD_ap {A : Nat → Prop} {w1 w2 : va_W} (h : va_D A (w1 ++ w2)) {i j : Nat} {p q : Nat × va_E} (hi : w1[i]? = some p) (hj : w2[j]? = some q) : p.1 ≠ q.1 := fun hpq => by
  have h1 := (List.getElem?_eq_some_iff.mp hi).1
  have := h.1 i (w1.length + j) p q (by rw [List.getElem?_append_left h1]; exact hi) (by rw [List.getElem?_append_right (by omega), Nat.add_sub_cancel_left]; exact hj) hpq
  omega
theorem xD_in {A : Nat → Prop} {N : Nat} {ad : Nat → Nat} {w1 w2 : va_W} (h : va_D A w1) (h1 : w1.map Prod.fst = (List.range N).map ad) (h2 : w2.map Prod.fst = (List.range N).map ad) : va_D (xA ad N) w2 := by
  have h3 := xD_re h (h1.trans h2.symm)
  exact ⟨h3.1, fun k q hq => by
    obtain ⟨a, b⟩ := xad h2 hq
    exact ⟨k, a, b⟩⟩
section XLW
variable {p : Program} {l : Launch} {e : Env} {R : Room} {s : State} {m : MethodId} {args : Array Value} {below : List Frame} {meth : Method} {c : Code} {H : Heap} {locs : List Loc} {cells slots : Nat} {Q : State → Prop}
variable {pc : Nat} {ls : Array Slot} {rest st0 : List Value} {a : Array Value} {D : va_G} {cl : List vw_C} {w1 w2 : va_W} {A0 A1 : Nat → Prop} {H0 : Heap}
theorem xl_i {r : Int32} (hr : va_Run p l e R s m args below meth c H locs cells slots 0 0 (F0 m pc ls st0) rest (va_Qi (fun r9 (_ : Unit) => r9 = r) (fun _ _ => True) xN a) xN) (hP : va_P D cl w1 H) (hP2 : va_P D cl w2 H) (hS : va_S A0 H0 H locs)
    (kk : ∀ (H1 : Heap) (locs1 : List Loc), va_P D cl w1 H1 → va_P D cl w2 H1 → va_S A0 H0 H1 locs1 → W p l e R s m args below meth c H1 locs1 cells slots Q (F0 m (pc + 3) ls (.int r :: rest))) : W p l e R s m args below meth c H locs cells slots Q (F0 m pc ls st0) :=
  va_calli hr hS (fun _ _ h => h.elim) (fun _ h => h.elim) (fun _ _ _ H1 locs1 _ _ h _ _ hk hS1 => by subst h; exact kk H1 locs1 (xP_kept hP (fun q hq => hk q hq (fun z => z))) (xP_kept hP2 (fun q hq => hk q hq (fun z => z))) hS1)
theorem xl_iw {r : Int32} {u1 : xS} {Wd : xS → va_W} (hr : va_Run p l e R s m args below meth c H locs cells slots 0 0 (F0 m pc ls st0) rest (va_Qi (fun r9 (u9 : xS) => r9 = r ∧ u9 = u1) (fun u9 t => va_P D cl (Wd u9) t.heap) A1 a) A1) (hS : va_S A0 H0 H locs) (hA : ∀ q, A1 q → A0 q) (hP2 : va_P D cl w2 H) (hap : ∀ (k : Nat) (q : Nat × va_E), w2[k]? = some q → ¬ A1 q.1)
    (kk : ∀ (H1 : Heap) (locs1 : List Loc), va_P D cl (Wd u1) H1 → va_P D cl w2 H1 → va_S A0 H0 H1 locs1 → W p l e R s m args below meth c H1 locs1 cells slots Q (F0 m (pc + 3) ls (.int r :: rest))) : W p l e R s m args below meth c H locs cells slots Q (F0 m pc ls st0) :=
  va_calli hr hS (fun q _ h => hA q h) hA (fun _ _ t H1 locs1 ht _ h hB _ hk hS1 => by
    obtain ⟨rfl, rfl⟩ := h
    exact kk H1 locs1 (by rw [← ht]; exact hB) (hP2.kept (fun k q hq => hk q.1 (hP2 k q hq).lt (hap k q hq))) hS1)
end XLW
theorem xsw (x : Int32) : x = 0 ∨ x = 1 ∨ x = 2 ∨ x = 3 ∨ x = 4 ∨ x = 5 ∨ x = 6 ∨ x = 7 ∨ x = 8 ∨ x = 9 ∨ x = 10 ∨ x = 11 ∨ x = 12 ∨ x = 13 ∨ x = 14 ∨ x = 15 ∨ x = 16 ∨ x = 17 ∨ x = 18 ∨ (x.toInt < 0 ∨ 18 < x.toInt) := by
  have h : ∀ k : Nat, k < 19 → x.toInt = (k : Int) → x = zi k := fun k hk hx => Int32.toInt_inj.mp (by rw [hx, zi_toInt (by omega)])
  by_cases h0 : x.toInt < 0 ∨ 18 < x.toInt
  · exact Or.inr (Or.inr (Or.inr (Or.inr (Or.inr (Or.inr (Or.inr (Or.inr (Or.inr (Or.inr (Or.inr (Or.inr (Or.inr (Or.inr (Or.inr (Or.inr (Or.inr (Or.inr (Or.inr h0))))))))))))))))))
  · obtain ⟨k, hk, hx⟩ : ∃ k : Nat, k < 19 ∧ x.toInt = (k : Int) := ⟨x.toInt.toNat, by omega, by omega⟩
    have := h k hk hx
    subst this
    clear h0 hx h
    match k, hk with
    | 0, _ => exact Or.inl rfl
    | 1, _ => exact Or.inr (Or.inl rfl)
    | k + 2, hk =>
      refine Or.inr (Or.inr ?_)
      match k, hk with
      | 0, _ => exact Or.inl rfl
      | 1, _ => exact Or.inr (Or.inl rfl)
      | k + 2, hk =>
        refine Or.inr (Or.inr ?_)
        match k, hk with
        | 0, _ => exact Or.inl rfl
        | 1, _ => exact Or.inr (Or.inl rfl)
        | k + 2, hk =>
          refine Or.inr (Or.inr ?_)
          match k, hk with
          | 0, _ => exact Or.inl rfl
          | 1, _ => exact Or.inr (Or.inl rfl)
          | k + 2, hk =>
            refine Or.inr (Or.inr ?_)
            match k, hk with
            | 0, _ => exact Or.inl rfl
            | 1, _ => exact Or.inr (Or.inl rfl)
            | k + 2, hk =>
              refine Or.inr (Or.inr ?_)
              match k, hk with
              | 0, _ => exact Or.inl rfl
              | 1, _ => exact Or.inr (Or.inl rfl)
              | k + 2, hk =>
                refine Or.inr (Or.inr ?_)
                match k, hk with
                | 0, _ => exact Or.inl rfl
                | 1, _ => exact Or.inr (Or.inl rfl)
                | k + 2, hk =>
                  refine Or.inr (Or.inr ?_)
                  match k, hk with
                  | 0, _ => exact Or.inl rfl
                  | 1, _ => exact Or.inr (Or.inl rfl)
                  | k + 2, hk =>
                    refine Or.inr (Or.inr ?_)
                    match k, hk with
                    | 0, _ => exact Or.inl rfl
                    | 1, _ => exact Or.inr (Or.inl rfl)
                    | k + 2, hk =>
                      refine Or.inr (Or.inr ?_)
                      match k, hk with
                      | 0, _ => exact Or.inl rfl
                      | k + 1, hk => exact absurd hk (by omega)
theorem xlt5 {L i : Nat} (hL : L ≤ 2560) (hi : i ≤ 2565) : Int32.ofNat L - (5 : Int32) < zi i ↔ L < i + 5 := by
  have e1 : (Int32.ofNat L - (5 : Int32)).toInt = (L : Int) - 5 := by
    rw [Int32.toInt_sub, Int32.toInt_ofNat_of_lt (by omega), show (5 : Int32).toInt = 5 from by decide]
    exact Int.bmod_eq_of_le (by omega) (by omega)
  rw [Int32.lt_iff_toInt_lt, e1, zi_toInt (by omega)]
  omega
theorem xini {L i : Nat} (hL : L ≤ 2560) (h : i + 5 ≤ L) : xin (zi i) L := zin (by omega) (by omega)
theorem xin1 {L i : Nat} (hL : L ≤ 2560) (h : i + 5 ≤ L) : xin (zi i + (1 : Int32)) L := by rw [zsucc]; exact zin (by omega) (by omega)
theorem xin2 {L i : Nat} (hL : L ≤ 2560) (h : i + 5 ≤ L) : xin (zi i + (2 : Int32)) L := by rw [show zi i + (2 : Int32) = zi (i + 2) from zadd i 2]; exact zin (by omega) (by omega)
theorem xin3 {L i : Nat} (hL : L ≤ 2560) (h : i + 5 ≤ L) : xin (zi i + (3 : Int32)) L := by rw [show zi i + (3 : Int32) = zi (i + 3) from zadd i 3]; exact zin (by omega) (by omega)
theorem xin4 {L i : Nat} (hL : L ≤ 2560) (h : i + 5 ≤ L) : xin (zi i + (4 : Int32)) L := by rw [show zi i + (4 : Int32) = zi (i + 4) from zadd i 4]; exact zin (by omega) (by omega)
theorem r_insert {u v : xS} (h : zR u v) (a b c : Int32) : ∃ w x y, m_Text_insert a b c u = some (w, x) ∧ m_Model_insert a b c v = some (w, y) ∧ zR x y := by
  obtain ⟨D, C, h⟩ := h
  obtain ⟨w, D2, C2, x, y, h1, h2, h3⟩ := q_insert h a b c
  exact ⟨w, x, y, h1, h2, D2, C2, h3⟩
theorem r_delete {u v : xS} (h : zR u v) (a b : Int32) : ∃ w x y, m_Text_delete a b u = some (w, x) ∧ m_Model_delete a b v = some (w, y) ∧ zR x y := by
  obtain ⟨D, C, h⟩ := h
  obtain ⟨w, D2, C2, x, y, h1, h2, h3⟩ := q_delete h a b
  exact ⟨w, x, y, h1, h2, D2, C2, h3⟩
theorem r_send {u v : xS} (h : zR u v) (a b : Int32) : ∃ w x y, m_Text_send a b u = some (w, x) ∧ m_Model_send a b v = some (w, y) ∧ zR x y := by
  obtain ⟨D, C, h⟩ := h
  obtain ⟨w, x, y, h1, h2, h3⟩ := q_send h a b
  exact ⟨w, x, y, h1, h2, D, C, h3⟩
theorem r_hear {u v : xS} (h : zR u v) (a b : Int32) : ∃ w x y, m_Text_hear a b u = some (w, x) ∧ m_Model_hear a b v = some (w, y) ∧ zR x y := by
  obtain ⟨D, C, h⟩ := h
  obtain ⟨w, x, y, h1, h2, h3⟩ := q_hear h a b
  exact ⟨w, x, y, h1, h2, D, C, h3⟩
theorem r_deliver {u v : xS} (h : zR u v) (a : Int32) : ∃ w x y, m_Text_deliver a u = some (w, x) ∧ m_Model_deliver a v = some (w, y) ∧ zR x y := by
  obtain ⟨D, C, h⟩ := h
  obtain ⟨w, x, y, h1, h2, h3⟩ := q_deliver h a
  exact ⟨w, x, y, h1, h2, D, C, h3⟩
theorem r_discard {u v : xS} (h : zR u v) (a : Int32) : ∃ w x y, m_Text_discard a u = some (w, x) ∧ m_Model_discard a v = some (w, y) ∧ zR x y := by
  obtain ⟨D, C, h⟩ := h
  obtain ⟨w, x, y, h1, h2, h3, _⟩ := q_discard h a
  exact ⟨w, x, y, h1, h2, D, C, h3⟩
theorem r_octets {u v : xS} (h : zR u v) (a : Int32) : ∃ w y, m_Text_octets a u = some w ∧ m_Model_octets a v = some (w, y) ∧ zR u y := by
  obtain ⟨D, C, h⟩ := h
  obtain ⟨w, y, h1, h2, h3⟩ := q_octets h a
  exact ⟨w, y, h1, h2, D, C, h3⟩
theorem r_octet {u v : xS} (h : zR u v) (a b : Int32) : ∃ w y, m_Text_octet a b u = some w ∧ m_Model_octet a b v = some (w, y) ∧ zR u y := by
  obtain ⟨D, C, h⟩ := h
  obtain ⟨w, y, h1, h2, h3⟩ := q_octet h a b
  exact ⟨w, y, h1, h2, D, C, h3⟩
theorem r_length {u v : xS} (h : zR u v) (a : Int32) : ∃ w, m_Text_length a u = some w ∧ m_Model_length a v = some w := by
  obtain ⟨D, C, hO, hK, hu, hv, huc, hvc, hS, hM, hG⟩ := h
  exact q_length hO hK hv huc hvc hS a
theorem r_at {u v : xS} (h : zR u v) (a b : Int32) : ∃ w, m_Text_at a b u = some w ∧ m_Model_at a b v = some w := by
  obtain ⟨D, C, hO, hK, hu, hv, huc, hvc, hS, hM, hG⟩ := h
  exact q_at hO hK hu hv huc hvc hS a b
theorem r_believed {u v : xS} (h : zR u v) (a b : Int32) : ∃ w, m_Text_believed a b u = some w ∧ m_Model_believed a b v = some w := by
  obtain ⟨D, C, hO, hK, hu, hv, huc, hvc, hS, hM, hG⟩ := h
  exact q_believed hO hS a b
theorem r_events {u v : xS} (h : zR u v) (a : Int32) : ∃ w, m_Text_events a u = some w ∧ m_Model_events a v = some w := by
  obtain ⟨D, C, hO, hK, hu, hv, huc, hvc, hS, hM, hG⟩ := h
  exact q_events hO hS a
theorem r_heads {u v : xS} (h : zR u v) (a : Int32) : ∃ w, m_Text_heads a u = some w ∧ m_Model_heads a v = some w := by
  obtain ⟨D, C, hO, hK, hu, hv, huc, hvc, hS, hM, hG⟩ := h
  exact q_heads hO hu hv hS a
theorem r_head {u v : xS} (h : zR u v) (a b : Int32) : ∃ w, m_Text_head a b u = some w ∧ m_Model_head a b v = some w := by
  obtain ⟨D, C, hO, hK, hu, hv, huc, hvc, hS, hM, hG⟩ := h
  exact q_head hO hu hv hS a b
theorem r_ancestor {u v : xS} (h : zR u v) (a b c d : Int32) : ∃ w, m_Text_ancestor a b c d u = some w ∧ m_Model_ancestor a b c d v = some w := by
  obtain ⟨D, C, hO, hK, hu, hv, huc, hvc, hS, hM, hG⟩ := h
  exact q_ancestor hO hu hv a b c d
theorem r_critical {u v : xS} (h : zR u v) (a : Int32) : ∃ w, m_Text_critical a u = some w ∧ m_Model_critical a v = some w := by
  obtain ⟨D, C, hO, hK, hu, hv, huc, hvc, hS, hM, hG⟩ := h
  exact q_critical hO hu hv hS a
theorem r_replayed {u v : xS} (h : zR u v) (a : Int32) : ∃ w, m_Text_replayed a u = some w ∧ m_Model_replayed a v = some w := by
  obtain ⟨D, C, hO, hK, hu, hv, huc, hvc, hS, hM, hG⟩ := h
  exact q_replayed hG a
theorem r_moves {u v : xS} (h : zR u v) (a : Int32) : ∃ w, m_Text_moves a u = some w ∧ m_Model_moves a v = some w := by
  obtain ⟨D, C, hO, hK, hu, hv, huc, hvc, hS, hM, hG⟩ := h
  exact q_moves hG a
theorem r_operation {u v : xS} (h : zR u v) (a b : Int32) : ∃ w, m_Text_operation a b u = some w ∧ m_Model_operation a b v = some w := by
  obtain ⟨D, C, hO, hK, hu, hv, huc, hvc, hS, hM, hG⟩ := h
  exact q_operation hG a b
