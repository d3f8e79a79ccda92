theorem z_b37 {D : zE} {C : zK} (hK : kOK D C) (hO : eOK D) (hn : en D < 40) {r nu ix ch : Nat} {g p : Int64} (hO2 : eOK (epush D r nu ix ch true g p)) {H : Nat} (hH : kin D H) (s : Bool) (hHs : H = 40 → s = true) {w : xS} (hE : cE (epush D r nu ix ch true g p) w) (hT : cT C w) :
    ∃ X q, m_CharacterList_putBehind_b37 (zi (en D)) (zb s) (zh H) w = some X ∧ zfr [6, 7, 8] [2] [1] [1] w X ∧ xs_i X 1 = zi ((krow C).length + 1) ∧ xs_l X 1 = xs_l w 1 ||| zbit (en D) ∧ (∀ k y, (kinto (krow C) q (en D))[k]? = some y → xs_I X 6 k = zi y) ∧
      xs_I X 7 = upd (xs_I w 7) (en D) (zh H) ∧ xs_I X 8 = upd (xs_I w 8) (en D) (zb s) ∧ xs_L X 2 = vp_updL (xs_L w 2) (en D) (zbit (en D) ||| (if H = 40 then 0 else xs_L w 2 H)) ∧
      kpos (kkey (epush D r nu ix ch true g p) (kinto (krow C) q (en D), zu (kpl C) (en D) H, zu (krt C) (en D) s)) (krow C) (kkey (epush D r nu ix ch true g p) (kinto (krow C) q (en D), zu (kpl C) (en D) H, zu (krt C) (en D) s) (en D)) q := by
  have hlen := kOK.len hO hK
  have h40 := kOK.row40 hO hK
  have hrow : ∀ x, x ∈ krow C → x < en D := fun x hx => (hK.mem.mp hx).1
  have hpl40 : ∀ x, x ∈ krow C → kpl C x ≤ 40 := fun x hx => by
    have h1 := hK.mem.mp hx
    rcases hK.ins h1.1 h1.2 with z | z <;> omega
  have hH40 : H ≤ 40 := by rcases hH with z | z <;> omega
  generalize hQ : (zbit (en D) ||| (if H = 40 then 0 else xs_L w 2 H)) = Q
  generalize hW : xs_sL (xs_sI (xs_sI w 7 (en D) (zh H)) 8 (en D) (zb s)) 2 (en D) Q = W
  have fW : zfr [6, 7, 8] [2] [1] [1] w W := by
    rw [← hW]; exact ((zfr_sI (by decide)).tr (zfr_sI (by decide))).tr (zfr_sL (by decide))
  have hEW : cE (epush D r nu ix ch true g p) W := hE.fr fW (by decide) (by decide) (by decide)
  have W7 : xs_I W 7 = upd (xs_I w 7) (en D) (zh H) := by
    rw [← hW]
    show xs_I (xs_sI (xs_sI w 7 (en D) (zh H)) 8 (en D) (zb s)) 7 = _
    rw [zIIn (by decide), zII]
  have W8 : xs_I W 8 = upd (xs_I w 8) (en D) (zb s) := by
    rw [← hW]
    show xs_I (xs_sI (xs_sI w 7 (en D) (zh H)) 8 (en D) (zb s)) 8 = _
    rw [zII, zIIn (by decide)]
  have W6 : xs_I W 6 = xs_I w 6 := by
    rw [← hW]
    show xs_I (xs_sI (xs_sI w 7 (en D) (zh H)) 8 (en D) (zb s)) 6 = _
    rw [zIIn (by decide), zIIn (by decide)]
  have W2 : xs_L W 2 = vp_updL (xs_L w 2) (en D) Q := by rw [← hW]; exact zLL
  have W1 : xs_i W 1 = xs_i w 1 := by rw [← hW]; rfl
  have Wl : xs_l W 1 = xs_l w 1 := by rw [← hW]; rfl
  have hTW : cT C W := by
    refine ⟨by rw [W1]; exact hT.1, fun k x hx => by rw [W6]; exact hT.2.1 k x hx, fun x hx => ?_⟩
    have hne : x ≠ en D := by have := hrow x hx; omega
    rw [W7, W8, W2, zupn hne, zupn hne, zuLn hne]
    exact hT.2.2 x hx
  have hb37 : m_CharacterList_putBehind_b37 (zi (en D)) (zb s) (zh H) w = (if zb s = 0 then xb1 (m_CharacterList_leftPosition (zi (en D)) (zh H) W) fun r104 => m_CharacterList_putBehind_l115 xFU (zi (en D)) r104 (xs_i W 1) W else xb1 (m_CharacterList_rightPosition (zi (en D)) (zh H) W) fun r93 => m_CharacterList_putBehind_l115 xFU (zi (en D)) r93 (xs_i W 1) W) := by
    unfold m_CharacterList_putBehind_b37 m_CharacterList_putBehind_b81
    rw [zg (zin hn (by omega)), zlet, zlet, zb1 (z_bit _), zg (zin hn (by omega)), zg (zin hn (by omega)), zlet, zlet, zi_nat (a := en D) (by omega), z_nar]
    by_cases q : H = 40
    · rw [if_pos q] at hQ
      rw [if_pos (show zh H = -1 from by unfold zh; rw [if_pos q]), hQ, hW]
    · have hzh : zh H = zi H := by unfold zh; rw [if_neg q]
      rw [if_neg q] at hQ
      have e2 : xs_L (xs_sI (xs_sI w 7 (en D) (zh H)) 8 (en D) (zb s)) 2 = xs_L w 2 := rfl
      rw [if_neg (show ¬ zh H = -1 from by rw [hzh]; exact zne_m1 (by omega))]
      have hx : xin (zh H) 40 := by rw [hzh]; exact zin (by omega) (by omega)
      have hz2 : (zh H).toNatClampNeg = H := by rw [hzh]; exact zi_nat (by omega)
      rw [zg hx, hz2, e2, hQ, hW]
  have kp : ∀ q e, e < en D → kpl (kinto (krow C) q (en D), zu (kpl C) (en D) H, zu (krt C) (en D) s) e = kpl C e := fun q e he => zu_ne (by omega)
  have kr : ∀ q e, e < en D → krt (kinto (krow C) q (en D), zu (kpl C) (en D) H, zu (krt C) (en D) s) e = krt C e := fun q e he => zu_ne (by omega)
  have kp1 : ∀ q, kpl (kinto (krow C) q (en D), zu (kpl C) (en D) H, zu (krt C) (en D) s) (en D) = H := fun q => zu_at
  have kr1 : ∀ q, krt (kinto (krow C) q (en D), zu (kpl C) (en D) H, zu (krt C) (en D) s) (en D) = s := fun q => zu_at
  have hKT : ∀ q, kT (epush D r nu ix ch true g p) (kinto (krow C) q (en D), zu (kpl C) (en D) H, zu (krt C) (en D) s) := by
    intro q e he hi
    rcases zlt_succ he with rfl | z
    · rw [kp1]
      rcases hH with y | y
      · exact Or.inl y
      · exact Or.inr ⟨y.1, by rw [ep_in y.1]; exact y.2⟩
    · rw [ep_in z] at hi
      rw [kp q e z]
      rcases hK.ins z hi with y | y
      · exact Or.inl y
      · exact Or.inr ⟨y.1, by rw [ep_in (by omega)]; exact y.2⟩
  have hee : en D < en (epush D r nu ix ch true g p) ∧ ein (epush D r nu ix ch true g p) (en D) := ⟨by rw [ep_n]; omega, ep_in1⟩
  have hLm : ∀ x, x ∈ krow C ↔ x < en (epush D r nu ix ch true g p) ∧ ein (epush D r nu ix ch true g p) x ∧ x ≠ en D := by
    intro x
    rw [hK.mem, ep_n]
    constructor
    · intro z; exact ⟨by omega, by rw [ep_in z.1]; exact z.2, by omega⟩
    · intro z
      have : x < en D := by omega
      rw [ep_in this] at z
      exact ⟨this, z.2.1⟩
  have hch : ∀ q x, x ∈ krow C → ∀ c, kchain (kinto (krow C) q (en D), zu (kpl C) (en D) H, zu (krt C) (en D) s) x c ↔ kchain C x c := fun q x hx c => kchain_old hO hK.t (kp q) x (Or.inr (hK.mem.mp hx)) c
  have hcin : ∀ x, x ∈ krow C → ∀ c, kchain C x c → c < en D ∧ ein D c := fun x hx c hc => kin_of_chain hO hK.t (Or.inr (hK.mem.mp hx)) hc
  have hlf : ∀ q x, x ∈ krow C → ¬ kchain (kinto (krow C) q (en D), zu (kpl C) (en D) H, zu (krt C) (en D) s) x (en D) := by
    intro q x hx hc
    have := (hcin x hx _ ((hch q x hx _).mp hc)).1
    omega
  have hso : ∀ q, (krow C).Pairwise (fun x y => klt (kkey (epush D r nu ix ch true g p) (kinto (krow C) q (en D), zu (kpl C) (en D) H, zu (krt C) (en D) s) x) (kkey (epush D r nu ix ch true g p) (kinto (krow C) q (en D), zu (kpl C) (en D) H, zu (krt C) (en D) s) y)) := by
    intro q
    refine List.Pairwise.imp_of_mem ?_ hK.so
    intro a b ha hb hab
    rw [kkey_old hO hK.t (kp q) (fun e he _ => kr q e he) (Or.inr (hK.mem.mp ha)), kkey_old hO hK.t (kp q) (fun e he _ => kr q e he) (Or.inr (hK.mem.mp hb))]
    exact hab
  obtain ⟨b, b1, b2⟩ := z_nearer hO2 hEW hTW (fun x hx => by have := hrow x hx; rw [ep_n]; omega) (by omega) hpl40 hH40 hee.1 s
  have hSx : ∀ q x, x ∈ krow C → (kS C H b x ↔ x = H ∨ ∃ c, kchain (kinto (krow C) q (en D), zu (kpl C) (en D) H, zu (krt C) (en D) s) x c ∧ kpl (kinto (krow C) q (en D), zu (kpl C) (en D) H, zu (krt C) (en D) s) c = H ∧ krt (kinto (krow C) q (en D), zu (kpl C) (en D) H, zu (krt C) (en D) s) c = s ∧ (elt (epush D r nu ix ch true g p) c (en D) ↔ s = true)) := by
    intro q x hx
    unfold kS
    constructor
    · rintro (z | ⟨c, c1, c2⟩)
      · exact Or.inl z
      · obtain ⟨c3, c4, c5, c6⟩ := (b2 c).mp c1
        have hcn := hrow c c3
        exact Or.inr ⟨c, (hch q x hx c).mpr c2, by rw [kp q c hcn]; exact c4, by rw [kr q c hcn]; exact c5, c6⟩
    · rintro (z | ⟨c, c1, c2, c3, c4⟩)
      · exact Or.inl z
      · have c5 := (hch q x hx c).mp c1
        have hcn := hcin x hx c c5
        rw [kp q c hcn.1] at c2
        rw [kr q c hcn.1] at c3
        exact Or.inr ⟨c, (b2 c).mpr ⟨hK.mem.mpr hcn, c2, c3, c4⟩, c5⟩
  have fin : ∀ q, q ≤ (krow C).length → ∃ X, m_CharacterList_putBehind_l115 xFU (zi (en D)) (zi q) (xs_i W 1) W = some X ∧ zfr [6, 7, 8] [2] [1] [1] w X ∧ xs_i X 1 = zi ((krow C).length + 1) ∧ xs_l X 1 = xs_l w 1 ||| zbit (en D) ∧ (∀ k y, (kinto (krow C) q (en D))[k]? = some y → xs_I X 6 k = zi y) ∧ xs_I X 7 = upd (xs_I w 7) (en D) (zh H) ∧ xs_I X 8 = upd (xs_I w 8) (en D) (zb s) ∧ xs_L X 2 = vp_updL (xs_L w 2) (en D) Q := by
    intro q hq
    obtain ⟨X, x1, x2, x3, x4, x5⟩ := z_shift (L := krow C) (p := q) (e := en D) (by omega) hq ((krow C).length - q) (krow C).length xFU W (by omega) (Nat.le_refl _) (by unfold xFU; omega) hTW.1 (fun k x _ hx => hTW.2.1 k x hx) (fun k x hk hx => by
      have := (List.getElem?_eq_some_iff.mp hx).1
      omega)
    refine ⟨X, by rw [hTW.1]; exact x1, fW.tr (x2.mo (by simp) (by simp) (by simp) (by simp)), x3, by rw [x4, Wl], x5, ?_, ?_, ?_⟩
    · rw [x2.I (by simp), W7]
    · rw [x2.I (by simp), W8]
    · rw [x2.L (by simp), W2]
  rw [hb37]
  cases s with
  | true =>
    obtain ⟨q, q1, q2, q3, q4⟩ := z_rightPos hTW h40 (by omega) hH40 b
    obtain ⟨X, x1, x2, x3, x4, x5, x6, x7, x8⟩ := fin q q1
    refine ⟨X, q, ?_, x2, x3, x4, x5, x6, x7, x8, ?_⟩
    · rw [if_neg (by decide)]
      unfold m_CharacterList_rightPosition
      have b1' : m_CharacterList_nearerSiblings (zi (en D)) (zh H) 1 W = some b := b1
      rw [zb1 b1', hTW.1, zb1 q2, ← hTW.1]; exact x1
    · refine kpos_right (hso q) (S := kS C H b) ?_ q1 q3 q4
      refine kright hO2 (hKT q) hee ?_ (kp1 q) (kr1 q) ?_ hLm (hlf q) ?_
      · rcases hH with z | z
        · exact Or.inl z
        · exact Or.inr ⟨by rw [ep_n]; omega, by rw [ep_in z.1]; exact z.2⟩
      · intro h40' c hc hi hpc
        rcases zlt_succ hc with rfl | z
        · exact kr1 q
        · rw [ep_in z] at hi
          rw [kp q c z] at hpc
          rw [kr q c z]; exact hK.st z hi hpc
      · intro x hx
        rw [hSx q x hx]
        constructor
        · rintro (z | ⟨c, c1, c2, c3, c4⟩)
          · exact Or.inl z
          · exact Or.inr ⟨c, c1, c2, c3, c4.mpr rfl⟩
        · rintro (z | ⟨c, c1, c2, c3, c4⟩)
          · exact Or.inl z
          · exact Or.inr ⟨c, c1, c2, c3, ⟨fun _ => rfl, fun _ => c4⟩⟩
  | false =>
    obtain ⟨q, q1, q2, q3, q4⟩ := z_leftPos hTW h40 (by omega) hH40 b
    obtain ⟨X, x1, x2, x3, x4, x5, x6, x7, x8⟩ := fin q q1
    have hHne : H ≠ 40 := fun z => by have := hHs z; cases this
    have hHin : H < en D ∧ ein D H := by
      rcases hH with z | z
      · exact absurd z hHne
      · exact z
    refine ⟨X, q, ?_, x2, x3, x4, x5, x6, x7, x8, ?_⟩
    · rw [if_pos (by decide)]
      unfold m_CharacterList_leftPosition
      have b1' : m_CharacterList_nearerSiblings (zi (en D)) (zh H) 0 W = some b := b1
      rw [zb1 b1', zb1 q2]; exact x1
    · refine kpos_left (hso q) (S := kS C H b) ?_ q1 q3 q4
      refine kleft hO2 (hKT q) hee ⟨by rw [ep_n]; omega, by rw [ep_in hHin.1]; exact hHin.2⟩ (kp1 q) (kr1 q) hLm (hlf q) ?_
      intro x hx
      rw [hSx q x hx]
      constructor
      · rintro (z | ⟨c, c1, c2, c3, c4⟩)
        · exact Or.inl z
        · exact Or.inr ⟨c, c1, c2, c3, fun y => absurd (c4.mp y) (by decide)⟩
      · rintro (z | ⟨c, c1, c2, c3, c4⟩)
        · exact Or.inl z
        · exact Or.inr ⟨c, c1, c2, c3, ⟨fun y => absurd y c4, fun y => absurd y (by decide)⟩⟩
