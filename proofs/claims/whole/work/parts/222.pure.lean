theorem z_nar {b : Bool} : vp_nar .boolean (zb b) = zb b := by
  cases b
  · decide
  · decide
theorem z_event_loop {D : zE} {v : xS} (hO : eOK D) (hv : mE D v) {r : Nat} (hr : r < 3) (b i : Int32) : ∀ d k fu, k + d = en D → d < fu → m_Model_event_l12 fu (zi r) b i (zi (en D)) (zi (ecnt D r k)) (zi k) v = m_Model_event_l12 1 (zi r) b i (zi (en D)) (zi (ecnt D r (en D))) (zi (en D)) v := by
  have hn := hO.n
  intro d
  induction d with
  | zero =>
    intro k fu hk hf
    obtain ⟨g, rfl⟩ : ∃ g, fu = g + 1 := ⟨fu - 1, by omega⟩
    have : k = en D := by omega
    subst this
    show m_Model_event_s12 _ _ _ _ _ _ _ _ = m_Model_event_s12 _ _ _ _ _ _ _ _
    unfold m_Model_event_s12
    rw [hv.n, if_pos (zle_n (by omega) (by omega) (Nat.le_refl _)), if_pos (zle_n (by omega) (by omega) (Nat.le_refl _))]
  | succ d ih =>
    intro k fu hk hf
    obtain ⟨g, rfl⟩ : ∃ g, fu = g + 1 := ⟨fu - 1, by omega⟩
    have hkn : k < en D := by omega
    have s3 := hO.si hkn
    have key := ih (k + 1) g (by omega) (by omega)
    show m_Model_event_s12 _ _ _ _ _ _ _ _ = _
    unfold m_Model_event_s12
    rw [hv.n, if_neg (zle_nn (by omega) (by omega) hkn), zg (zin (by omega) (by omega)), zi_nat (a := k) (by omega), hv.si hkn, zsucc, zsucc, show zi (ecnt D r k) + (0 : Int32) = zi (ecnt D r k) from zadd _ 0]
    have hs : ecnt D r (k + 1) = ecnt D r k + if esi D k = r then 1 else 0 := rfl
    by_cases q : esi D k = r
    · rw [if_pos q] at hs
      rw [if_pos (by rw [q]), ← hs]; exact key
    · have hs2 : ecnt D r (k + 1) = ecnt D r k := by rw [hs, if_neg q]; rfl
      rw [if_neg (fun z => q ((zeq (by omega) (by omega)).mp z)), ← hs2]; exact key
theorem z_push {D : zE} {u v : xS} (hO : eOK D) (hu : cE D u) (hv : mE D v) (hn : en D < 40) {r : Nat} (hr : r < 3) {g : Int64} (hg : zbel (en D) g) (hgc : zcl D g) (hvg : xs_L v 2 r = g) (ix : Nat) (cc : Int32) (b : Bool) :
    ∃ p x y, m_History_record (zi r) (zi ix) cc g u = some (zi (en D), x) ∧ m_Model_event (zi r) (zb b) (zi ix) v = some (zi (en D), y) ∧ (∀ x, zm p x ↔ zm g x ∧ ¬ ∃ e, e < en D ∧ zm g e ∧ zm (ean D e) x) ∧
      (zfr [0, 1, 2, 3, 4, 5] [0, 1] [0] [] u x ∧ (∀ k, k < 4 → ∀ e, e < en D → xs_I x k e = xs_I u k e) ∧ (∀ k, k < 2 → ∀ e, e < en D → xs_L x k e = xs_L u k e) ∧ xs_i x 0 = zi (en D + 1) ∧
      xs_I x 0 (en D) = zi r ∧ xs_I x 1 (en D) = zi (ecnt D r (en D)) ∧ xs_I x 2 (en D) = zi ix ∧ xs_I x 3 (en D) = cc ∧ xs_L x 0 (en D) = p ∧ xs_L x 1 (en D) = g ∧
      xs_I x 4 = upd (xs_I u 4) (r * 40 + ecnt D r (en D)) (zi (en D)) ∧ xs_I x 5 = upd (xs_I u 5) r (zi (ecnt D r (en D) + 1))) ∧
      (zfr [0, 1, 2, 3] [0, 1, 2] [0] [] v y ∧ (∀ k, k < 4 → ∀ e, e < en D → xs_I y k e = xs_I v k e) ∧ (∀ k, k < 2 → ∀ e, e < en D → xs_L y k e = xs_L v k e) ∧ xs_i y 0 = zi (en D + 1) ∧
      xs_I y 0 (en D) = zi r ∧ xs_I y 1 (en D) = zi (ecnt D r (en D)) ∧ xs_I y 2 (en D) = zb b ∧ xs_I y 3 (en D) = zi ix ∧ xs_L y 0 (en D) = g ∧ xs_L y 1 (en D) = p ∧ xs_L y 2 = vp_updL (xs_L v 2) r (g ||| zbit (en D))) := by
  have hc40 := ecnt_le D r (en D)
  generalize hn' : en D = n at *
  generalize hc' : ecnt D r n = c at *
  let W4 := xs_sI (xs_sI (xs_sI (xs_sI u 0 n (zi r)) 1 n (zi c)) 2 n (zi ix)) 3 n cc
  have rd : ∀ k, k < 4 → ∀ e, e < n → xs_I W4 k e = xs_I u k e := by
    intro k hk e he
    have a : ∀ (w : xS) (q j : Nat) (y : Int32), j = n → xs_I (xs_sI w q j y) k e = xs_I w k e := by
      intro w q j y hj
      by_cases z : k = q
      · subst z; rw [zII, zupn (by omega)]
      · rw [zIIn z]
    show xs_I (xs_sI (xs_sI (xs_sI (xs_sI u 0 n (zi r)) 1 n (zi c)) 2 n (zi ix)) 3 n cc) k e = _
    rw [a _ _ _ _ rfl, a _ _ _ _ rfl, a _ _ _ _ rfl, a _ _ _ _ rfl]
  have hW4 : cE D W4 := cE_same hu rfl (by rw [hn']; exact rd) (fun k hk e he => rfl) rfl rfl
  let V5 := xs_sL (xs_sI (xs_sI (xs_sI (xs_sI v 0 n (zi r)) 1 n (zi c)) 2 n (zb b)) 3 n (zi ix)) 0 n g
  have rdv : ∀ k, k < 5 → ∀ e, e < n → xs_I V5 k e = xs_I v k e := by
    intro k hk e he
    have a : ∀ (w : xS) (q j : Nat) (y : Int32), j = n → xs_I (xs_sI w q j y) k e = xs_I w k e := by
      intro w q j y hj
      by_cases z : k = q
      · subst z; rw [zII, zupn (by omega)]
      · rw [zIIn z]
    show xs_I (xs_sI (xs_sI (xs_sI (xs_sI v 0 n (zi r)) 1 n (zi c)) 2 n (zb b)) 3 n (zi ix)) k e = _
    rw [a _ _ _ _ rfl, a _ _ _ _ rfl, a _ _ _ _ rfl, a _ _ _ _ rfl]
  have rdL : ∀ k, k < 2 → ∀ e, e < n → xs_L V5 k e = xs_L v k e := by
    intro k hk e he
    show xs_L (xs_sL _ 0 n g) k e = _
    by_cases z : k = 0
    · subst z; rw [zLL, zuLn (by omega)]; rfl
    · rw [zLLn z]; rfl
  have hV5 : mE D V5 := mE_same hv rfl (by rw [hn']; exact rdv) (by rw [hn']; exact rdL)
  obtain ⟨p, t1, t2, t3⟩ := z_heads hO hW4 hV5 hgc
  rw [hn'] at t3
  let W6 := xs_sL (xs_sL W4 0 n p) 1 n g
  let W7 := xs_sI W6 4 (r * 40 + c) (zi n)
  let W8 := xs_sI W7 5 r (zi (c + 1))
  let W9 := xs_si W8 0 (zi (n + 1))
  let V6 := xs_sL V5 1 n p
  let V7 := xs_sL V6 2 r (g ||| zbit n)
  let V8 := xs_si V7 0 (zi (n + 1))
  have e5 : xs_I u 5 r = zi c := by rw [hu.ma hr, hn', hc']
  have e0 : xs_i u 0 = zi n := by rw [hu.n, hn']
  have f0 : xs_i v 0 = zi n := by rw [hv.n, hn']
  refine ⟨p, W9, V8, ?_, ?_, t3, ⟨?_, ?_, ?_, zii, ?_, ?_, ?_, ?_, ?_, ?_, ?_, ?_⟩, ⟨?_, ?_, ?_, zii, ?_, ?_, ?_, ?_, ?_, ?_, ?_⟩⟩
  · unfold m_History_record
    rw [e0, zg (zin hn (by omega)), zlet, zg (zin hr (by omega)), zi_nat (a := n) (by omega), zi_nat (a := r) (by omega), zIIn (show (5 : Nat) ≠ 0 from by decide), e5, zlet, zlet, zlet]
    have t1' : m_History_headsOf g (xs_sI (xs_sI (xs_sI (xs_sI u 0 n (zi r)) 1 n (zi c)) 2 n (zi ix)) 3 n cc) = some p := t1
    rw [zb1 t1', zlet, zlet]
    have e6 : xs_I W6 5 r = zi c := by
      show xs_I (xs_sI (xs_sI (xs_sI (xs_sI u 0 n (zi r)) 1 n (zi c)) 2 n (zi ix)) 3 n cc) 5 r = _
      rw [zIIn (by decide), zIIn (by decide), zIIn (by decide), zIIn (by decide), e5]
    show xg (xin (zi r * 40 + xs_I W6 5 r) 120) _ = _
    rw [e6, show (40 : Int32) = zi 40 from rfl, zmul, zadd, zg (zin (by omega) (by omega)), zlet, zi_nat (a := r * 40 + c) (by omega), zlet, zlet]
    have e7 : xs_I W7 5 r = zi c := by
      show xs_I (xs_sI W6 4 (r * 40 + c) (zi n)) 5 r = _
      rw [zIIn (by decide), e6]
    show some (zi n, xs_si (xs_sI W7 5 r (xs_I W7 5 r + 1)) 0 (xs_i (xs_sI W7 5 r (xs_I W7 5 r + 1)) 0 + 1)) = _
    rw [e7, zsucc]
    have e8 : xs_i W8 0 = zi n := e0
    show some (zi n, xs_si W8 0 (xs_i W8 0 + 1)) = _
    rw [e8, zsucc]
  · unfold m_Model_event
    rw [f0]
    have lp := z_event_loop hO hv hr (zb b) (zi ix) (en D) 0 xFU (by omega) (by unfold xFU; omega)
    rw [hn'] at lp
    rw [show (0 : Int32) = zi (ecnt D r 0) from rfl, show m_Model_event_l12 xFU (zi r) (zb b) (zi ix) (zi n) (zi (ecnt D r 0)) (zi (ecnt D r 0)) v = _ from lp, hc']
    show m_Model_event_s12 _ _ _ _ _ _ _ _ = _
    unfold m_Model_event_s12
    rw [f0, if_pos (zle_n (by omega) (by omega) (Nat.le_refl _)), zg (zin hn (by omega)), zlet, zlet, zlet, zlet, zg (zin hr (by omega)), zlet, zi_nat (a := n) (by omega), zi_nat (a := r) (by omega), z_nar]
    have hg5 : xs_L (xs_sI (xs_sI (xs_sI (xs_sI v 0 n (zi r)) 1 n (zi c)) 2 n (zb b)) 3 n (zi ix)) 2 r = g := hvg
    rw [hg5]
    have hg6 : xs_L V5 2 r = g := by
      show xs_L (xs_sL _ 0 n g) 2 r = g
      rw [zLLn (by decide)]; exact hvg
    show xb1 (m_Model_tips (xs_L V5 2 r) V5) _ = _
    rw [hg6, zb1 t2, zlet, zb1 (z_one n), zlet]
    have hg7 : xs_L V6 2 r = g := by
      show xs_L (xs_sL V5 1 n p) 2 r = g
      rw [zLLn (by decide), hg6]
    show xlt (xs_si (xs_sL V6 2 r (xs_L V6 2 r ||| zbit n)) 0 (xs_i (xs_sL V6 2 r (xs_L V6 2 r ||| zbit n)) 0 + 1)) _ = _
    rw [hg7, zlet]
    have e8 : xs_i V7 0 = zi n := f0
    show some (zi n, xs_si V7 0 (xs_i V7 0 + 1)) = _
    rw [e8, zsucc]
  · exact (((((((zfr_sI (by decide)).tr (zfr_sI (by decide))).tr (zfr_sI (by decide))).tr (zfr_sI (by decide))).tr (zfr_sL (by decide))).tr (zfr_sL (by decide))).tr ((zfr_sI (by decide)).tr (zfr_sI (by decide)))).tr (zfr_si (by decide))
  · intro k hk e he
    show xs_I (xs_sI (xs_sI W6 4 (r * 40 + c) (zi n)) 5 r (zi (c + 1))) k e = _
    rw [zIIn (by omega), zIIn (by omega)]
    exact rd k hk e he
  · intro k hk e he
    show xs_L (xs_sL (xs_sL W4 0 n p) 1 n g) k e = _
    by_cases z : k = 1
    · subst z; rw [zLL, zuLn (by omega), zLLn (by decide)]; rfl
    · have : k = 0 := by omega
      subst this
      rw [zLLn (by decide), zLL, zuLn (by omega)]; rfl
  · show xs_I (xs_sI (xs_sI W6 4 (r * 40 + c) (zi n)) 5 r (zi (c + 1))) 0 n = _
    rw [zIIn (by decide), zIIn (by decide)]
    show xs_I (xs_sI (xs_sI (xs_sI (xs_sI u 0 n (zi r)) 1 n (zi c)) 2 n (zi ix)) 3 n cc) 0 n = _
    rw [zIIn (by decide), zIIn (by decide), zIIn (by decide), zII, zup]
  · show xs_I (xs_sI (xs_sI W6 4 (r * 40 + c) (zi n)) 5 r (zi (c + 1))) 1 n = _
    rw [zIIn (by decide), zIIn (by decide)]
    show xs_I (xs_sI (xs_sI (xs_sI (xs_sI u 0 n (zi r)) 1 n (zi c)) 2 n (zi ix)) 3 n cc) 1 n = _
    rw [zIIn (by decide), zIIn (by decide), zII, zup]
  · show xs_I (xs_sI (xs_sI W6 4 (r * 40 + c) (zi n)) 5 r (zi (c + 1))) 2 n = _
    rw [zIIn (by decide), zIIn (by decide)]
    show xs_I (xs_sI (xs_sI (xs_sI (xs_sI u 0 n (zi r)) 1 n (zi c)) 2 n (zi ix)) 3 n cc) 2 n = _
    rw [zIIn (by decide), zII, zup]
  · show xs_I (xs_sI (xs_sI W6 4 (r * 40 + c) (zi n)) 5 r (zi (c + 1))) 3 n = _
    rw [zIIn (by decide), zIIn (by decide)]
    show xs_I (xs_sI (xs_sI (xs_sI (xs_sI u 0 n (zi r)) 1 n (zi c)) 2 n (zi ix)) 3 n cc) 3 n = _
    rw [zII, zup]
  · show xs_L (xs_sL (xs_sL W4 0 n p) 1 n g) 0 n = _
    rw [zLLn (by decide), zLL, zuL]
  · show xs_L (xs_sL (xs_sL W4 0 n p) 1 n g) 1 n = _
    rw [zLL, zuL]
  · show xs_I (xs_sI (xs_sI W6 4 (r * 40 + c) (zi n)) 5 r (zi (c + 1))) 4 = _
    rw [zIIn (by decide), zII]
    congr 1
  · show xs_I (xs_sI (xs_sI W6 4 (r * 40 + c) (zi n)) 5 r (zi (c + 1))) 5 = _
    rw [zII, zIIn (by decide)]
    congr 1
  · exact (((((((zfr_sI (by decide)).tr (zfr_sI (by decide))).tr (zfr_sI (by decide))).tr (zfr_sI (by decide))).tr (zfr_sL (by decide))).tr (zfr_sL (by decide))).tr (zfr_sL (by decide))).tr (zfr_si (by decide))
  · intro k hk e he; exact rdv k (by omega) e he
  · intro k hk e he
    show xs_L (xs_sL (xs_sL V5 1 n p) 2 r (g ||| zbit n)) k e = _
    rw [zLLn (by omega)]
    by_cases z : k = 1
    · subst z; rw [zLL, zuLn (by omega)]; exact rdL 1 (by omega) e he
    · rw [zLLn z]; exact rdL k hk e he
  · show xs_I (xs_sI (xs_sI (xs_sI (xs_sI v 0 n (zi r)) 1 n (zi c)) 2 n (zb b)) 3 n (zi ix)) 0 n = _
    rw [zIIn (by decide), zIIn (by decide), zIIn (by decide), zII, zup]
  · show xs_I (xs_sI (xs_sI (xs_sI (xs_sI v 0 n (zi r)) 1 n (zi c)) 2 n (zb b)) 3 n (zi ix)) 1 n = _
    rw [zIIn (by decide), zIIn (by decide), zII, zup]
  · show xs_I (xs_sI (xs_sI (xs_sI (xs_sI v 0 n (zi r)) 1 n (zi c)) 2 n (zb b)) 3 n (zi ix)) 2 n = _
    rw [zIIn (by decide), zII, zup]
  · show xs_I (xs_sI (xs_sI (xs_sI (xs_sI v 0 n (zi r)) 1 n (zi c)) 2 n (zb b)) 3 n (zi ix)) 3 n = _
    rw [zII, zup]
  · show xs_L (xs_sL (xs_sL V5 1 n p) 2 r (g ||| zbit n)) 0 n = _
    rw [zLLn (by decide), zLLn (by decide)]
    show xs_L (xs_sL (xs_sI (xs_sI (xs_sI (xs_sI v 0 n (zi r)) 1 n (zi c)) 2 n (zb b)) 3 n (zi ix)) 0 n g) 0 n = _
    rw [zLL, zuL]
  · show xs_L (xs_sL (xs_sL V5 1 n p) 2 r (g ||| zbit n)) 1 n = _
    rw [zLLn (by decide), zLL, zuL]
  · show xs_L (xs_sL (xs_sL V5 1 n p) 2 r (g ||| zbit n)) 2 = _
    rw [zLL, zLLn (by decide)]
    congr 1
