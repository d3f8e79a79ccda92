theorem zo_some (e : Nat) : zo (some e) = zi e := rfl
theorem zo_none : zo none = -1 := rfl
theorem z_leastOf {D : zE} {u : xS} (hO : eOK D) (hu : cE D u) (s : Int64) : m_History_leastOf s u = some (zo ((eids D).find? (zm s ·))) := by
  have hn := hO.n
  refine zinv (fun fu (a : Int32) k => m_History_leastOf_l5 fu s a (zi k) u) (en D) (fun k a => (a = -1 ∧ ∀ f, f < k → ¬ zm s f) ∨ (∃ e, a = zi e ∧ e < k ∧ zm s e ∧ ∀ f, f < k → zm s f → f = e ∨ elt D e f)) (fun o => o = some (zo ((eids D).find? (zm s ·)))) ?_ ?_ (en D) 0 xFU (-1) (by omega) (by unfold xFU; omega) ?_
  · intro fu a hI
    show m_History_leastOf_s5 _ _ _ _ _ = _
    unfold m_History_leastOf_s5
    rw [hu.n, if_pos (zle_n (by omega) (by omega) (Nat.le_refl _))]
    refine congrArg some ?_
    rcases hI with ⟨rfl, h⟩ | ⟨e, rfl, he, hs, hl⟩
    · have : (eids D).find? (zm s ·) = none := List.find?_eq_none.mpr (fun x hx => h x ((eids_mem hO).mp hx))
      rw [this]; rfl
    · rw [zfind_least eids_sorted ((eids_mem hO).mpr he) hs (fun f hf => hl f ((eids_mem hO).mp hf))]; rfl
  · intro fu a k hk hI
    refine Or.inl ?_
    show ∃ a', _ ∧ m_History_leastOf_s5 _ _ _ _ _ = _
    unfold m_History_leastOf_s5
    rw [hu.n, if_neg (zle_nn (by omega) (by omega) hk), zb1 (z_has (by omega)), zsucc]
    by_cases h : zm s k
    · rw [if_neg (fun q => (zb_eq0.mp q) h)]
      rcases hI with ⟨rfl, h0⟩ | ⟨e, rfl, he, hs, hl⟩
      · rw [if_pos rfl]
        refine ⟨_, Or.inr ⟨k, rfl, by omega, h, fun f hf hfs => ?_⟩, rfl⟩
        by_cases q : f = k
        · exact Or.inl q
        · exact absurd hfs (h0 f (by omega))
      · rw [if_neg (zne_m1 (by omega)), zb1 (z_comesBefore hO hu hk (by omega))]
        by_cases q : elt D k e
        · rw [if_pos q, if_neg (by decide)]
          refine ⟨_, Or.inr ⟨k, rfl, by omega, h, fun f hf hfs => ?_⟩, rfl⟩
          by_cases q1 : f = k
          · exact Or.inl q1
          · rcases hl f (by omega) hfs with z | z
            · subst z; exact Or.inr q
            · exact Or.inr (elt_trans q z)
        · rw [if_neg q, if_pos rfl]
          refine ⟨_, Or.inr ⟨e, rfl, by omega, hs, fun f hf hfs => ?_⟩, rfl⟩
          by_cases q1 : f = k
          · subst q1
            rcases elt_tri (D := D) (e := f) (f := e) with z | z | z
            · exact Or.inl z
            · exact absurd z q
            · exact Or.inr z
          · exact hl f (by omega) hfs
    · rw [if_pos (zb_eq0.mpr h)]
      rcases hI with ⟨rfl, h0⟩ | ⟨e, rfl, he, hs, hl⟩
      · refine ⟨_, Or.inl ⟨rfl, fun f hf => ?_⟩, rfl⟩
        by_cases q : f = k
        · subst q; exact h
        · exact h0 f (by omega)
      · refine ⟨_, Or.inr ⟨e, rfl, by omega, hs, fun f hf hfs => ?_⟩, rfl⟩
        by_cases q : f = k
        · subst q; exact absurd hfs h
        · exact hl f (by omega) hfs
  · exact Or.inl ⟨rfl, fun f hf => absurd hf (Nat.not_lt_zero _)⟩
def erdy (D : zE) (w : Int64) (e : Nat) : Bool := zm w e && (epa D e &&& w == 0)
def zmo (s : Int64) : Option Nat → Bool
  | none => false
  | some e => zm s e
def efol (D : zE) (w : Int64) (l : Option Nat) (e : Nat) : Bool := erdy D w e && zmo (epa D e) l
def enext (D : zE) (w : Int64) (l : Option Nat) : Option Nat := ((eids D).find? (efol D w l)).or ((eids D).find? (erdy D w))
theorem z_haso {s : Int64} {l : Option Nat} (h : ∀ e, l = some e → e < 40) : m_Text_has s (zo l) = some (zb (zmo s l)) := by
  cases l with
  | none => rw [zo_none, z_has_neg zm1_lt]; rfl
  | some e => rw [zo_some, z_has (by have := h e rfl; omega)]; rfl
theorem zfind_congr {L : List Nat} {P Q : Nat → Bool} (h : ∀ x, x ∈ L → P x = Q x) : L.find? P = L.find? Q := by
  induction L with
  | nil => rfl
  | cons a t ih =>
    rw [List.find?_cons, List.find?_cons, h a List.mem_cons_self, ih (fun x hx => h x (List.mem_cons_of_mem _ hx))]
theorem zbe {a b : Bool} (h : a = true ↔ b = true) : a = b := Bool.eq_iff_iff.mpr h
theorem erdy_iff {D : zE} {w : Int64} {e : Nat} : erdy D w e ↔ zm w e ∧ epa D e &&& w = 0 := by
  unfold erdy; rw [Bool.and_eq_true, beq_iff_eq]
theorem efol_iff {D : zE} {w : Int64} {l : Option Nat} {e : Nat} : efol D w l e ↔ erdy D w e ∧ zmo (epa D e) l := by
  unfold efol; rw [Bool.and_eq_true]
theorem z_nextOf {D : zE} {u : xS} (hO : eOK D) (hu : cE D u) (w : Int64) {l : Option Nat} (hl : ∀ e, l = some e → e < 40) : m_History_nextOf w (zo l) u = some (zo (enext D w l)) := by
  have hn := hO.n
  refine zinv (fun fu (a : Int64 × Int64) k => m_History_nextOf_l9 fu w (zo l) a.1 a.2 (zi k) u) (en D) (fun k a => (∀ x, zm a.1 x ↔ ∃ e, e < k ∧ erdy D w e ∧ x = e) ∧ (∀ x, zm a.2 x ↔ ∃ e, e < k ∧ efol D w l e ∧ x = e)) (fun o => o = some (zo (enext D w l))) ?_ ?_ (en D) 0 xFU (0, 0) (by omega) (by unfold xFU; omega) ?_
  · intro fu a hI
    show m_History_nextOf_s9 _ _ _ _ _ _ _ = _
    unfold m_History_nextOf_s9
    rw [hu.n, if_pos (zle_n (by omega) (by omega) (Nat.le_refl _))]
    have c1 : (eids D).find? (zm a.1 ·) = (eids D).find? (erdy D w) := zfind_congr fun x hx => zbe (by
      rw [hI.1]; exact ⟨fun ⟨e, _, h, q⟩ => q ▸ h, fun h => ⟨x, (eids_mem hO).mp hx, h, rfl⟩⟩)
    have c2 : (eids D).find? (zm a.2 ·) = (eids D).find? (efol D w l) := zfind_congr fun x hx => zbe (by
      rw [hI.2]; exact ⟨fun ⟨e, _, h, q⟩ => q ▸ h, fun h => ⟨x, (eids_mem hO).mp hx, h, rfl⟩⟩)
    unfold m_History_nextOf_b96
    rw [zb1 (z_leastOf hO hu a.1), zb1 (z_leastOf hO hu a.2), c1, c2]
    unfold enext
    by_cases h : a.2 = 0
    · rw [if_pos h]
      have : (eids D).find? (efol D w l) = none := by
        rw [← c2]
        exact List.find?_eq_none.mpr (fun x _ => zm_eq0.mp h x)
      rw [this]; rfl
    · rw [if_neg h]
      obtain ⟨x, hx⟩ := zm_ne0.mp h
      have : (eids D).find? (efol D w l) ≠ none := by
        rw [← c2]
        intro q
        obtain ⟨e, he, _, rfl⟩ := (hI.2 x).mp hx
        exact List.find?_eq_none.mp q x ((eids_mem hO).mpr he) hx
      obtain ⟨y, hy⟩ := Option.ne_none_iff_exists'.mp this
      rw [hy]; rfl
  · intro fu a k hk hI
    refine Or.inl ?_
    show ∃ a' : Int64 × Int64, _ ∧ m_History_nextOf_s9 _ _ _ _ _ _ _ = _
    unfold m_History_nextOf_s9
    rw [hu.n, if_neg (zle_nn (by omega) (by omega) hk), zb1 (z_has (by omega)), zsucc, zg (zin (by omega) (by omega)), zi_nat (by omega), hu.pa hk, zb1 (z_bit k), zb1 (z_haso hl), zb1 (z_bit k)]
    by_cases h : zm w k
    · rw [if_neg (fun q => (zb_eq0.mp q) h)]
      by_cases h2 : epa D k &&& w = 0
      · rw [if_pos h2]
        have hr : erdy D w k := erdy_iff.mpr ⟨h, h2⟩
        by_cases h3 : zmo (epa D k) l
        · rw [if_neg (fun q => (zb_eq0.mp q) h3)]
          refine ⟨(a.1 ||| zbit k, a.2 ||| zbit k), ⟨fun x => ?_, fun x => ?_⟩, rfl⟩
          · rw [zm_or, hI.1, zex_succ, zor_yes hr, zm_bit (by omega)]
          · rw [zm_or, hI.2, zex_succ, zor_yes (efol_iff.mpr ⟨hr, h3⟩), zm_bit (by omega)]
        · rw [if_pos (zb_eq0.mpr h3)]
          refine ⟨(a.1 ||| zbit k, a.2), ⟨fun x => ?_, fun x => ?_⟩, rfl⟩
          · rw [zm_or, hI.1, zex_succ, zor_yes hr, zm_bit (by omega)]
          · rw [hI.2, zex_succ, zor_no (fun q => h3 (efol_iff.mp q).2)]
      · rw [if_neg h2]
        have hr : ¬ erdy D w k := fun q => h2 (erdy_iff.mp q).2
        refine ⟨a, ⟨fun x => ?_, fun x => ?_⟩, rfl⟩
        · rw [hI.1, zex_succ, zor_no hr]
        · rw [hI.2, zex_succ, zor_no (fun q => hr (efol_iff.mp q).1)]
    · rw [if_pos (zb_eq0.mpr h)]
      have hr : ¬ erdy D w k := fun q => h (erdy_iff.mp q).1
      refine ⟨a, ⟨fun x => ?_, fun x => ?_⟩, rfl⟩
      · rw [hI.1, zex_succ, zor_no hr]
      · rw [hI.2, zex_succ, zor_no (fun q => hr (efol_iff.mp q).1)]
  · exact ⟨fun x => ⟨fun h => absurd h zm_zero, fun h => absurd h zex_zero⟩, fun x => ⟨fun h => absurd h zm_zero, fun h => absurd h zex_zero⟩⟩
theorem z_can {D : zE} {v : xS} (hO : eOK D) (hv : mE D v) {s t : Int64} {e : Nat} (he : e < en D) : m_Model_can s t (zi e) v = some (zb (erdy D (s &&& (t ^^^ (-1 : Int64))) e)) := by
  have hn := hO.n
  unfold m_Model_can
  rw [zb1 (z_in (by omega)), zb1 (z_in (by omega)), zg (zin (by omega) (by omega)), zi_nat (by omega), hv.pa he]
  have e0 : epa D e &&& s &&& (t ^^^ (-1 : Int64)) = epa D e &&& (s &&& (t ^^^ (-1 : Int64))) := zm_ext fun x => by
    rw [zm_and, zm_and, zm_and, zm_and, and_assoc]
  rw [e0]
  by_cases h : zm s e
  · rw [if_neg (fun q => (zb_eq0.mp q) h)]
    by_cases h2 : zm t e
    · rw [if_neg (fun q => (zb_eq0.mp q) h2), zb_neg (fun q => (zm_diff.mp (erdy_iff.mp q).1).2 h2)]
    · rw [if_pos (zb_eq0.mpr h2)]
      by_cases h3 : epa D e &&& (s &&& (t ^^^ (-1 : Int64))) = 0
      · rw [if_pos h3, zb_pos (erdy_iff.mpr ⟨zm_diff.mpr ⟨h, h2⟩, h3⟩)]
      · rw [if_neg h3, zb_neg (fun q => h3 (erdy_iff.mp q).2)]
  · rw [if_pos (zb_eq0.mpr h), zb_neg (fun q => h (zm_diff.mp (erdy_iff.mp q).1).1)]
theorem zo_neg {l : Option Nat} (h : ∀ e, l = some e → e < 40) : zo l < 0 ↔ l = none := by
  cases l with
  | none => exact ⟨fun _ => rfl, fun _ => zm1_lt⟩
  | some e => exact ⟨fun q => absurd q (znn (by have := h e rfl; omega)), fun q => (by cases q)⟩
theorem zo_ge {l : Option Nat} (h : ∀ e, l = some e → e < 40) : 0 ≤ zo l ↔ l ≠ none := by
  cases l with
  | none => exact ⟨fun q => absurd q (by decide), fun q => absurd rfl q⟩
  | some e => exact ⟨fun _ q => (by cases q), fun _ => zge0 (by have := h e rfl; omega)⟩
theorem z_mnext_in {D : zE} {v : xS} (hO : eOK D) (hv : mE D v) {s t : Int64} {l : Option Nat} (hl : ∀ e, l = some e → e < 40) {c : Nat} (hc : c < 3) (K : Int64 → Int64 → Int32 → Int32 → Int32 → xS → Option Int32) :
    ∀ d k fu (a : Option Nat), k + d = en D → d < fu → (∀ e, a = some e → e < 40) → m_Model_nextOf_l15 K fu s t (zo l) (zo a) (zi c) (zi k) v = match (eis D c k).find? (efol D (s &&& (t ^^^ (-1 : Int64))) l) with
      | some e => some (zi e)
      | none => K s t (zo l) (zo (a.or ((eis D c k).find? (erdy D (s &&& (t ^^^ (-1 : Int64))))))) (zi (c + 1)) v := by
  have hn := hO.n
  intro d
  induction d with
  | zero =>
    intro k fu a hk hf _
    obtain ⟨g, rfl⟩ : ∃ g, fu = g + 1 := ⟨fu - 1, by omega⟩
    show m_Model_nextOf_s15 _ _ _ _ _ _ _ _ _ = _
    unfold m_Model_nextOf_s15
    rw [hv.n, if_pos (zle_n (by omega) (by omega) (by omega)), eis_end (by omega), zsucc]
    show _ = K s t (zo l) (zo (a.or none)) (zi (c + 1)) v
    rw [Option.or_none]
  | succ d ih =>
    intro k fu a hk hf ha
    obtain ⟨g, rfl⟩ : ∃ g, fu = g + 1 := ⟨fu - 1, by omega⟩
    show m_Model_nextOf_s15 _ _ _ _ _ _ _ _ _ = _
    unfold m_Model_nextOf_s15 m_Model_nextOf_b70
    have hkn : k < en D := by omega
    have hs3 := hO.si hkn
    rw [hv.n, if_neg (zle_nn (by omega) (by omega) hkn), zg (zin (by omega) (by omega)), zi_nat (by omega), hv.si hkn, zb1 (z_can hO hv hkn), zsucc, hv.pa hkn, eis_step hkn]
    by_cases q : esi D k = c
    · rw [if_pos (by rw [q]), if_pos q, List.find?_cons, List.find?_cons]
      generalize hw : s &&& (t ^^^ (-1 : Int64)) = w at *
      cases hr : erdy D w k with
      | false =>
        have hf : efol D w l k = false := by unfold efol; rw [hr]; rfl
        rw [if_pos (zb_eq0.mpr (by simp)), hf]
        exact ih (k + 1) g a (by omega) (by omega) ha
      | true =>
        rw [if_neg (fun z => (zb_eq0.mp z) rfl)]
        have hfe : efol D w l k = zmo (epa D k) l := by unfold efol; rw [hr]; rfl
        have cont : efol D w l k = false → (if 0 ≤ zo a then m_Model_nextOf_l15 K g s t (zo l) (zo a) (zi c) (zi (k + 1)) v else m_Model_nextOf_l15 K g s t (zo l) (zi k) (zi c) (zi (k + 1)) v) = (match match efol D w l k with
            | true => some k
            | false => List.find? (efol D w l) (eis D c (k + 1)) with
            | some e => some (zi e)
            | none => K s t (zo l) (zo (a.or (some k))) (zi (c + 1)) v) := by
          intro hf
          rw [hf]
          cases a with
          | none =>
            rw [if_neg (show ¬ (0 : Int32) ≤ zo none from by decide)]
            have := ih (k + 1) g (some k) (by omega) (by omega) (fun e he => by cases he; omega)
            rw [← zo_some k, this]; rfl
          | some b =>
            rw [if_pos (show (0 : Int32) ≤ zo (some b) from zge0 (by have := ha b rfl; omega))]
            have := ih (k + 1) g (some b) (by omega) (by omega) ha
            rw [this]; rfl
        cases l with
        | none =>
          rw [if_pos (show zo none < 0 from zm1_lt)]
          exact cont hfe
        | some y =>
          have hy := hl y rfl
          rw [if_neg (show ¬ zo (some y) < 0 from znn (by omega)), zo_some, zb1 (z_in (by omega))]
          cases hz : zm (epa D k) y with
          | true =>
            rw [if_neg (fun z => (zb_eq0.mp z) rfl), hfe]
            show _ = match match zm (epa D k) y with
              | true => some k
              | false => _ with
              | some e => some (zi e)
              | none => _
            rw [hz]
          | false =>
            rw [if_pos (zb_eq0.mpr (by simp))]
            exact cont (hfe.trans hz)
    · rw [if_neg (fun z => q ((zeq (by omega) (by omega)).mp z)), if_neg q]
      exact ih (k + 1) g a (by omega) (by omega) ha
theorem zfind_mem {L : List Nat} {P : Nat → Bool} {e : Nat} (h : L.find? P = some e) : e ∈ L ∧ P e := ⟨List.mem_of_find?_eq_some h, List.find?_some h⟩
theorem z_mnext_out {D : zE} {v : xS} (hO : eOK D) (hv : mE D v) {s t : Int64} {l : Option Nat} (hl : ∀ e, l = some e → e < 40) :
    ∀ d fu (a : Option Nat), d ≤ 3 → d < fu → (∀ e, a = some e → e < 40) → m_Model_nextOf_l6 fu s t (zo l) (zo a) (zi (3 - d)) v = some (zo (((efr D d).find? (efol D (s &&& (t ^^^ (-1 : Int64))) l)).or (a.or ((efr D d).find? (erdy D (s &&& (t ^^^ (-1 : Int64)))))))) := by
  have hn := hO.n
  intro d
  induction d with
  | zero =>
    intro fu a _ hf _
    obtain ⟨g, rfl⟩ : ∃ g, fu = g + 1 := ⟨fu - 1, by omega⟩
    show m_Model_nextOf_s6 _ _ _ _ _ _ _ = _
    unfold m_Model_nextOf_s6
    rw [if_pos (show (3 : Int32) ≤ zi (3 - 0) from by decide)]
    show some (zo a) = some (zo (a.or none))
    rw [Option.or_none]
  | succ d ih =>
    intro fu a hd hf ha
    obtain ⟨g, rfl⟩ : ∃ g, fu = g + 1 := ⟨fu - 1, by omega⟩
    show m_Model_nextOf_s6 _ _ _ _ _ _ _ = _
    unfold m_Model_nextOf_s6
    rw [if_neg (show ¬ (3 : Int32) ≤ zi (3 - (d + 1)) from zle_nn (b := 3) (by omega) (by omega) (by omega))]
    rw [show (0 : Int32) = zi 0 from rfl, z_mnext_in hO hv hl (by omega) _ (en D) 0 xFU a (by omega) (by unfold xFU; omega) ha]
    show _ = some (zo (((eis D (2 - d) 0 ++ efr D d).find? _).or (a.or ((eis D (2 - d) 0 ++ efr D d).find? _))))
    rw [show 3 - (d + 1) = 2 - d from by omega, List.find?_append, List.find?_append]
    cases h : (eis D (2 - d) 0).find? (efol D (s &&& (t ^^^ (-1 : Int64))) l) with
    | some e => rfl
    | none =>
      rw [show 2 - d + 1 = 3 - d from by omega]
      show m_Model_nextOf_l6 g s t (zo l) _ (zi (3 - d)) v = _
      rw [ih g _ (by omega) (by omega)]
      · rw [Option.none_or, Option.or_assoc]
      · intro e he
        have hb : a = some e ∨ (eis D (2 - d) 0).find? (erdy D (s &&& (t ^^^ (-1 : Int64)))) = some e := by
          cases a with
          | none => exact Or.inr he
          | some b => exact Or.inl he
        rcases hb with q | q
        · exact ha e q
        · have := (eis_mem.mp (zfind_mem q).1).2.1
          omega
theorem z_mnext {D : zE} {v : xS} (hO : eOK D) (hv : mE D v) (s t : Int64) {l : Option Nat} (hl : ∀ e, l = some e → e < 40) : m_Model_nextOf s t (zo l) v = some (zo (enext D (s &&& (t ^^^ (-1 : Int64))) l)) := by
  have := z_mnext_out hO hv (s := s) (t := t) hl 3 xFU none (by omega) (by decide) (fun e h => by cases h)
  exact this
theorem enext_lt {D : zE} (hO : eOK D) {w : Int64} {l : Option Nat} {e : Nat} (h : enext D w l = some e) : e < en D ∧ erdy D w e := by
  unfold enext at h
  cases h1 : (eids D).find? (efol D w l) with
  | some x =>
    rw [h1] at h
    cases h
    exact ⟨(eids_mem hO).mp (zfind_mem h1).1, (efol_iff.mp (zfind_mem h1).2).1⟩
  | none =>
    rw [h1] at h
    exact ⟨(eids_mem hO).mp (zfind_mem h).1, (zfind_mem h).2⟩
theorem enext_some {D : zE} (hO : eOK D) {w : Int64} {l : Option Nat} (hw : zbel (en D) w) (h : w ≠ 0) : ∃ e, enext D w l = some e := by
  have hr : ∃ e, e < en D ∧ erdy D w e := by
    obtain ⟨x, hx⟩ := zm_ne0.mp h
    induction x using Nat.strongRecOn with
    | ind x ih =>
      by_cases hp : epa D x &&& w = 0
      · exact ⟨x, hw x hx, erdy_iff.mpr ⟨hx, hp⟩⟩
      · obtain ⟨y, hy⟩ := zm_ne0.mp hp
        have hy := zm_and.mp hy
        exact ih y (hO.sub (hw x hx) y (hO.paan (hw x hx) hy.1)) hy.2
  obtain ⟨e, he, hr⟩ := hr
  unfold enext
  cases h1 : (eids D).find? (efol D w l) with
  | some x => exact ⟨x, rfl⟩
  | none =>
    cases h2 : (eids D).find? (erdy D w) with
    | some x => exact ⟨x, rfl⟩
    | none => exact absurd hr (List.find?_eq_none.mp h2 e ((eids_mem hO).mpr he))
def eord (D : zE) : Nat → Int64 → Option Nat → List Nat
  | 0, _, _ => []
  | f + 1, w, l => match enext D w l with
    | none => []
    | some e => e :: eord D f (w &&& (zbit e ^^^ (-1 : Int64))) (some e)
theorem enext_none {D : zE} {l : Option Nat} : enext D 0 l = none := by
  unfold enext
  have h1 : (eids D).find? (efol D 0 l) = none := List.find?_eq_none.mpr (fun x _ q => zm_zero (erdy_iff.mp (efol_iff.mp q).1).1)
  have h2 : (eids D).find? (erdy D 0) = none := List.find?_eq_none.mpr (fun x _ q => zm_zero (erdy_iff.mp q).1)
  rw [h1, h2]; rfl
