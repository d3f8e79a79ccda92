theorem eis_push {D : zE} {r nu ix ch : Nat} {b : Bool} {g p : Int64} {s : Nat} : eis (epush D r nu ix ch b g p) s 0 = eis D s 0 ++ (if r = s then [en D] else []) := by
  unfold eis
  rw [ep_n, Nat.sub_zero, Nat.sub_zero, List.range'_1_concat, List.filter_append, Nat.zero_add]
  congr 1
  · apply List.filter_congr
    intro x hx
    have := List.mem_range'_1.mp hx
    rw [ep_si (by omega)]
  · rw [List.filter_cons]
    have h : esi (epush D r nu ix ch b g p) (en D) = r := ep_si1
    by_cases q : r = s
    · rw [if_pos q, h, q]; simp
    · rw [if_neg q, h]; simp [q]
theorem efr_push {D : zE} {r nu ix ch : Nat} {b : Bool} {g p : Int64} {P : Nat → Bool} (hP : P (en D) = false) : ∀ d, (efr (epush D r nu ix ch b g p) d).filter P = (efr D d).filter P := by
  intro d
  induction d with
  | zero => rfl
  | succ d ih =>
    show (eis (epush D r nu ix ch b g p) (2 - d) 0 ++ efr (epush D r nu ix ch b g p) d).filter P = (eis D (2 - d) 0 ++ efr D d).filter P
    rw [List.filter_append, List.filter_append, ih, eis_push, List.filter_append]
    have : (if r = 2 - d then [en D] else []).filter P = [] := by
      split
      · rw [List.filter_cons, hP]; rfl
      · rfl
    rw [this, List.append_nil]
theorem eids_push {D : zE} {r nu ix ch : Nat} {b : Bool} {g p : Int64} {P : Nat → Bool} (hP : P (en D) = false) : (eids (epush D r nu ix ch b g p)).filter P = (eids D).filter P := efr_push hP 3
theorem eids_find {D : zE} {r nu ix ch : Nat} {b : Bool} {g p : Int64} {P Q : Nat → Bool} (hO : eOK D) (hP : P (en D) = false) (h : ∀ x, x < en D → P x = Q x) : (eids (epush D r nu ix ch b g p)).find? P = (eids D).find? Q := by
  rw [← List.head?_filter, eids_push hP, List.head?_filter]
  exact zfind_congr fun x hx => h x ((eids_mem hO).mp hx)
theorem znm {n : Nat} {s : Int64} (h : zbel n s) : zm s n = false := by
  cases q : zm s n with
  | false => rfl
  | true => have := h n q; omega
theorem eL_push {D : zE} {r nu ix ch : Nat} {b : Bool} {g p : Int64} {s : Int64} (h : zbel (en D) s) : eL (epush D r nu ix ch b g p) s = eL D s := eids_push (znm h)
theorem enext_push {D : zE} {r nu ix ch : Nat} {b : Bool} {g p : Int64} (hO : eOK D) {w : Int64} (h : zbel (en D) w) (l : Option Nat) : enext (epush D r nu ix ch b g p) w l = enext D w l := by
  unfold enext
  have e1 : ∀ x, x < en D → erdy (epush D r nu ix ch b g p) w x = erdy D w x := fun x hx => by unfold erdy; rw [ep_pa hx]
  have e2 : erdy (epush D r nu ix ch b g p) w (en D) = false := by unfold erdy; rw [znm h]; rfl
  rw [eids_find hO (P := efol (epush D r nu ix ch b g p) w l) (Q := efol D w l) (by unfold efol; rw [e2]; rfl) (fun x hx => by unfold efol; rw [e1 x hx, ep_pa hx]), eids_find hO e2 e1]
theorem eord_push {D : zE} {r nu ix ch : Nat} {b : Bool} {g p : Int64} (hO : eOK D) : ∀ d (w : Int64) (l : Option Nat), zbel (en D) w → eord (epush D r nu ix ch b g p) d w l = eord D d w l := by
  intro d
  induction d with
  | zero => intro w l _; rfl
  | succ d ih =>
    intro w l h
    have e := enext_push (r := r) (nu := nu) (ix := ix) (ch := ch) (b := b) (g := g) (p := p) hO h l
    cases hx : enext D w l with
    | none => rw [eord_none (e.trans hx), eord_none hx]
    | some y => rw [eord_some (e.trans hx), eord_some hx, ih _ _ (fun x hx => h x (zm_diff.mp hx).1)]
theorem eruns_push {D : zE} {r nu ix ch : Nat} {b : Bool} {g p : Int64} : ∀ (t : List Nat) (f c : Nat), f < en D → (∀ e, e ∈ t → e < en D) → eruns (epush D r nu ix ch b g p) f c t = eruns D f c t := by
  intro t
  induction t with
  | nil => intro f c hf _; unfold eruns; rw [ep_si hf, ep_nu hf]
  | cons x t ih =>
    intro f c hf hM
    have hx := hM x List.mem_cons_self
    have ht : ∀ e, e ∈ t → e < en D := fun e he => hM e (List.mem_cons_of_mem _ he)
    unfold eruns
    rw [ep_si hf, ep_si hx, ep_nu hf, ih f _ hf ht, ih x _ hx ht]
theorem ekin_push {D : zE} {r nu ix ch : Nat} {b : Bool} {g p : Int64} : ∀ (t : List Nat) (q : Bool) (c : Nat), (∀ e, e ∈ t → e < en D) → ekin (epush D r nu ix ch b g p) q c t = ekin D q c t := by
  intro t
  induction t with
  | nil => intro q c _; rfl
  | cons x t ih =>
    intro q c hM
    have ht : ∀ e, e ∈ t → e < en D := fun e he => hM e (List.mem_cons_of_mem _ he)
    unfold ekin
    rw [ep_in (hM x List.mem_cons_self), ih _ _ ht, ih _ _ ht]
theorem eidx_push {D : zE} {r nu ix ch : Nat} {b : Bool} {g p : Int64} : ∀ (t : List Nat) (c : Nat), (∀ e, e ∈ t → e < en D) → eidx (epush D r nu ix ch b g p) c t = eidx D c t := by
  intro t
  induction t with
  | nil => intro c _; rfl
  | cons x t ih =>
    intro c hM
    unfold eidx
    rw [ep_ix (hM x List.mem_cons_self), ih _ (fun e he => hM e (List.mem_cons_of_mem _ he))]
theorem echs_push {D : zE} {r nu ix ch : Nat} {b : Bool} {g p : Int64} : ∀ (t : List Nat) (c : Nat), (∀ e, e ∈ t → e < en D) → echs (epush D r nu ix ch b g p) c t = echs D c t := by
  intro t
  induction t with
  | nil => intro c _; rfl
  | cons x t ih =>
    intro c hM
    have ht : ∀ e, e ∈ t → e < en D := fun e he => hM e (List.mem_cons_of_mem _ he)
    unfold echs
    rw [ep_ch (hM x List.mem_cons_self), ep_in (hM x List.mem_cons_self), ih _ ht, ih _ ht]
theorem ecodes_push {D : zE} {r nu ix ch : Nat} {b : Bool} {g p : Int64} : ∀ (t : List Nat), (∀ e, e ∈ t → e < en D) → ecodes (epush D r nu ix ch b g p) t = ecodes D t := by
  intro t
  induction t with
  | nil => intro _; rfl
  | cons x t ih =>
    intro hM
    unfold ecodes
    rw [ep_si (hM x List.mem_cons_self), ep_nu (hM x List.mem_cons_self), ih (fun e he => hM e (List.mem_cons_of_mem _ he))]
theorem epars_push {D : zE} {r nu ix ch : Nat} {b : Bool} {g p : Int64} (hO : eOK D) : ∀ (t : List Nat) (q : Option Nat), (∀ e, e ∈ t → e < en D) → epars (epush D r nu ix ch b g p) q t = epars D q t := by
  intro t
  induction t with
  | nil => intro q _; rfl
  | cons x t ih =>
    intro q hM
    have hx := hM x List.mem_cons_self
    unfold epars
    rw [ep_pa hx, ih _ (fun e he => hM e (List.mem_cons_of_mem _ he)), eL_push (epa_bel hO hx), ecodes_push _ (fun e he => ((eL_mem hO).mp he).1)]
theorem enc_push {D : zE} {r nu ix ch : Nat} {b : Bool} {g p : Int64} (hO : eOK D) {s : Int64} (h : zbel (en D) s) : enc (epush D r nu ix ch b g p) s = enc D s := by
  unfold enc
  rw [eord_push hO 40 s none h]
  have hM : ∀ e, e ∈ eord D 40 s none → e < en D := fun e he => (eord_mem hO 40 s none e he).1
  generalize eord D 40 s none = L at hM
  unfold encL
  have e1 : esites (epush D r nu ix ch b g p) L = esites D L := by
    cases L with
    | nil => rfl
    | cons f t => exact eruns_push t f 1 (hM f List.mem_cons_self) (fun e he => hM e (List.mem_cons_of_mem _ he))
  rw [e1, ekin_push _ _ _ hM, eidx_push _ _ hM, echs_push _ _ hM, epars_push hO _ _ hM]
theorem zRel_push {D : zE} {C C2 : zK} {u v x y : xS} (h : zRel D C u v) {r nu ix ch : Nat} {b : Bool} {g p : Int64} (hr : r < 3) (hg : xs_l u (2 + r) = g) (hn : en D < 40)
    (fx : zfr [0, 1, 2, 3, 4, 5, 6, 7, 8, 9] [0, 1, 2] [0, 1] [0, 1, 2 + r] u x) (fy : zfr [0, 1, 2, 3, 4, 5, 6, 7, 8] [0, 1, 2] [0, 1] [] v y)
    (gx : xs_l x (2 + r) = g ||| zbit (en D)) (gy : xs_L y 2 = vp_updL (xs_L v 2) r (g ||| zbit (en D)))
    (h1 : eOK (epush D r nu ix ch b g p)) (h2 : kOK (epush D r nu ix ch b g p) C2) (h3 : cE (epush D r nu ix ch b g p) x) (h4 : mE (epush D r nu ix ch b g p) y) (h5 : cC (epush D r nu ix ch b g p) C2 x) (h6 : mC (epush D r nu ix ch b g p) C2 y) : zRel (epush D r nu ix ch b g p) C2 x y := by
  obtain ⟨hO, hK, hu, hv, huc, hvc, hS, hM, hG⟩ := h
  refine ⟨h1, h2, h3, h4, h5, h6, ⟨fun q hq => ?_, fun a c ha hc => ?_⟩, fun m hm => ?_, ?_⟩
  · by_cases z : q = r
    · subst z
      rw [gx, gy, zuL]
      refine ⟨rfl, fun e he => ?_, fun e he w hw => ?_, fun e he hs => ?_⟩
      · rw [ep_n]
        rcases zm_or.mp he with z | z
        · rw [← hg] at z
          have := hS.gb hq e z
          omega
        · rw [zm_bit (by omega)] at z; omega
      · rcases zm_or.mp he with z | z
        · rw [← hg] at z
          have hb := hS.gb hq e z
          rw [ep_an hb] at hw
          have := hS.gc hq e z w hw
          rw [hg] at this
          exact zm_or.mpr (Or.inl this)
        · rw [zm_bit (by omega)] at z
          subst z
          rw [ep_an1] at hw
          exact zm_or.mpr (Or.inl hw)
      · rcases zlt_succ he with rfl | z
        · exact zm_or.mpr (Or.inr ((zm_bit (by omega)).mpr rfl))
        · rw [ep_si z] at hs
          have := hS.own hq z hs
          rw [hg] at this
          exact zm_or.mpr (Or.inl this)
    · rw [gy, zuLn z, fx.l (by simp <;> omega)]
      refine ⟨hS.g hq, fun e he => ?_, ep_cl (hS.gb hq) (hS.gc hq), fun e he hs => ?_⟩
      · have := hS.gb hq e he
        rw [ep_n]; omega
      · rcases zlt_succ he with rfl | w
        · rw [ep_si1] at hs; exact absurd hs.symm z
        · rw [ep_si w] at hs; exact hS.own hq w hs
  · rw [fy.L (k := 3) (by decide), fx.L (by simp <;> omega)]
    refine ⟨hS.t ha hc, fun w hw => ?_⟩
    have := hS.tg ha hc w hw
    by_cases z : a = r
    · subst z
      rw [gx]
      rw [hg] at this
      exact zm_or.mpr (Or.inl this)
    · rw [fx.l (by simp <;> omega)]; exact this
  · rcases hM m hm with ⟨q1, q2⟩ | q
    · exact Or.inl ⟨by rw [fx.i (by simp <;> omega), q1], by rw [fy.L (by decide), q2]⟩
    · obtain ⟨m1, m2, m3, m4, m5, m6⟩ := q.fr (x := x) (y := y) ⟨fx.i (by simp <;> omega), fx.i (by simp <;> omega), fx.i (by simp <;> omega), fx.i (by simp <;> omega), fx.l (by simp <;> omega), fx.I (by simp <;> omega)⟩ ⟨by rw [fy.L (by decide)], by rw [fy.I (by decide)], by rw [fy.I (by decide)]⟩
      refine Or.inr ⟨m1, m2, m3, fun e he => ?_, m5, ?_⟩
      · have := m4 e he
        rw [ep_n]; omega
      · rw [enc_push hO m4]; exact m6
  · exact hG.fr (fun q hq => ⟨fx.i (by simp <;> omega), fx.i (by simp <;> omega), fx.i (by simp <;> omega), fx.I (by simp <;> omega)⟩) (fun k _ _ => fy.I (by simp <;> omega))
theorem kchain_old {D : zE} {C C2 : zK} (hO : eOK D) (hK : kT D C) (hp : ∀ e, e < en D → kpl C2 e = kpl C e) : ∀ e, kin D e → ∀ x, kchain C2 e x ↔ kchain C e x := by
  have hn := hO.n
  intro e
  induction e using Nat.strongRecOn with
  | ind e ih =>
    intro hk x
    rcases hk with q | ⟨q1, q2⟩
    · subst q; exact ⟨fun h => absurd h kchain_40, fun h => absurd h kchain_40⟩
    · rw [kchain_step (C := C2) (e := e) (by omega), kchain_step (C := C) (e := e) (by omega), hp e q1]
      rcases hK.ins q1 q2 with w | w
      · rw [w]
        exact ⟨fun h => h.elim Or.inl (fun z => absurd z kchain_40), fun h => h.elim Or.inl (fun z => absurd z kchain_40)⟩
      · rw [ih _ w.1 (Or.inr ⟨by omega, w.2⟩) x]
theorem kpath_old {D : zE} {C C2 : zK} (hO : eOK D) (hK : kT D C) (hp : ∀ e, e < en D → kpl C2 e = kpl C e) (ht : ∀ e, e < en D → ein D e → krt C2 e = krt C e) {r nu ix ch : Nat} {b : Bool} {g p : Int64} : ∀ f e, kin D e → kpath (epush D r nu ix ch b g p) C2 f e = kpath D C f e := by
  have hn := hO.n
  intro f
  induction f with
  | zero => intro e _; rfl
  | succ f ih =>
    intro e hk
    show (if e = 40 then [] else kpath _ C2 f (kpl C2 e) ++ [kdig _ C2 e]) = (if e = 40 then [] else kpath D C f (kpl C e) ++ [kdig D C e])
    by_cases q : e = 40
    · rw [if_pos q, if_pos q]
    · rw [if_neg q, if_neg q]
      rcases hk with z | ⟨z1, z2⟩
      · exact absurd z q
      · have hd : kdig (epush D r nu ix ch b g p) C2 e = kdig D C e := by
          unfold kdig erank
          rw [ht e z1 z2, ep_si z1, ep_nu z1]
        rw [hp e z1, ih _ (kin_pl hK z1 z2), hd]
theorem kkey_old {D : zE} {C C2 : zK} (hO : eOK D) (hK : kT D C) (hp : ∀ e, e < en D → kpl C2 e = kpl C e) (ht : ∀ e, e < en D → ein D e → krt C2 e = krt C e) {r nu ix ch : Nat} {b : Bool} {g p : Int64} {e : Nat} (he : kin D e) : kkey (epush D r nu ix ch b g p) C2 e = kkey D C e := by
  unfold kkey
  rw [kpath_old hO hK hp ht 41 e he]
theorem kdep_old {D : zE} {C C2 : zK} (hO : eOK D) (hK : kT D C) (hp : ∀ e, e < en D → kpl C2 e = kpl C e) : ∀ f e, kin D e → kdep C2 f e = kdep C f e := by
  have hn := hO.n
  intro f
  induction f with
  | zero => intro e _; rfl
  | succ f ih =>
    intro e hk
    show (if e = 40 then 0 else kdep C2 f (kpl C2 e) + 1) = (if e = 40 then 0 else kdep C f (kpl C e) + 1)
    by_cases q : e = 40
    · rw [if_pos q, if_pos q]
    · rw [if_neg q, if_neg q]
      rcases hk with z | ⟨z1, z2⟩
      · exact absurd z q
      · rw [hp e z1, ih _ (kin_pl hK z1 z2)]
