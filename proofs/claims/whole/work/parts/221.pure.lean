def zu {α : Type} (f : Nat → α) (n : Nat) (x : α) : Nat → α := fun e => if e = n then x else f e
theorem zu_at {α : Type} {f : Nat → α} {n : Nat} {x : α} : zu f n x n = x := if_pos rfl
theorem zu_ne {α : Type} {f : Nat → α} {n e : Nat} {x : α} (h : e ≠ n) : zu f n x e = f e := if_neg h
def epush (D : zE) (r nu ix ch : Nat) (b : Bool) (g p : Int64) : zE :=
  (en D + 1, zu (esi D) (en D) r, zu (enu D) (en D) nu, zu (eix D) (en D) ix, zu (ech D) (en D) ch, zu (ein D) (en D) b, zu (ean D) (en D) g, zu (epa D) (en D) p)
theorem ep_n {D : zE} {r nu ix ch : Nat} {b : Bool} {g p : Int64} : en (epush D r nu ix ch b g p) = en D + 1 := rfl
theorem ep_si {D : zE} {r nu ix ch : Nat} {b : Bool} {g p : Int64} {e : Nat} (h : e < en D) : esi (epush D r nu ix ch b g p) e = esi D e := zu_ne (by omega)
theorem ep_nu {D : zE} {r nu ix ch : Nat} {b : Bool} {g p : Int64} {e : Nat} (h : e < en D) : enu (epush D r nu ix ch b g p) e = enu D e := zu_ne (by omega)
theorem ep_ix {D : zE} {r nu ix ch : Nat} {b : Bool} {g p : Int64} {e : Nat} (h : e < en D) : eix (epush D r nu ix ch b g p) e = eix D e := zu_ne (by omega)
theorem ep_ch {D : zE} {r nu ix ch : Nat} {b : Bool} {g p : Int64} {e : Nat} (h : e < en D) : ech (epush D r nu ix ch b g p) e = ech D e := zu_ne (by omega)
theorem ep_in {D : zE} {r nu ix ch : Nat} {b : Bool} {g p : Int64} {e : Nat} (h : e < en D) : ein (epush D r nu ix ch b g p) e = ein D e := zu_ne (by omega)
theorem ep_an {D : zE} {r nu ix ch : Nat} {b : Bool} {g p : Int64} {e : Nat} (h : e < en D) : ean (epush D r nu ix ch b g p) e = ean D e := zu_ne (by omega)
theorem ep_pa {D : zE} {r nu ix ch : Nat} {b : Bool} {g p : Int64} {e : Nat} (h : e < en D) : epa (epush D r nu ix ch b g p) e = epa D e := zu_ne (by omega)
theorem ep_si1 {D : zE} {r nu ix ch : Nat} {b : Bool} {g p : Int64} : esi (epush D r nu ix ch b g p) (en D) = r := zu_at
theorem ep_nu1 {D : zE} {r nu ix ch : Nat} {b : Bool} {g p : Int64} : enu (epush D r nu ix ch b g p) (en D) = nu := zu_at
theorem ep_ix1 {D : zE} {r nu ix ch : Nat} {b : Bool} {g p : Int64} : eix (epush D r nu ix ch b g p) (en D) = ix := zu_at
theorem ep_ch1 {D : zE} {r nu ix ch : Nat} {b : Bool} {g p : Int64} : ech (epush D r nu ix ch b g p) (en D) = ch := zu_at
theorem ep_in1 {D : zE} {r nu ix ch : Nat} {b : Bool} {g p : Int64} : ein (epush D r nu ix ch b g p) (en D) = b := zu_at
theorem ep_an1 {D : zE} {r nu ix ch : Nat} {b : Bool} {g p : Int64} : ean (epush D r nu ix ch b g p) (en D) = g := zu_at
theorem ep_pa1 {D : zE} {r nu ix ch : Nat} {b : Bool} {g p : Int64} : epa (epush D r nu ix ch b g p) (en D) = p := zu_at
theorem ep_cnt {D : zE} {r nu ix ch : Nat} {b : Bool} {g p : Int64} {q : Nat} : ∀ {k : Nat}, k ≤ en D → ecnt (epush D r nu ix ch b g p) q k = ecnt D q k := by
  intro k
  induction k with
  | zero => intro _; rfl
  | succ k ih =>
    intro hk
    show ecnt _ q k + (if esi (epush D r nu ix ch b g p) k = q then 1 else 0) = ecnt D q k + if esi D k = q then 1 else 0
    rw [ih (by omega), ep_si (by omega)]
theorem zlt_succ {n e : Nat} (h : e < n + 1) : e = n ∨ e < n := by omega
theorem ep_cl {D : zE} {r nu ix ch : Nat} {b : Bool} {g p : Int64} {s : Int64} (hb : zbel (en D) s) (hc : zcl D s) : zcl (epush D r nu ix ch b g p) s := fun e he x hx => by
  rw [ep_an (hb e he)] at hx
  exact hc e he x hx
theorem epush_ok {D : zE} (hO : eOK D) {r nu ix ch : Nat} {b : Bool} {g p : Int64} (hn : en D < 40) (hr : r < 3) (hnu : nu = ecnt D r (en D)) (hix : ix ≤ 40) (hch : ch ≤ 126) (hg : zbel (en D) g) (hgc : zcl D g)
    (hp : ∀ x, zm p x ↔ zm g x ∧ ¬ ∃ e, e < en D ∧ zm g e ∧ zm (ean D e) x) (hown : ∀ e, e < en D → esi D e = r → zm g e) : eOK (epush D r nu ix ch b g p) := by
  refine ⟨by rw [ep_n]; omega, ?_, ?_, ?_, ?_, ?_, ?_, ?_, ?_⟩
  · intro e he
    rcases zlt_succ he with rfl | q
    · rw [ep_si1]; exact hr
    · rw [ep_si q]; exact hO.si q
  · intro e he
    rcases zlt_succ he with rfl | q
    · rw [ep_nu1, ep_si1, ep_cnt (Nat.le_refl _)]; exact hnu
    · rw [ep_nu q, ep_si q, ep_cnt (by omega)]; exact hO.nu q
  · intro e he
    rcases zlt_succ he with rfl | q
    · rw [ep_an1]; exact hg
    · rw [ep_an q]; exact hO.sub q
  · intro e he
    rcases zlt_succ he with rfl | q
    · rw [ep_an1]; exact ep_cl hg hgc
    · rw [ep_an q]; exact ep_cl (fun x hx => by have := hO.sub q x hx; omega) (hO.cl q)
  · intro e he x
    rcases zlt_succ he with rfl | q
    · rw [ep_pa1, ep_an1, hp]
      have : (∃ f, zm g f ∧ zm (ean (epush D r nu ix ch b g p) f) x) ↔ ∃ e, e < en D ∧ zm g e ∧ zm (ean D e) x := by
        constructor
        · rintro ⟨f, h1, h2⟩
          rw [ep_an (hg f h1)] at h2
          exact ⟨f, hg f h1, h1, h2⟩
        · rintro ⟨f, h0, h1, h2⟩
          exact ⟨f, h1, by rw [ep_an h0]; exact h2⟩
      rw [this]
    · rw [ep_pa q, ep_an q, hO.pa q]
      have : (∃ f, zm (ean D e) f ∧ zm (ean (epush D r nu ix ch b g p) f) x) ↔ ∃ f, zm (ean D e) f ∧ zm (ean D f) x := by
        constructor
        · rintro ⟨f, h1, h2⟩
          have := hO.sub q f h1
          rw [ep_an (by omega)] at h2
          exact ⟨f, h1, h2⟩
        · rintro ⟨f, h1, h2⟩
          have := hO.sub q f h1
          exact ⟨f, h1, by rw [ep_an (by omega)]; exact h2⟩
      rw [this]
  · intro e he
    rcases zlt_succ he with rfl | q
    · rw [ep_ix1]; exact hix
    · rw [ep_ix q]; exact hO.ix q
  · intro e he
    rcases zlt_succ he with rfl | q
    · rw [ep_ch1]; exact hch
    · rw [ep_ch q]; exact hO.ch q
  · intro e f hef hf hs
    rcases zlt_succ hf with rfl | q
    · rw [ep_an1]
      rw [ep_si hef, ep_si1] at hs
      exact hown e hef hs
    · rw [ep_an q]
      rw [ep_si (by omega), ep_si q] at hs
      exact hO.own hef q hs
theorem cE_push {D : zE} {u w : xS} (hu : cE D u) {r nu ix ch : Nat} {b : Bool} {g p : Int64} (hr : r < 3) (hnu : nu = ecnt D r (en D)) (hO : eOK D) (hn : en D < 40)
    (hI : ∀ k, k < 4 → ∀ e, e < en D → xs_I w k e = xs_I u k e) (hL : ∀ k, k < 2 → ∀ e, e < en D → xs_L w k e = xs_L u k e) (h : xs_i w 0 = zi (en D + 1))
    (h0 : xs_I w 0 (en D) = zi r) (h1 : xs_I w 1 (en D) = zi nu) (h2 : xs_I w 2 (en D) = zi ix) (h3 : xs_I w 3 (en D) = if b then zi ch else -1) (hp : xs_L w 0 (en D) = p) (hg : xs_L w 1 (en D) = g)
    (h4 : xs_I w 4 = upd (xs_I u 4) (r * 40 + nu) (zi (en D))) (h5 : xs_I w 5 = upd (xs_I u 5) r (zi (nu + 1))) : cE (epush D r nu ix ch b g p) w := by
  refine ⟨h, ?_, ?_, ?_, ?_, ?_, ?_, ?_, ?_⟩
  · intro e he
    rcases zlt_succ he with rfl | q
    · rw [h0, ep_si1]
    · rw [hI 0 (by omega) e q, ep_si q, hu.si q]
  · intro e he
    rcases zlt_succ he with rfl | q
    · rw [h1, ep_nu1]
    · rw [hI 1 (by omega) e q, ep_nu q, hu.nu q]
  · intro e he
    rcases zlt_succ he with rfl | q
    · rw [h2, ep_ix1]
    · rw [hI 2 (by omega) e q, ep_ix q, hu.ix q]
  · intro e he
    rcases zlt_succ he with rfl | q
    · rw [h3, ep_in1, ep_ch1]
    · rw [hI 3 (by omega) e q, ep_in q, ep_ch q, hu.ch q]
  · intro e he
    rcases zlt_succ he with rfl | q
    · rw [hp, ep_pa1]
    · rw [hL 0 (by omega) e q, ep_pa q, hu.pa q]
  · intro e he
    rcases zlt_succ he with rfl | q
    · rw [hg, ep_an1]
    · rw [hL 1 (by omega) e q, ep_an q, hu.an q]
  · intro e he
    rcases zlt_succ he with rfl | q
    · rw [h4, ep_si1, ep_nu1, zup]
    · rw [h4, ep_si q, ep_nu q, zupn ?_, hu.sl q]
      intro z
      have a1 := hO.nu40 q
      have a2 := hO.si q
      have a3 := ecnt_le D r (en D)
      have e1 : esi D e = r := by omega
      have e2 : enu D e = nu := by omega
      have e3 := hO.nu q
      have e4 : ecnt D r (e + 1) = ecnt D r e + 1 := by
        show _ + _ = _
        rw [if_pos e1]
      have e5 := ecnt_mono D r (show e + 1 ≤ en D from q)
      rw [e1] at e3
      omega
  · intro q hq
    rw [h5]
    show upd (xs_I u 5) r (zi (nu + 1)) q = zi (ecnt (epush D r nu ix ch b g p) q (en D) + if esi (epush D r nu ix ch b g p) (en D) = q then 1 else 0)
    rw [ep_cnt (Nat.le_refl _), ep_si1]
    by_cases z : q = r
    · subst z; rw [zup, if_pos rfl, hnu]
    · rw [zupn z, if_neg (fun y => z y.symm), hu.ma hq]; rfl
theorem mE_push {D : zE} {v w : xS} (hv : mE D v) {r nu ix ch : Nat} {b : Bool} {g p : Int64}
    (hI : ∀ k, k < 5 → ∀ e, e < en D → xs_I w k e = xs_I v k e) (hL : ∀ k, k < 2 → ∀ e, e < en D → xs_L w k e = xs_L v k e) (h : xs_i w 0 = zi (en D + 1))
    (h0 : xs_I w 0 (en D) = zi r) (h1 : xs_I w 1 (en D) = zi nu) (h2 : xs_I w 2 (en D) = zb b) (h3 : xs_I w 3 (en D) = zi ix) (h4 : b → xs_I w 4 (en D) = zi ch) (hg : xs_L w 0 (en D) = g) (hp : xs_L w 1 (en D) = p) : mE (epush D r nu ix ch b g p) w := by
  refine ⟨h, ?_, ?_, ?_, ?_, ?_, ?_, ?_⟩
  · intro e he
    rcases zlt_succ he with rfl | q
    · rw [h0, ep_si1]
    · rw [hI 0 (by omega) e q, ep_si q, hv.si q]
  · intro e he
    rcases zlt_succ he with rfl | q
    · rw [h1, ep_nu1]
    · rw [hI 1 (by omega) e q, ep_nu q, hv.nu q]
  · intro e he
    rcases zlt_succ he with rfl | q
    · rw [h2, ep_in1]
    · rw [hI 2 (by omega) e q, ep_in q, hv.ins q]
  · intro e he
    rcases zlt_succ he with rfl | q
    · rw [h3, ep_ix1]
    · rw [hI 3 (by omega) e q, ep_ix q, hv.ix q]
  · intro e he hi
    rcases zlt_succ he with rfl | q
    · rw [ep_in1] at hi
      rw [h4 hi, ep_ch1]
    · rw [ep_in q] at hi
      rw [hI 4 (by omega) e q, ep_ch q, hv.ch q hi]
  · intro e he
    rcases zlt_succ he with rfl | q
    · rw [hg, ep_an1]
    · rw [hL 0 (by omega) e q, ep_an q, hv.an q]
  · intro e he
    rcases zlt_succ he with rfl | q
    · rw [hp, ep_pa1]
    · rw [hL 1 (by omega) e q, ep_pa q, hv.pa q]
theorem cE_same {D : zE} {u w : xS} (hu : cE D u) (hi : xs_i w 0 = xs_i u 0) (hI : ∀ k, k < 4 → ∀ e, e < en D → xs_I w k e = xs_I u k e) (hL : ∀ k, k < 2 → ∀ e, e < en D → xs_L w k e = xs_L u k e) (h4 : xs_I w 4 = xs_I u 4) (h5 : xs_I w 5 = xs_I u 5) : cE D w := by
  refine ⟨by rw [hi, hu.n], fun e he => ?_, fun e he => ?_, fun e he => ?_, fun e he => ?_, fun e he => ?_, fun e he => ?_, fun e he => ?_, fun r hr => ?_⟩
  · rw [hI 0 (by omega) e he, hu.si he]
  · rw [hI 1 (by omega) e he, hu.nu he]
  · rw [hI 2 (by omega) e he, hu.ix he]
  · rw [hI 3 (by omega) e he, hu.ch he]
  · rw [hL 0 (by omega) e he, hu.pa he]
  · rw [hL 1 (by omega) e he, hu.an he]
  · rw [h4, hu.sl he]
  · rw [h5, hu.ma hr]
theorem mE_same {D : zE} {v w : xS} (hv : mE D v) (hi : xs_i w 0 = xs_i v 0) (hI : ∀ k, k < 5 → ∀ e, e < en D → xs_I w k e = xs_I v k e) (hL : ∀ k, k < 2 → ∀ e, e < en D → xs_L w k e = xs_L v k e) : mE D w := by
  refine ⟨by rw [hi, hv.n], fun e he => ?_, fun e he => ?_, fun e he => ?_, fun e he => ?_, fun e he h => ?_, fun e he => ?_, fun e he => ?_⟩
  · rw [hI 0 (by omega) e he, hv.si he]
  · rw [hI 1 (by omega) e he, hv.nu he]
  · rw [hI 2 (by omega) e he, hv.ins he]
  · rw [hI 3 (by omega) e he, hv.ix he]
  · rw [hI 4 (by omega) e he, hv.ch he h]
  · rw [hL 0 (by omega) e he, hv.an he]
  · rw [hL 1 (by omega) e he, hv.pa he]
