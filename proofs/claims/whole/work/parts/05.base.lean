abbrev xS : Type := (Nat → Nat → Int32) × (Nat → Nat → Int64) × (Nat → Int32) × (Nat → Int64)
def xs_I (u : xS) (k : Nat) : Nat → Int32 := u.1 k
def xs_L (u : xS) (k : Nat) : Nat → Int64 := u.2.1 k
def xs_i (u : xS) (k : Nat) : Int32 := u.2.2.1 k
def xs_l (u : xS) (k : Nat) : Int64 := u.2.2.2 k
def xs_sI (u : xS) (k j : Nat) (v : Int32) : xS := (fun q => if q = k then upd (u.1 k) j v else u.1 q, u.2)
def xs_sL (u : xS) (k j : Nat) (v : Int64) : xS := (u.1, fun q => if q = k then vp_updL (u.2.1 k) j v else u.2.1 q, u.2.2)
def xs_si (u : xS) (k : Nat) (v : Int32) : xS := (u.1, u.2.1, fun q => if q = k then v else u.2.2.1 q, u.2.2.2)
def xs_sl (u : xS) (k : Nat) (v : Int64) : xS := (u.1, u.2.1, u.2.2.1, fun q => if q = k then v else u.2.2.2 q)
def xFU : Nat := 200
abbrev xin (i : Int32) (n : Nat) : Prop := ¬ (i < 0 ∨ n ≤ i.toNatClampNeg)
def xg {β : Type} (c : Prop) [Decidable c] (k : Option β) : Option β := if c then k else none
def xb1 {α β : Type} (o : Option α) (k : α → Option β) : Option β := match o with
  | none => none
  | some a => k a
def xb2 {α β : Type} (o : Option (α × xS)) (k : α → xS → Option β) : Option β := match o with
  | none => none
  | some (a, u) => k a u
def xlt {α β : Type} (a : α) (k : α → Option β) : Option β := k a
theorem xlt_some {α β : Type} {a : α} {k : α → Option β} {b : β} (h : xlt a k = some b) : ∃ x, x = a ∧ k x = some b := ⟨a, rfl, h⟩
def xShl (x : Int64) (y : Int32) : Int64 := x <<< (y.toInt64 &&& 63)
def xUshr (x : Int64) (y : Int32) : Int64 := (x.toUInt64 >>> (y.toInt64.toUInt64 &&& Int64.toUInt64 63)).toInt64
theorem xin_lt {i : Int32} {n : Nat} (h : xin i n) : i.toNatClampNeg < n := Nat.not_le.mp fun q => h (Or.inr q)
theorem xg_some {β : Type} {c : Prop} [Decidable c] {k : Option β} {b : β} (h : xg c k = some b) : c ∧ k = some b := by
  unfold xg at h
  by_cases hc : c
  · rw [if_pos hc] at h
    exact ⟨hc, h⟩
  · rw [if_neg hc] at h
    cases h
theorem xb1_some {α β : Type} {o : Option α} {k : α → Option β} {b : β} (h : xb1 o k = some b) : ∃ a, o = some a ∧ k a = some b := by
  cases o with
  | none => cases h
  | some a => exact ⟨a, rfl, h⟩
theorem xb2_some {α β : Type} {o : Option (α × xS)} {k : α → xS → Option β} {b : β} (h : xb2 o k = some b) : ∃ a u, o = some (a, u) ∧ k a u = some b := by
  cases o with
  | none => cases h
  | some q =>
    obtain ⟨a, u⟩ := q
    exact ⟨a, u, rfl, h⟩
theorem xi_pos {β : Type} {c : Prop} [Decidable c] {a b : Option β} {r : β} (hc : c) (h : (if c then a else b) = some r) : a = some r := by
  rw [if_pos hc] at h
  exact h
theorem xi_neg {β : Type} {c : Prop} [Decidable c] {a b : Option β} {r : β} (hc : ¬ c) (h : (if c then a else b) = some r) : b = some r := by
  rw [if_neg hc] at h
  exact h
theorem xnar {v : Int32} (h : v = 0 ∨ v = 1) : narrow .boolean (.int v) = .int v := by
  rcases h with rfl | rfl <;> rfl
theorem xcmp0 {x y : Int64} : lg_cmp x y = 0 ↔ x = y := by
  unfold lg_cmp
  by_cases h1 : x > y
  · rw [if_pos h1]
    exact ⟨fun h => absurd h (by decide), fun h => by subst h; exact absurd h1 (by simp)⟩
  · rw [if_neg h1]
    by_cases h2 : x = y
    · rw [if_pos h2]
      exact ⟨fun _ => h2, fun _ => rfl⟩
    · rw [if_neg h2]
      exact ⟨fun h => absurd h (by decide), fun h => absurd h h2⟩
def xN : Nat → Prop := fun _ => False
def xA (ad : Nat → Nat) (N : Nat) : Nat → Prop := fun q => ∃ k, k < N ∧ q = ad k
def xR (D : va_G) (cl : List vw_C) (tys : List (ClassId × FieldType)) (ws : va_W) (U : State) : Prop := va_P D cl ws U.heap ∧ va_K D cl tys U ∧ xNw U
theorem xp_conv {D : va_G} {cl : List vw_C} {w w2 : va_W} {H : Heap} (h : w = w2) (hP : va_P D cl w H) : va_P D cl w2 H := h ▸ hP
theorem xp_heap {D : va_G} {cl : List vw_C} {w : va_W} {H H2 : Heap} (h : H2 = H) (hP : va_P D cl w H) : va_P D cl w H2 := by
  subst h
  exact hP
theorem xP_kept {D : va_G} {cl : List vw_C} {ws : va_W} {H H1 : Heap} (hP : va_P D cl ws H) (hk : ∀ q : Nat, q < H.size → H1[q]? = H[q]?) : va_P D cl ws H1 := fun k q hq => (hP k q hq).kept (hk q.1 (hP k q hq).lt)
theorem xR_blind {D : va_G} {cl : List vw_C} {tys : List (ClassId × FieldType)} {ws : va_W} {av : List Value} : FrameBlind (va_Pc av (xR D cl tys ws)) := fun a U g mk q => ⟨q.1, q.2.1, va_K.moved (u := U) (U := U.calling g mk a) (Vm.Alike.refl U.vm) q.2.2.1, xNw_same (u := U) (U := U.calling g mk a) rfl q.2.2.2⟩
theorem xpreS {D : va_G} {cl : List vw_C} {tys : List (ClassId × FieldType)} {ws : va_W} {av : List Value} {s : State} {H : Heap} (hP : va_P D cl ws H) (hK : va_K D cl tys s) (hN : xNw s) : PreS s H (va_Pc av (xR D cl tys ws)) av := ⟨xR_blind, fun U hU hW => ⟨rfl, by rw [hU]; exact hP, va_K.moved hW.alike hK, xNw_warm hW hN⟩⟩
theorem xpreS0 {av : List Value} {s : State} {H : Heap} : PreS s H (va_Pc av (fun _ => True)) av := ⟨fun _ _ _ _ q => q, fun _ _ _ => ⟨rfl, trivial⟩⟩
theorem xpreV {D : va_G} {cl : List vw_C} {tys : List (ClassId × FieldType)} {ws : va_W} {As : List Value} {s : State} {H : Heap} {b q0 ci N : Nat} {C : String} {T : u_T} {fs : List Value} (hP : va_P D cl ws H) (hK : va_K D cl tys s) (hN : xNw s) (hc : cl[ci]? = some (C, T, N)) (he : ws[q0]? = some (b, .inr (ci, fs))) : PreV s H C b (va_Pc (.ref b :: As) (xR D cl tys ws)) As := ⟨xR_blind, va_recv hK hP hc he, fun U hU hW => ⟨rfl, by rw [hU]; exact hP, va_K.moved hW.alike hK, xNw_warm hW hN⟩⟩
section XW
variable {p : Program} {l : Launch} {e : Env} {R : Room} {s : State} {m : MethodId} {args : Array Value} {below : List Frame} {meth : Method} {c : Code} {H : Heap} {locs : List Loc} {cells slots : Nat} {Q : State → Prop}
variable {cc : ByteArray} {pc : Nat} {ls : Array Slot} {rest st0 : List Value} {a : Array Value} {D : va_G} {cl : List vw_C} {tys : List (ClassId × FieldType)} {ws : va_W} {A0 A1 : Nat → Prop} {H0 : Heap}
theorem xl_cmp_eq (hexec : p.tables.exec = Jvm.exec) (hb : c.code = cc) {x y : Int64} {off : Int} {tgt : Nat} (h1 : decode cc pc = .ok (.lcmp, 1)) (h2 : decode cc (pc + 1) = .ok (.ifCond .eq off, 3)) (ht : ((pc + 1 : Nat) : Int) + off = (tgt : Int))
    (kt : x = y → W p l e R s m args below meth c H locs cells slots Q (F0 m tgt ls rest)) (kf : ¬ x = y → W p l e R s m args below meth c H locs cells slots Q (F0 m (pc + 1 + 3) ls rest)) : W p l e R s m args below meth c H locs cells slots Q (F0 m pc ls (.long y :: .long x :: rest)) :=
  W.lcmp hexec hb h1 (lv_if_eq hexec hb h2 ht (fun h => kt (xcmp0.mp h)) (fun h => kf (fun q => h (xcmp0.mpr q))))
theorem xl_cmp_ne (hexec : p.tables.exec = Jvm.exec) (hb : c.code = cc) {x y : Int64} {off : Int} {tgt : Nat} (h1 : decode cc pc = .ok (.lcmp, 1)) (h2 : decode cc (pc + 1) = .ok (.ifCond .ne off, 3)) (ht : ((pc + 1 : Nat) : Int) + off = (tgt : Int))
    (kt : ¬ x = y → W p l e R s m args below meth c H locs cells slots Q (F0 m tgt ls rest)) (kf : x = y → W p l e R s m args below meth c H locs cells slots Q (F0 m (pc + 1 + 3) ls rest)) : W p l e R s m args below meth c H locs cells slots Q (F0 m pc ls (.long y :: .long x :: rest)) :=
  W.lcmp hexec hb h1 (lv_if_ne hexec hb h2 ht (fun h => kt (fun q => h (xcmp0.mpr q))) (fun h => kf (xcmp0.mp h)))
theorem xc_i {r : Int32} (hr : va_Run p l e R s m args below meth c H locs cells slots 0 0 (F0 m pc ls st0) rest (va_Qi (fun r9 (_ : Unit) => r9 = r) (fun _ _ => True) xN a) xN) (hP : va_P D cl ws H) (hS : va_S A0 H0 H locs)
    (kk : ∀ (H1 : Heap) (locs1 : List Loc), va_P D cl ws H1 → va_S A0 H0 H1 locs1 → W p l e R s m args below meth c H1 locs1 cells slots Q (F0 m (pc + 3) ls (.int r :: rest))) : W p l e R s m args below meth c H locs cells slots Q (F0 m pc ls st0) :=
  va_calli hr hS (fun _ _ h => h.elim) (fun _ h => h.elim) (fun _ _ _ H1 locs1 _ _ h _ _ hk hS1 => by subst h; exact kk H1 locs1 (xP_kept hP (fun q hq => hk q hq (fun z => z))) hS1)
theorem xc_i0 {r : Int32} (hr : va_Run p l e R s m args below meth c H locs cells slots 0 0 (F0 m pc ls st0) rest (va_Qi (fun r9 (_ : Unit) => r9 = r) (fun _ _ => True) xN a) xN) (hS : va_S A0 H0 H locs)
    (kk : ∀ (H1 : Heap) (locs1 : List Loc), va_S A0 H0 H1 locs1 → W p l e R s m args below meth c H1 locs1 cells slots Q (F0 m (pc + 3) ls (.int r :: rest))) : W p l e R s m args below meth c H locs cells slots Q (F0 m pc ls st0) :=
  va_calli hr hS (fun _ _ h => h.elim) (fun _ h => h.elim) (fun _ _ _ H1 locs1 _ _ h _ _ _ hS1 => by subst h; exact kk H1 locs1 hS1)
theorem xc_l {r : Int64} (hr : va_Run p l e R s m args below meth c H locs cells slots 0 0 (F0 m pc ls st0) rest (va_Ql (fun r9 (_ : Unit) => r9 = r) (fun _ _ => True) xN a) xN) (hP : va_P D cl ws H) (hS : va_S A0 H0 H locs)
    (kk : ∀ (H1 : Heap) (locs1 : List Loc), va_P D cl ws H1 → va_S A0 H0 H1 locs1 → W p l e R s m args below meth c H1 locs1 cells slots Q (F0 m (pc + 3) ls (.long r :: rest))) : W p l e R s m args below meth c H locs cells slots Q (F0 m pc ls st0) :=
  va_calll hr hS (fun _ _ h => h.elim) (fun _ h => h.elim) (fun _ _ _ H1 locs1 _ _ h _ _ hk hS1 => by subst h; exact kk H1 locs1 (xP_kept hP (fun q hq => hk q hq (fun z => z))) hS1)
theorem xc_l0 {r : Int64} (hr : va_Run p l e R s m args below meth c H locs cells slots 0 0 (F0 m pc ls st0) rest (va_Ql (fun r9 (_ : Unit) => r9 = r) (fun _ _ => True) xN a) xN) (hS : va_S A0 H0 H locs)
    (kk : ∀ (H1 : Heap) (locs1 : List Loc), va_S A0 H0 H1 locs1 → W p l e R s m args below meth c H1 locs1 cells slots Q (F0 m (pc + 3) ls (.long r :: rest))) : W p l e R s m args below meth c H locs cells slots Q (F0 m pc ls st0) :=
  va_calll hr hS (fun _ _ h => h.elim) (fun _ h => h.elim) (fun _ _ _ H1 locs1 _ _ h _ _ _ hS1 => by subst h; exact kk H1 locs1 hS1)
theorem xc_iw {r : Int32} {u1 : xS} {Wd : xS → va_W} (hr : va_Run p l e R s m args below meth c H locs cells slots 0 0 (F0 m pc ls st0) rest (va_Qi (fun r9 (u9 : xS) => r9 = r ∧ u9 = u1) (fun u9 t => va_P D cl (Wd u9) t.heap) A1 a) A1) (hS : va_S A0 H0 H locs) (hA : ∀ q, A1 q → A0 q)
    (kk : ∀ (H1 : Heap) (locs1 : List Loc), va_P D cl (Wd u1) H1 → va_S A0 H0 H1 locs1 → W p l e R s m args below meth c H1 locs1 cells slots Q (F0 m (pc + 3) ls (.int r :: rest))) : W p l e R s m args below meth c H locs cells slots Q (F0 m pc ls st0) :=
  va_calli hr hS (fun q _ h => hA q h) hA (fun _ _ t H1 locs1 ht _ h hB _ _ hS1 => by
    obtain ⟨rfl, rfl⟩ := h
    exact kk H1 locs1 (by rw [← ht]; exact hB) hS1)
theorem xc_lw {r : Int64} {u1 : xS} {Wd : xS → va_W} (hr : va_Run p l e R s m args below meth c H locs cells slots 0 0 (F0 m pc ls st0) rest (va_Ql (fun r9 (u9 : xS) => r9 = r ∧ u9 = u1) (fun u9 t => va_P D cl (Wd u9) t.heap) A1 a) A1) (hS : va_S A0 H0 H locs) (hA : ∀ q, A1 q → A0 q)
    (kk : ∀ (H1 : Heap) (locs1 : List Loc), va_P D cl (Wd u1) H1 → va_S A0 H0 H1 locs1 → W p l e R s m args below meth c H1 locs1 cells slots Q (F0 m (pc + 3) ls (.long r :: rest))) : W p l e R s m args below meth c H locs cells slots Q (F0 m pc ls st0) :=
  va_calll hr hS (fun q _ h => hA q h) hA (fun _ _ t H1 locs1 ht _ h hB _ _ hS1 => by
    obtain ⟨rfl, rfl⟩ := h
    exact kk H1 locs1 (by rw [← ht]; exact hB) hS1)
theorem xc_vw {u1 : xS} {Wd : xS → va_W} (hr : va_Run p l e R s m args below meth c H locs cells slots 0 0 (F0 m pc ls st0) rest (va_Qv (fun (u9 : xS) => u9 = u1) (fun u9 t => va_P D cl (Wd u9) t.heap) A1 a) A1) (hS : va_S A0 H0 H locs) (hA : ∀ q, A1 q → A0 q)
    (kk : ∀ (H1 : Heap) (locs1 : List Loc), va_P D cl (Wd u1) H1 → va_S A0 H0 H1 locs1 → W p l e R s m args below meth c H1 locs1 cells slots Q (F0 m (pc + 3) ls rest)) : W p l e R s m args below meth c H locs cells slots Q (F0 m pc ls st0) :=
  va_callv hr hS (fun q _ h => hA q h) hA (fun _ t H1 locs1 ht _ h hB _ _ hS1 => by
    subst h
    exact kk H1 locs1 (by rw [← ht]; exact hB) hS1)
end XW
abbrev xrm (f lo : Nat) : Room := { frames := f, cells := 0, slots := 0, locals := lo }
theorem xm_pui {l : Launch} {y : MethodName} {ws ws' : List Cond} {rm : Room} {cc : ByteArray} {maxL : Nat} {av : List Value} {r : Int32} (hy : plainName y.cls = true) (hw : ws = Cond.code y cc maxL (some .int) :: ws') (hav : (lg_sl av).length ≤ maxL)
    (body : ∀ (p : Program) (e : Env) (s : State) (m : MethodId) (args : Array Value) (below : List Frame) (meth : Method) (c : Code) (Q : State → Prop) (ls : Array Slot), p.tables.exec = Jvm.exec → c.code = cc → c.maxLocals = maxL → (∀ w ∈ ws, w.before args s = true) → s.vm.findClass y.cls = some m.cls → lv_has ls maxL (lv_args 0 av) → (∀ {v : Int32} {H : Heap} {locs : List Loc} {ls1 : Array Slot} {pc : Nat}, some v = some r → va_S xN s.heap H locs → decode cc pc = .ok (.ireturn, 1) → W p l e rm s m args below meth c H locs 0 0 Q (F0 m pc ls1 [.int v])) → W p l e rm s m args below meth c s.heap [] 0 0 Q (F0 m 0 ls [])) :
    Met l y ws rm (va_Pc av (fun _ => True)) (va_Qi (fun r9 (_ : Unit) => r9 = r) (fun _ _ => True) xN) 0 0 xN := by
  refine Met.ofW (cc := cc) (maxL := maxL) (ret := (some .int)) hy hw ?_
  intro p e s m args below meth c s₁ B hml hv
  obtain ⟨rfl, hv⟩ := hv
  have hl := lv_entry av (n := maxL) hav
  rw [lg_entry_eq]
  generalize (lg_sl av ++ List.replicate (maxL - (lg_sl av).length) Slot.unset).toArray = ls at hl ⊢
  exact body p e s m av.toArray below meth c _ ls B.exec B.bytes hml (atoms_spec (ws := ws) B.pre) (findClass_of_methodNamed B.named) hl (fun {v} {H} {locs} {ls1} {pc} h hS hd => W.iret (v := v) B.exec B.bytes B.returns (fun t ht hW => ⟨⟨v, (), rfl, Option.some.inj h, trivial⟩, hS.F ht⟩) hS.2.2 hd B.notSynchronized)
theorem xm_puz {l : Launch} {y : MethodName} {ws ws' : List Cond} {rm : Room} {cc : ByteArray} {maxL : Nat} {av : List Value} {r : Int32} (hy : plainName y.cls = true) (hw : ws = Cond.code y cc maxL (some .boolean) :: ws') (hav : (lg_sl av).length ≤ maxL)
    (body : ∀ (p : Program) (e : Env) (s : State) (m : MethodId) (args : Array Value) (below : List Frame) (meth : Method) (c : Code) (Q : State → Prop) (ls : Array Slot), p.tables.exec = Jvm.exec → c.code = cc → c.maxLocals = maxL → (∀ w ∈ ws, w.before args s = true) → s.vm.findClass y.cls = some m.cls → lv_has ls maxL (lv_args 0 av) → (∀ {v : Int32} {H : Heap} {locs : List Loc} {ls1 : Array Slot} {pc : Nat}, some v = some r → narrow .boolean (.int v) = .int v → va_S xN s.heap H locs → decode cc pc = .ok (.ireturn, 1) → W p l e rm s m args below meth c H locs 0 0 Q (F0 m pc ls1 [.int v])) → W p l e rm s m args below meth c s.heap [] 0 0 Q (F0 m 0 ls [])) :
    Met l y ws rm (va_Pc av (fun _ => True)) (va_Qi (fun r9 (_ : Unit) => r9 = r) (fun _ _ => True) xN) 0 0 xN := by
  refine Met.ofW (cc := cc) (maxL := maxL) (ret := (some .boolean)) hy hw ?_
  intro p e s m args below meth c s₁ B hml hv
  obtain ⟨rfl, hv⟩ := hv
  have hl := lv_entry av (n := maxL) hav
  rw [lg_entry_eq]
  generalize (lg_sl av ++ List.replicate (maxL - (lg_sl av).length) Slot.unset).toArray = ls at hl ⊢
  exact body p e s m av.toArray below meth c _ ls B.exec B.bytes hml (atoms_spec (ws := ws) B.pre) (findClass_of_methodNamed B.named) hl (fun {v} {H} {locs} {ls1} {pc} h hn hS hd => W.zret (v := v) B.exec B.bytes B.returns hn (fun t ht hW => ⟨⟨v, (), rfl, Option.some.inj h, trivial⟩, hS.F ht⟩) hS.2.2 hd B.notSynchronized)
theorem xm_puj {l : Launch} {y : MethodName} {ws ws' : List Cond} {rm : Room} {cc : ByteArray} {maxL : Nat} {av : List Value} {r : Int64} (hy : plainName y.cls = true) (hw : ws = Cond.code y cc maxL (some .long) :: ws') (hav : (lg_sl av).length ≤ maxL)
    (body : ∀ (p : Program) (e : Env) (s : State) (m : MethodId) (args : Array Value) (below : List Frame) (meth : Method) (c : Code) (Q : State → Prop) (ls : Array Slot), p.tables.exec = Jvm.exec → c.code = cc → c.maxLocals = maxL → (∀ w ∈ ws, w.before args s = true) → s.vm.findClass y.cls = some m.cls → lv_has ls maxL (lv_args 0 av) → (∀ {v : Int64} {H : Heap} {locs : List Loc} {ls1 : Array Slot} {pc : Nat}, some v = some r → va_S xN s.heap H locs → decode cc pc = .ok (.lreturn, 1) → W p l e rm s m args below meth c H locs 0 0 Q (F0 m pc ls1 [.long v])) → W p l e rm s m args below meth c s.heap [] 0 0 Q (F0 m 0 ls [])) :
    Met l y ws rm (va_Pc av (fun _ => True)) (va_Ql (fun r9 (_ : Unit) => r9 = r) (fun _ _ => True) xN) 0 0 xN := by
  refine Met.ofW (cc := cc) (maxL := maxL) (ret := (some .long)) hy hw ?_
  intro p e s m args below meth c s₁ B hml hv
  obtain ⟨rfl, hv⟩ := hv
  have hl := lv_entry av (n := maxL) hav
  rw [lg_entry_eq]
  generalize (lg_sl av ++ List.replicate (maxL - (lg_sl av).length) Slot.unset).toArray = ls at hl ⊢
  exact body p e s m av.toArray below meth c _ ls B.exec B.bytes hml (atoms_spec (ws := ws) B.pre) (findClass_of_methodNamed B.named) hl (fun {v} {H} {locs} {ls1} {pc} h hS hd => W.lret (v := v) B.exec B.bytes B.returns (fun t ht hW => ⟨⟨v, (), rfl, Option.some.inj h, trivial⟩, hS.F ht⟩) hS.2.2 hd B.notSynchronized)
theorem xm_roi {l : Launch} {y : MethodName} {ws ws' : List Cond} {rm : Room} {cc : ByteArray} {maxL : Nat} {av : List Value} {D : va_G} {cl : List vw_C} {tys : List (ClassId × FieldType)} {wd : va_W} {r : Int32} (hy : plainName y.cls = true) (hw : ws = Cond.code y cc maxL (some .int) :: ws') (hav : (lg_sl av).length ≤ maxL)
    (body : ∀ (p : Program) (e : Env) (s : State) (m : MethodId) (args : Array Value) (below : List Frame) (meth : Method) (c : Code) (Q : State → Prop) (ls : Array Slot), p.tables.exec = Jvm.exec → c.code = cc → c.maxLocals = maxL → (∀ w ∈ ws, w.before args s = true) → s.vm.findClass y.cls = some m.cls → va_K D cl tys s → xNw s → va_P D cl wd s.heap → lv_has ls maxL (lv_args 0 av) → (∀ {v : Int32} {H : Heap} {locs : List Loc} {ls1 : Array Slot} {pc : Nat}, some v = some r → va_S xN s.heap H locs → decode cc pc = .ok (.ireturn, 1) → W p l e rm s m args below meth c H locs 0 0 Q (F0 m pc ls1 [.int v])) → W p l e rm s m args below meth c s.heap [] 0 0 Q (F0 m 0 ls [])) :
    Met l y ws rm (va_Pc av (xR D cl tys wd)) (va_Qi (fun r9 (_ : Unit) => r9 = r) (fun _ _ => True) xN) 0 0 xN := by
  refine Met.ofW (cc := cc) (maxL := maxL) (ret := (some .int)) hy hw ?_
  intro p e s m args below meth c s₁ B hml hv
  obtain ⟨rfl, hv⟩ := hv
  obtain ⟨hP, hK, hN⟩ := hv
  have hl := lv_entry av (n := maxL) hav
  rw [lg_entry_eq]
  generalize (lg_sl av ++ List.replicate (maxL - (lg_sl av).length) Slot.unset).toArray = ls at hl ⊢
  exact body p e s m av.toArray below meth c _ ls B.exec B.bytes hml (atoms_spec (ws := ws) B.pre) (findClass_of_methodNamed B.named) hK hN hP hl (fun {v} {H} {locs} {ls1} {pc} h hS hd => W.iret (v := v) B.exec B.bytes B.returns (fun t ht hW => ⟨⟨v, (), rfl, Option.some.inj h, trivial⟩, hS.F ht⟩) hS.2.2 hd B.notSynchronized)
theorem xm_roz {l : Launch} {y : MethodName} {ws ws' : List Cond} {rm : Room} {cc : ByteArray} {maxL : Nat} {av : List Value} {D : va_G} {cl : List vw_C} {tys : List (ClassId × FieldType)} {wd : va_W} {r : Int32} (hy : plainName y.cls = true) (hw : ws = Cond.code y cc maxL (some .boolean) :: ws') (hav : (lg_sl av).length ≤ maxL)
    (body : ∀ (p : Program) (e : Env) (s : State) (m : MethodId) (args : Array Value) (below : List Frame) (meth : Method) (c : Code) (Q : State → Prop) (ls : Array Slot), p.tables.exec = Jvm.exec → c.code = cc → c.maxLocals = maxL → (∀ w ∈ ws, w.before args s = true) → s.vm.findClass y.cls = some m.cls → va_K D cl tys s → xNw s → va_P D cl wd s.heap → lv_has ls maxL (lv_args 0 av) → (∀ {v : Int32} {H : Heap} {locs : List Loc} {ls1 : Array Slot} {pc : Nat}, some v = some r → narrow .boolean (.int v) = .int v → va_S xN s.heap H locs → decode cc pc = .ok (.ireturn, 1) → W p l e rm s m args below meth c H locs 0 0 Q (F0 m pc ls1 [.int v])) → W p l e rm s m args below meth c s.heap [] 0 0 Q (F0 m 0 ls [])) :
    Met l y ws rm (va_Pc av (xR D cl tys wd)) (va_Qi (fun r9 (_ : Unit) => r9 = r) (fun _ _ => True) xN) 0 0 xN := by
  refine Met.ofW (cc := cc) (maxL := maxL) (ret := (some .boolean)) hy hw ?_
  intro p e s m args below meth c s₁ B hml hv
  obtain ⟨rfl, hv⟩ := hv
  obtain ⟨hP, hK, hN⟩ := hv
  have hl := lv_entry av (n := maxL) hav
  rw [lg_entry_eq]
  generalize (lg_sl av ++ List.replicate (maxL - (lg_sl av).length) Slot.unset).toArray = ls at hl ⊢
  exact body p e s m av.toArray below meth c _ ls B.exec B.bytes hml (atoms_spec (ws := ws) B.pre) (findClass_of_methodNamed B.named) hK hN hP hl (fun {v} {H} {locs} {ls1} {pc} h hn hS hd => W.zret (v := v) B.exec B.bytes B.returns hn (fun t ht hW => ⟨⟨v, (), rfl, Option.some.inj h, trivial⟩, hS.F ht⟩) hS.2.2 hd B.notSynchronized)
theorem xm_roj {l : Launch} {y : MethodName} {ws ws' : List Cond} {rm : Room} {cc : ByteArray} {maxL : Nat} {av : List Value} {D : va_G} {cl : List vw_C} {tys : List (ClassId × FieldType)} {wd : va_W} {r : Int64} (hy : plainName y.cls = true) (hw : ws = Cond.code y cc maxL (some .long) :: ws') (hav : (lg_sl av).length ≤ maxL)
    (body : ∀ (p : Program) (e : Env) (s : State) (m : MethodId) (args : Array Value) (below : List Frame) (meth : Method) (c : Code) (Q : State → Prop) (ls : Array Slot), p.tables.exec = Jvm.exec → c.code = cc → c.maxLocals = maxL → (∀ w ∈ ws, w.before args s = true) → s.vm.findClass y.cls = some m.cls → va_K D cl tys s → xNw s → va_P D cl wd s.heap → lv_has ls maxL (lv_args 0 av) → (∀ {v : Int64} {H : Heap} {locs : List Loc} {ls1 : Array Slot} {pc : Nat}, some v = some r → va_S xN s.heap H locs → decode cc pc = .ok (.lreturn, 1) → W p l e rm s m args below meth c H locs 0 0 Q (F0 m pc ls1 [.long v])) → W p l e rm s m args below meth c s.heap [] 0 0 Q (F0 m 0 ls [])) :
    Met l y ws rm (va_Pc av (xR D cl tys wd)) (va_Ql (fun r9 (_ : Unit) => r9 = r) (fun _ _ => True) xN) 0 0 xN := by
  refine Met.ofW (cc := cc) (maxL := maxL) (ret := (some .long)) hy hw ?_
  intro p e s m args below meth c s₁ B hml hv
  obtain ⟨rfl, hv⟩ := hv
  obtain ⟨hP, hK, hN⟩ := hv
  have hl := lv_entry av (n := maxL) hav
  rw [lg_entry_eq]
  generalize (lg_sl av ++ List.replicate (maxL - (lg_sl av).length) Slot.unset).toArray = ls at hl ⊢
  exact body p e s m av.toArray below meth c _ ls B.exec B.bytes hml (atoms_spec (ws := ws) B.pre) (findClass_of_methodNamed B.named) hK hN hP hl (fun {v} {H} {locs} {ls1} {pc} h hS hd => W.lret (v := v) B.exec B.bytes B.returns (fun t ht hW => ⟨⟨v, (), rfl, Option.some.inj h, trivial⟩, hS.F ht⟩) hS.2.2 hd B.notSynchronized)
theorem xm_rwi {l : Launch} {y : MethodName} {ws ws' : List Cond} {rm : Room} {cc : ByteArray} {maxL : Nat} {av : List Value} {D : va_G} {cl : List vw_C} {tys : List (ClassId × FieldType)} {Wd : xS → va_W} {u u1 : xS} {A : Nat → Prop} {r : Int32} (hy : plainName y.cls = true) (hw : ws = Cond.code y cc maxL (some .int) :: ws') (hav : (lg_sl av).length ≤ maxL)
    (body : ∀ (p : Program) (e : Env) (s : State) (m : MethodId) (args : Array Value) (below : List Frame) (meth : Method) (c : Code) (Q : State → Prop) (ls : Array Slot), p.tables.exec = Jvm.exec → c.code = cc → c.maxLocals = maxL → (∀ w ∈ ws, w.before args s = true) → s.vm.findClass y.cls = some m.cls → va_K D cl tys s → xNw s → va_P D cl (Wd u) s.heap → lv_has ls maxL (lv_args 0 av) → (∀ {v : Int32} {u2 : xS} {H : Heap} {locs : List Loc} {ls1 : Array Slot} {pc : Nat}, some (v, u2) = some (r, u1) → va_P D cl (Wd u2) H → va_S A s.heap H locs → decode cc pc = .ok (.ireturn, 1) → W p l e rm s m args below meth c H locs 0 0 Q (F0 m pc ls1 [.int v])) → W p l e rm s m args below meth c s.heap [] 0 0 Q (F0 m 0 ls [])) :
    Met l y ws rm (va_Pc av (xR D cl tys (Wd u))) (va_Qi (fun r9 (u9 : xS) => r9 = r ∧ u9 = u1) (fun u9 t => va_P D cl (Wd u9) t.heap) A) 0 0 A := by
  refine Met.ofW (cc := cc) (maxL := maxL) (ret := (some .int)) hy hw ?_
  intro p e s m args below meth c s₁ B hml hv
  obtain ⟨rfl, hv⟩ := hv
  obtain ⟨hP, hK, hN⟩ := hv
  have hl := lv_entry av (n := maxL) hav
  rw [lg_entry_eq]
  generalize (lg_sl av ++ List.replicate (maxL - (lg_sl av).length) Slot.unset).toArray = ls at hl ⊢
  exact body p e s m av.toArray below meth c _ ls B.exec B.bytes hml (atoms_spec (ws := ws) B.pre) (findClass_of_methodNamed B.named) hK hN hP hl (fun {v} {u2} {H} {locs} {ls1} {pc} h hP2 hS hd => W.iret (v := v) B.exec B.bytes B.returns (fun t ht hW => ⟨⟨v, u2, rfl, Prod.mk.inj (Option.some.inj h), xp_heap ht hP2⟩, hS.F ht⟩) hS.2.2 hd B.notSynchronized)
theorem xm_rwz {l : Launch} {y : MethodName} {ws ws' : List Cond} {rm : Room} {cc : ByteArray} {maxL : Nat} {av : List Value} {D : va_G} {cl : List vw_C} {tys : List (ClassId × FieldType)} {Wd : xS → va_W} {u u1 : xS} {A : Nat → Prop} {r : Int32} (hy : plainName y.cls = true) (hw : ws = Cond.code y cc maxL (some .boolean) :: ws') (hav : (lg_sl av).length ≤ maxL)
    (body : ∀ (p : Program) (e : Env) (s : State) (m : MethodId) (args : Array Value) (below : List Frame) (meth : Method) (c : Code) (Q : State → Prop) (ls : Array Slot), p.tables.exec = Jvm.exec → c.code = cc → c.maxLocals = maxL → (∀ w ∈ ws, w.before args s = true) → s.vm.findClass y.cls = some m.cls → va_K D cl tys s → xNw s → va_P D cl (Wd u) s.heap → lv_has ls maxL (lv_args 0 av) → (∀ {v : Int32} {u2 : xS} {H : Heap} {locs : List Loc} {ls1 : Array Slot} {pc : Nat}, some (v, u2) = some (r, u1) → narrow .boolean (.int v) = .int v → va_P D cl (Wd u2) H → va_S A s.heap H locs → decode cc pc = .ok (.ireturn, 1) → W p l e rm s m args below meth c H locs 0 0 Q (F0 m pc ls1 [.int v])) → W p l e rm s m args below meth c s.heap [] 0 0 Q (F0 m 0 ls [])) :
    Met l y ws rm (va_Pc av (xR D cl tys (Wd u))) (va_Qi (fun r9 (u9 : xS) => r9 = r ∧ u9 = u1) (fun u9 t => va_P D cl (Wd u9) t.heap) A) 0 0 A := by
  refine Met.ofW (cc := cc) (maxL := maxL) (ret := (some .boolean)) hy hw ?_
  intro p e s m args below meth c s₁ B hml hv
  obtain ⟨rfl, hv⟩ := hv
  obtain ⟨hP, hK, hN⟩ := hv
  have hl := lv_entry av (n := maxL) hav
  rw [lg_entry_eq]
  generalize (lg_sl av ++ List.replicate (maxL - (lg_sl av).length) Slot.unset).toArray = ls at hl ⊢
  exact body p e s m av.toArray below meth c _ ls B.exec B.bytes hml (atoms_spec (ws := ws) B.pre) (findClass_of_methodNamed B.named) hK hN hP hl (fun {v} {u2} {H} {locs} {ls1} {pc} h hn hP2 hS hd => W.zret (v := v) B.exec B.bytes B.returns hn (fun t ht hW => ⟨⟨v, u2, rfl, Prod.mk.inj (Option.some.inj h), xp_heap ht hP2⟩, hS.F ht⟩) hS.2.2 hd B.notSynchronized)
theorem xm_rwj {l : Launch} {y : MethodName} {ws ws' : List Cond} {rm : Room} {cc : ByteArray} {maxL : Nat} {av : List Value} {D : va_G} {cl : List vw_C} {tys : List (ClassId × FieldType)} {Wd : xS → va_W} {u u1 : xS} {A : Nat → Prop} {r : Int64} (hy : plainName y.cls = true) (hw : ws = Cond.code y cc maxL (some .long) :: ws') (hav : (lg_sl av).length ≤ maxL)
    (body : ∀ (p : Program) (e : Env) (s : State) (m : MethodId) (args : Array Value) (below : List Frame) (meth : Method) (c : Code) (Q : State → Prop) (ls : Array Slot), p.tables.exec = Jvm.exec → c.code = cc → c.maxLocals = maxL → (∀ w ∈ ws, w.before args s = true) → s.vm.findClass y.cls = some m.cls → va_K D cl tys s → xNw s → va_P D cl (Wd u) s.heap → lv_has ls maxL (lv_args 0 av) → (∀ {v : Int64} {u2 : xS} {H : Heap} {locs : List Loc} {ls1 : Array Slot} {pc : Nat}, some (v, u2) = some (r, u1) → va_P D cl (Wd u2) H → va_S A s.heap H locs → decode cc pc = .ok (.lreturn, 1) → W p l e rm s m args below meth c H locs 0 0 Q (F0 m pc ls1 [.long v])) → W p l e rm s m args below meth c s.heap [] 0 0 Q (F0 m 0 ls [])) :
    Met l y ws rm (va_Pc av (xR D cl tys (Wd u))) (va_Ql (fun r9 (u9 : xS) => r9 = r ∧ u9 = u1) (fun u9 t => va_P D cl (Wd u9) t.heap) A) 0 0 A := by
  refine Met.ofW (cc := cc) (maxL := maxL) (ret := (some .long)) hy hw ?_
  intro p e s m args below meth c s₁ B hml hv
  obtain ⟨rfl, hv⟩ := hv
  obtain ⟨hP, hK, hN⟩ := hv
  have hl := lv_entry av (n := maxL) hav
  rw [lg_entry_eq]
  generalize (lg_sl av ++ List.replicate (maxL - (lg_sl av).length) Slot.unset).toArray = ls at hl ⊢
  exact body p e s m av.toArray below meth c _ ls B.exec B.bytes hml (atoms_spec (ws := ws) B.pre) (findClass_of_methodNamed B.named) hK hN hP hl (fun {v} {u2} {H} {locs} {ls1} {pc} h hP2 hS hd => W.lret (v := v) B.exec B.bytes B.returns (fun t ht hW => ⟨⟨v, u2, rfl, Prod.mk.inj (Option.some.inj h), xp_heap ht hP2⟩, hS.F ht⟩) hS.2.2 hd B.notSynchronized)
theorem xm_rwv {l : Launch} {y : MethodName} {ws ws' : List Cond} {rm : Room} {cc : ByteArray} {maxL : Nat} {av : List Value} {D : va_G} {cl : List vw_C} {tys : List (ClassId × FieldType)} {Wd : xS → va_W} {u u1 : xS} {A : Nat → Prop} (hy : plainName y.cls = true) (hw : ws = Cond.code y cc maxL none :: ws') (hav : (lg_sl av).length ≤ maxL)
    (body : ∀ (p : Program) (e : Env) (s : State) (m : MethodId) (args : Array Value) (below : List Frame) (meth : Method) (c : Code) (Q : State → Prop) (ls : Array Slot), p.tables.exec = Jvm.exec → c.code = cc → c.maxLocals = maxL → (∀ w ∈ ws, w.before args s = true) → s.vm.findClass y.cls = some m.cls → va_K D cl tys s → xNw s → va_P D cl (Wd u) s.heap → lv_has ls maxL (lv_args 0 av) → (∀ {u2 : xS} {H : Heap} {locs : List Loc} {ls1 : Array Slot} {pc : Nat}, some u2 = some u1 → va_P D cl (Wd u2) H → va_S A s.heap H locs → decode cc pc = .ok (.return_, 1) → W p l e rm s m args below meth c H locs 0 0 Q (F0 m pc ls1 [])) → W p l e rm s m args below meth c s.heap [] 0 0 Q (F0 m 0 ls [])) :
    Met l y ws rm (va_Pc av (xR D cl tys (Wd u))) (va_Qv (fun (u9 : xS) => u9 = u1) (fun u9 t => va_P D cl (Wd u9) t.heap) A) 0 0 A := by
  refine Met.ofW (cc := cc) (maxL := maxL) (ret := none) hy hw ?_
  intro p e s m args below meth c s₁ B hml hv
  obtain ⟨rfl, hv⟩ := hv
  obtain ⟨hP, hK, hN⟩ := hv
  have hl := lv_entry av (n := maxL) hav
  rw [lg_entry_eq]
  generalize (lg_sl av ++ List.replicate (maxL - (lg_sl av).length) Slot.unset).toArray = ls at hl ⊢
  exact body p e s m av.toArray below meth c _ ls B.exec B.bytes hml (atoms_spec (ws := ws) B.pre) (findClass_of_methodNamed B.named) hK hN hP hl (fun {u2} {H} {locs} {ls1} {pc} h hP2 hS hd => W.vret B.exec B.bytes B.returns (fun t ht hW => ⟨⟨u2, rfl, Option.some.inj h, xp_heap ht hP2⟩, hS.F ht⟩) hS.2.2 hd B.notSynchronized)
