def xAO (U : State) : Prop := va_AO "EventGraphText$Site" U ∧ va_AO "EventGraphText$Message" U
def xI (D : va_G) (cl : List vw_C) (tys : List (ClassId × FieldType)) (ws : va_W) (sz : Nat) (U : State) : Prop := U.heap.size = sz ∧ va_P D cl ws U.heap ∧ va_D (fun _ => True) ws ∧ va_K D cl tys U ∧ xNw U ∧ xAO U
theorem xpreI {D : va_G} {cl : List vw_C} {tys : List (ClassId × FieldType)} {ws : va_W} {av : List Value} {s : State} {H : Heap} {A : Nat → Prop} (hP : va_P D cl ws H) (hD : va_D A ws) (hK : va_K D cl tys s) (hN : xNw s) (hO : xAO s) : PreS s H (va_Pc av (xI D cl tys ws H.size)) av :=
  ⟨fun a U g mk q => ⟨q.1, q.2.1, q.2.2.1, q.2.2.2.1, va_K.moved (u := U) (U := U.calling g mk a) (Vm.Alike.refl U.vm) q.2.2.2.2.1, xNw_same (u := U) (U := U.calling g mk a) rfl q.2.2.2.2.2.1, va_AO.moved (u := U) (U := U.calling g mk a) (Vm.Alike.refl U.vm) q.2.2.2.2.2.2.1, va_AO.moved (u := U) (U := U.calling g mk a) (Vm.Alike.refl U.vm) q.2.2.2.2.2.2.2⟩,
   fun U hU hW => ⟨rfl, by rw [hU], by rw [hU]; exact hP, hD.weaken (fun _ _ _ _ => trivial), va_K.moved hW.alike hK, xNw_warm hW hN, va_AO.moved hW.alike hO.1, va_AO.moved hW.alike hO.2⟩⟩
theorem xcA {D : va_G} {cl : List vw_C} {tys : List (ClassId × FieldType)} {s : State} {cA d : ClassId} {ty : FieldType} (hK : va_K D cl (tys ++ [(cA, ty)]) s) (k : Nat) (hk : tys[k]? = some (d, ty)) (hra : ∀ c, va_RA s c ty → s.vm.findClass ("[" ++ ty.toString) = some c) : cA = d := by
  have h1 := hra _ (hK.2 tys.length (cA, ty) (by rw [List.getElem?_append_right (Nat.le_refl _), Nat.sub_self]; rfl)).2
  have h2 := hra _ (hK.2 k (d, ty) (by rw [List.getElem?_append_left (List.getElem?_eq_some_iff.mp hk).1]; exact hk)).2
  exact Option.some.inj (h1.symm.trans h2)
theorem xP_re {D : va_G} {cl : List vw_C} {ws : va_W} {H : Heap} {k a : Nat} {cA : ClassId} {x y : vp_A} (hP : va_P D cl ws H) (he : ws[k]? = some (a, .inl (cA, x))) (hxy : vp_cell cA x = vp_cell cA y) : va_P D cl (ws.set k (a, .inl (cA, y))) H := by
  intro j q hq
  by_cases h : j = k
  · subst h
    rw [List.getElem?_set_self (List.getElem?_eq_some_iff.mp he).1] at hq
    cases hq
    have := hP j _ he
    show H[a]? = some (vp_cell cA y)
    rw [← hxy]
    exact this
  · rw [List.getElem?_set_ne (fun z => h z.symm)] at hq
    exact hP j q hq
theorem xD_re {A : Nat → Prop} {w1 w2 : va_W} (h : va_D A w1) (he : w1.map Prod.fst = w2.map Prod.fst) : va_D A w2 := by
  have tr : ∀ (i : Nat) (p : Nat × va_E), w2[i]? = some p → ∃ q : Nat × va_E, w1[i]? = some q ∧ q.1 = p.1 := by
    intro i p hp
    have h1 : (w2.map Prod.fst)[i]? = some p.1 := by rw [List.getElem?_map, hp]; rfl
    rw [← he, List.getElem?_map] at h1
    cases hw : w1[i]? with
    | none => rw [hw] at h1; cases h1
    | some q => rw [hw] at h1; exact ⟨q, rfl, Option.some.inj h1⟩
  refine ⟨fun i j p q hi hj hpq => ?_, fun k q hk => ?_⟩
  · obtain ⟨p', h1, h2⟩ := tr i p hi
    obtain ⟨q', h3, h4⟩ := tr j q hj
    exact h.1 i j p' q' h1 h3 (h2.trans (hpq.trans h4.symm))
  · obtain ⟨q', h1, h2⟩ := tr k q hk
    rw [← h2]
    exact h.2 k q' h1
theorem xarrN {cA : ClassId} {N : Nat} {f g : Nat → Option Nat} (h : ∀ j, j < N → f j = g j) : vp_cell cA (N, .inr (.inr (.inr (.inr f)))) = vp_cell cA (N, .inr (.inr (.inr (.inr g)))) := by
  rw [vp_cell_q, vp_cell_q]
  unfold arrV
  congr 2
  funext j
  exact congrArg va_rf (h j.val j.isLt)
theorem xarr3 {cA : ClassId} {f g : Nat → Option Nat} (h0 : f 0 = g 0) (h1 : f 1 = g 1) (h2 : f 2 = g 2) : vp_cell cA (3, .inr (.inr (.inr (.inr f)))) = vp_cell cA (3, .inr (.inr (.inr (.inr g)))) := xarrN fun j hj => by
  match j, hj with
  | 0, _ => exact h0
  | 1, _ => exact h1
  | 2, _ => exact h2
  | j + 3, h => exact absurd h (by omega)
theorem xarr6 {cA : ClassId} {f g : Nat → Option Nat} (h0 : f 0 = g 0) (h1 : f 1 = g 1) (h2 : f 2 = g 2) (h3 : f 3 = g 3) (h4 : f 4 = g 4) (h5 : f 5 = g 5) : vp_cell cA (6, .inr (.inr (.inr (.inr f)))) = vp_cell cA (6, .inr (.inr (.inr (.inr g)))) := xarrN fun j hj => by
  match j, hj with
  | 0, _ => exact h0
  | 1, _ => exact h1
  | 2, _ => exact h2
  | 3, _ => exact h3
  | 4, _ => exact h4
  | 5, _ => exact h5
  | j + 6, h => exact absurd h (by omega)
section XN
variable {p : Program} {l : Launch} {e : Env} {R : Room} {s : State} {m : MethodId} {args : Array Value} {below : List Frame} {meth : Method} {c : Code} {H : Heap} {locs : List Loc} {cells slots : Nat} {Q : State → Prop}
variable {cc : ByteArray} {pc : Nat} {ls : Array Slot} {rest : List Value} {D : va_G} {cl : List vw_C} {A : Nat → Prop} {tys : List (ClassId × FieldType)} {ws : va_W} {H0 : Heap}
theorem xna {ty : FieldType} (hexec : p.tables.exec = Jvm.exec) (hb : c.code = cc) {atype : ArrayType} (harr : (Cond.arrayClass (newarray.typeOf atype)).before args s = true) (hty : newarray.typeOf atype = ty) (hK : va_K D cl tys s) (k : Nat) {d : ClassId} (hk : tys[k]? = some (d, ty)) (hra : ∀ c, va_RA s c ty → s.vm.findClass ("[" ++ ty.toString) = some c) (hP : va_P D cl ws H) (hD : va_D A ws) (hS : va_S A H0 H locs) (hA : ∀ q, H0.size ≤ q → A q)
    {n : Int32} {N' : Nat} {a0 : vp_A} (ha : ∀ cA : ClassId, vp_cell cA a0 = arrV cA N' (fun _ => defaultValue ty)) (hn : ¬ n < 0) (hN : n.toNatClampNeg = N') (hbytes : N' * componentBytes ty ≤ 536870912) (hcells : cells + 1 ≤ R.cells) (hslots : slots + N' ≤ R.slots) (hdg : decode cc pc = .ok (.newarray atype, 2))
    (kk : ∀ (q : Nat) (H1 : Heap), va_P D cl (ws ++ [(q, .inl (d, a0))]) H1 → va_D A (ws ++ [(q, .inl (d, a0))]) → va_S A H0 H1 locs → W p l e R s m args below meth c H1 locs (cells + 1) (slots + N') Q (F0 m (pc + 2) ls (.ref q :: rest))) : W p l e R s m args below meth c H locs cells slots Q (F0 m pc ls (.int n :: rest)) :=
  va_newa hexec hb harr hty hK hP hD hS hA ha hn hN hbytes hcells hslots hdg (fun q cA H1 hK1 hP1 hD1 hS1 => by
    have := xcA hK1 k hk hra
    subst this
    exact kk q H1 hP1 hD1 hS1)
theorem xnq {own C : String} {index : Nat} (hexec : p.tables.exec = Jvm.exec) (hb : c.code = cc) (hown : s.vm.findClass own = some m.cls) (hclink : (Cond.classLink own index C).before args s = true) (hover : va_AO C s) (hK : va_K D cl tys s) (k : Nat) {d : ClassId} (hk : tys[k]? = some (d, .object C)) (hP : va_P D cl ws H) (hD : va_D A ws) (hS : va_S A H0 H locs) (hA : ∀ q, H0.size ≤ q → A q)
    {n : Int32} {N' : Nat} (hn : ¬ n < 0) (hN : n.toNatClampNeg = N') (hbytes : N' * 4 ≤ 536870912) (hcells : cells + 1 ≤ R.cells) (hslots : slots + N' ≤ R.slots) (hdg : decode cc pc = .ok (.anewarray index, 3))
    (kk : ∀ (q : Nat) (H1 : Heap), va_P D cl (ws ++ [(q, .inl (d, N', .inr (.inr (.inr (.inr (fun _ => none))))))]) H1 → va_D A (ws ++ [(q, .inl (d, N', .inr (.inr (.inr (.inr (fun _ => none))))))]) → va_S A H0 H1 locs → W p l e R s m args below meth c H1 locs (cells + 1) (slots + N') Q (F0 m (pc + 3) ls (.ref q :: rest))) : W p l e R s m args below meth c H locs cells slots Q (F0 m pc ls (.int n :: rest)) :=
  va_newq hexec hb hown hclink hover hK hP hD hS hA hn hN hbytes hcells hslots hdg (fun q cA H1 hK1 hP1 hD1 hS1 => by
    have := xcA hK1 k hk (fun c h => by obtain ⟨_, _, _, _, _, h⟩ := h; exact h)
    subst this
    exact kk q H1 hP1 hD1 hS1)
end XN
theorem xfs_CharacterList : ∀ j, j < 8 → defaultValue (ty_CharacterList j) = vp_V [.null, .null, .null, .null, .null, .long 0, .long 0, .int 0] j := fun j hj => by
  match j, hj with
  | 0, _ => rfl
  | 1, _ => rfl
  | 2, _ => rfl
  | 3, _ => rfl
  | 4, _ => rfl
  | 5, _ => rfl
  | 6, _ => rfl
  | 7, _ => rfl
  | j + 8, h => exact absurd h (by omega)
theorem xfs_History : ∀ j, j < 9 → defaultValue (ty_History j) = vp_V [.null, .null, .null, .null, .null, .null, .null, .null, .int 0] j := fun j hj => by
  match j, hj with
  | 0, _ => rfl
  | 1, _ => rfl
  | 2, _ => rfl
  | 3, _ => rfl
  | 4, _ => rfl
  | 5, _ => rfl
  | 6, _ => rfl
  | 7, _ => rfl
  | 8, _ => rfl
  | j + 9, h => exact absurd h (by omega)
theorem xfs_Line : ∀ j, j < 2 → defaultValue (ty_Line j) = vp_V [.null, .int 0] j := fun j hj => by
  match j, hj with
  | 0, _ => rfl
  | 1, _ => rfl
  | j + 2, h => exact absurd h (by omega)
theorem xfs_Merge : ∀ j, j < 4 → defaultValue (ty_Merge j) = vp_V [.null, .int 0, .int 0, .int 0] j := fun j hj => by
  match j, hj with
  | 0, _ => rfl
  | 1, _ => rfl
  | 2, _ => rfl
  | 3, _ => rfl
  | j + 4, h => exact absurd h (by omega)
theorem xfs_Message : ∀ j, j < 5 → defaultValue (ty_Message j) = vp_V [.null, .int 0, .int 0, .int 0, .long 0] j := fun j hj => by
  match j, hj with
  | 0, _ => rfl
  | 1, _ => rfl
  | 2, _ => rfl
  | 3, _ => rfl
  | 4, _ => rfl
  | j + 5, h => exact absurd h (by omega)
theorem xfs_OctetRow : ∀ j, j < 2 → defaultValue (ty_OctetRow j) = vp_V [.null, .int 0] j := fun j hj => by
  match j, hj with
  | 0, _ => rfl
  | 1, _ => rfl
  | j + 2, h => exact absurd h (by omega)
theorem xfs_Site : ∀ j, j < 3 → defaultValue (ty_Site j) = vp_V [.null, .null, .long 0] j := fun j hj => by
  match j, hj with
  | 0, _ => rfl
  | 1, _ => rfl
  | 2, _ => rfl
  | j + 3, h => exact absurd h (by omega)
theorem xfs_Text : ∀ j, j < 5 → defaultValue (ty_Text j) = vp_V [.null, .null, .null, .null, .null] j := fun j hj => by
  match j, hj with
  | 0, _ => rfl
  | 1, _ => rfl
  | 2, _ => rfl
  | 3, _ => rfl
  | 4, _ => rfl
  | j + 5, h => exact absurd h (by omega)
theorem xfs_Model : ∀ j, j < 26 → defaultValue (ty_Model j) = vp_V [.int 0, .null, .null, .null, .null, .null, .null, .null, .null, .null, .null, .null, .int 0, .null, .null, .null, .null, .null, .null, .null, .null, .null, .null, .int 0, .null, .int 0] j := fun j hj => by
  match j, hj with
  | 0, _ => rfl
  | 1, _ => rfl
  | 2, _ => rfl
  | 3, _ => rfl
  | 4, _ => rfl
  | 5, _ => rfl
  | 6, _ => rfl
  | 7, _ => rfl
  | 8, _ => rfl
  | 9, _ => rfl
  | 10, _ => rfl
  | 11, _ => rfl
  | 12, _ => rfl
  | 13, _ => rfl
  | 14, _ => rfl
  | 15, _ => rfl
  | 16, _ => rfl
  | 17, _ => rfl
  | 18, _ => rfl
  | 19, _ => rfl
  | 20, _ => rfl
  | 21, _ => rfl
  | 22, _ => rfl
  | 23, _ => rfl
  | 24, _ => rfl
  | 25, _ => rfl
  | j + 26, h => exact absurd h (by omega)
