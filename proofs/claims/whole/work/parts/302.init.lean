set_option maxHeartbeats 4000000 in
set_option maxRecDepth 100000 in
theorem c_History_init (l : Launch) (dC : Nat → ClassId) (dI : Nat → Nat → Nat) (dT : Nat → ClassId) (h0 sz : Nat) : Met l y_History_init (Cond.code y_History_init b_History_init 1 none :: xG) ({ frames := 1, cells := 8, slots := 363, locals := 12 }) (va_Pc [.ref h0] (xI (dC, dI) xCl (xT dT) [(h0, .inr (1, [.null, .null, .null, .null, .null, .null, .null, .null, .int 0]))] sz)) (va_Qv (fun (_ : Nat → Nat) => True) (fun u t => va_P (dC, dI) xCl [(h0, .inr (1, [.ref (u 0), .ref (u 1), .ref (u 2), .ref (u 3), .ref (u 4), .ref (u 5), .ref (u 6), .ref (u 7), .int 0])), ((u 0), .inl (dT 0, 40, .inl (fun _ => 0))), ((u 1), .inl (dT 0, 40, .inl (fun _ => 0))), ((u 2), .inl (dT 0, 40, .inl (fun _ => 0))), ((u 3), .inl (dT 0, 40, .inl (fun _ => 0))), ((u 4), .inl (dT 1, 40, .inr (.inl (fun _ => 0)))), ((u 5), .inl (dT 1, 40, .inr (.inl (fun _ => 0)))), ((u 6), .inl (dT 0, 120, .inl (fun _ => 0))), ((u 7), .inl (dT 0, 3, .inl (fun _ => 0)))] t.heap ∧ va_D (va_A [(h0, .inr (1, [.null, .null, .null, .null, .null, .null, .null, .null, .int 0]))] sz) [(h0, .inr (1, [.ref (u 0), .ref (u 1), .ref (u 2), .ref (u 3), .ref (u 4), .ref (u 5), .ref (u 6), .ref (u 7), .int 0])), ((u 0), .inl (dT 0, 40, .inl (fun _ => 0))), ((u 1), .inl (dT 0, 40, .inl (fun _ => 0))), ((u 2), .inl (dT 0, 40, .inl (fun _ => 0))), ((u 3), .inl (dT 0, 40, .inl (fun _ => 0))), ((u 4), .inl (dT 1, 40, .inr (.inl (fun _ => 0)))), ((u 5), .inl (dT 1, 40, .inr (.inl (fun _ => 0)))), ((u 6), .inl (dT 0, 120, .inl (fun _ => 0))), ((u 7), .inl (dT 0, 3, .inl (fun _ => 0)))]) (va_A [(h0, .inr (1, [.null, .null, .null, .null, .null, .null, .null, .null, .int 0]))] sz)) 8 363 (va_A [(h0, .inr (1, [.null, .null, .null, .null, .null, .null, .null, .null, .int 0]))] sz) := by
  refine Met.ofW (cc := b_History_init) (maxL := 1) (ret := none) (by decide) rfl ?_
  intro p e s m args below meth c s₁ B hml hv
  obtain ⟨rfl, hsz, hP, hD0, hK, hN, hAO⟩ := hv
  have hx := B.exec
  have hb := B.bytes
  have hr := B.returns
  have hts := atoms_spec (ws := (Cond.code y_History_init b_History_init 1 none :: xG)) B.pre
  have hT : ∀ w ∈ xG, w.before ([Value.ref h0] : List Value).toArray s = true := fun w h => hts w (List.mem_cons_of_mem _ h)
  have hown : s.vm.findClass "EventGraphText$History" = some m.cls := findClass_of_methodNamed B.named
  have hlocks := B.notSynchronized
  have hin : meth.name = "<init>" := (name_of_methodNamed B.named B.method).1
  subst hsz
  have hD := hD0.self (sz := s.heap.size)
  generalize hAe : va_A [(h0, .inr (1, [.null, .null, .null, .null, .null, .null, .null, .null, .int 0]))] s.heap.size = A at hD ⊢
  have hA : ∀ q : Nat, s.heap.size ≤ q → A q := fun q h => by rw [← hAe]; exact Or.inr h
  have hS : va_S A s.heap s.heap [] := va_S.rf
  have hP : va_P (dC, dI) xCl [(h0, .inr (1, [.null, .null, .null, .null, .null, .null, .null, .null, .int 0]))] s.heap := hP
  have hl := lv_entry ([.ref h0]) (n := 1) (Nat.le_of_ble_eq_true rfl)
  rw [lg_entry_eq]
  generalize (lg_sl ([.ref h0]) ++ List.replicate (1 - (lg_sl ([.ref h0])).length) Slot.unset).toArray = ls at hl ⊢
  have hl : lv_has ls 1 [(0, .ref h0)] := hl
  refine lv_aload_n hx hb d_History_init_0 rfl (lv_at hl 0 rfl) ?_
  refine W.objInit hx hb hown (hT _ wd_24) (hT _ wd_17) (hT _ wd_18) rfl (by rw [hml]; exact hl.1) rfl d_History_init_1 (Nat.le_of_ble_eq_true rfl) (Nat.le_of_ble_eq_true rfl) ?_
  refine W.eq (g2 := F0 m 4 ls []) rfl ?_
  refine lv_aload_n hx hb d_History_init_4 rfl (lv_at hl 0 rfl) ?_
  refine lv_bipush (v := (40 : Int32)) hx hb d_History_init_5 (by decide) ?_
  refine xna (ty := .int) (atype := .int) hx hb (hT _ wd_53) rfl hK 0 rfl (fun _ h => h) hP hD hS hA (a0 := (40, .inl (fun _ => 0))) (N' := 40) (fun _ => rfl) (by decide) (by decide) (by decide) (Nat.le_of_ble_eq_true rfl) (Nat.le_of_ble_eq_true rfl) d_History_init_7 (fun q1 H hP hD hS => ?_)
  have hP : va_P (dC, dI) xCl [(h0, .inr (1, [.null, .null, .null, .null, .null, .null, .null, .null, .int 0])), (q1, .inl (dT 0, 40, .inl (fun _ => 0)))] H := hP
  have hD : va_D A [(h0, .inr (1, [.null, .null, .null, .null, .null, .null, .null, .null, .int 0])), (q1, .inl (dT 0, 40, .inl (fun _ => 0)))] := hD
  refine W.widen (k := 1) (n := 40) (Nat.le_of_ble_eq_true rfl) (Nat.le_of_ble_eq_true rfl) ?_
  refine va_putF (D := (dC, dI)) (ci := 1) (v := .ref q1) (ty := (.array .int)) (C := "EventGraphText$History") (T := T_History) (N := 9) hx hb hT hin_History ty_History tyok_History nm_History hown hK hP hD hS 0 rfl rfl 0 (by decide) (hT _ wd_25) (fun _ h9 => h9) rfl hin rfl (by decide +kernel) rfl rfl (Nat.le_of_ble_eq_true rfl) d_History_init_9 (fun H locs hP hD hS => ?_)
  have hP : va_P (dC, dI) xCl [(h0, .inr (1, [.ref q1, .null, .null, .null, .null, .null, .null, .null, .int 0])), (q1, .inl (dT 0, 40, .inl (fun _ => 0)))] H := hP
  have hD : va_D A [(h0, .inr (1, [.ref q1, .null, .null, .null, .null, .null, .null, .null, .int 0])), (q1, .inl (dT 0, 40, .inl (fun _ => 0)))] := hD
  refine lv_aload_n hx hb d_History_init_12 rfl (lv_at hl 0 rfl) ?_
  refine lv_bipush (v := (40 : Int32)) hx hb d_History_init_13 (by decide) ?_
  refine xna (ty := .int) (atype := .int) hx hb (hT _ wd_53) rfl hK 0 rfl (fun _ h => h) hP hD hS hA (a0 := (40, .inl (fun _ => 0))) (N' := 40) (fun _ => rfl) (by decide) (by decide) (by decide) (Nat.le_of_ble_eq_true rfl) (Nat.le_of_ble_eq_true rfl) d_History_init_15 (fun q2 H hP hD hS => ?_)
  have hP : va_P (dC, dI) xCl [(h0, .inr (1, [.ref q1, .null, .null, .null, .null, .null, .null, .null, .int 0])), (q1, .inl (dT 0, 40, .inl (fun _ => 0))), (q2, .inl (dT 0, 40, .inl (fun _ => 0)))] H := hP
  have hD : va_D A [(h0, .inr (1, [.ref q1, .null, .null, .null, .null, .null, .null, .null, .int 0])), (q1, .inl (dT 0, 40, .inl (fun _ => 0))), (q2, .inl (dT 0, 40, .inl (fun _ => 0)))] := hD
  refine W.widen (k := 2) (n := 80) (Nat.le_of_ble_eq_true rfl) (Nat.le_of_ble_eq_true rfl) ?_
  refine va_putF (D := (dC, dI)) (ci := 1) (v := .ref q2) (ty := (.array .int)) (C := "EventGraphText$History") (T := T_History) (N := 9) hx hb hT hin_History ty_History tyok_History nm_History hown hK hP hD hS 0 rfl rfl 1 (by decide) (hT _ wd_26) (fun _ h9 => h9) rfl hin rfl (by decide +kernel) rfl rfl (Nat.le_of_ble_eq_true rfl) d_History_init_17 (fun H locs hP hD hS => ?_)
  have hP : va_P (dC, dI) xCl [(h0, .inr (1, [.ref q1, .ref q2, .null, .null, .null, .null, .null, .null, .int 0])), (q1, .inl (dT 0, 40, .inl (fun _ => 0))), (q2, .inl (dT 0, 40, .inl (fun _ => 0)))] H := hP
  have hD : va_D A [(h0, .inr (1, [.ref q1, .ref q2, .null, .null, .null, .null, .null, .null, .int 0])), (q1, .inl (dT 0, 40, .inl (fun _ => 0))), (q2, .inl (dT 0, 40, .inl (fun _ => 0)))] := hD
  refine lv_aload_n hx hb d_History_init_20 rfl (lv_at hl 0 rfl) ?_
  refine lv_bipush (v := (40 : Int32)) hx hb d_History_init_21 (by decide) ?_
  refine xna (ty := .int) (atype := .int) hx hb (hT _ wd_53) rfl hK 0 rfl (fun _ h => h) hP hD hS hA (a0 := (40, .inl (fun _ => 0))) (N' := 40) (fun _ => rfl) (by decide) (by decide) (by decide) (Nat.le_of_ble_eq_true rfl) (Nat.le_of_ble_eq_true rfl) d_History_init_23 (fun q3 H hP hD hS => ?_)
  have hP : va_P (dC, dI) xCl [(h0, .inr (1, [.ref q1, .ref q2, .null, .null, .null, .null, .null, .null, .int 0])), (q1, .inl (dT 0, 40, .inl (fun _ => 0))), (q2, .inl (dT 0, 40, .inl (fun _ => 0))), (q3, .inl (dT 0, 40, .inl (fun _ => 0)))] H := hP
  have hD : va_D A [(h0, .inr (1, [.ref q1, .ref q2, .null, .null, .null, .null, .null, .null, .int 0])), (q1, .inl (dT 0, 40, .inl (fun _ => 0))), (q2, .inl (dT 0, 40, .inl (fun _ => 0))), (q3, .inl (dT 0, 40, .inl (fun _ => 0)))] := hD
  refine W.widen (k := 3) (n := 120) (Nat.le_of_ble_eq_true rfl) (Nat.le_of_ble_eq_true rfl) ?_
  refine va_putF (D := (dC, dI)) (ci := 1) (v := .ref q3) (ty := (.array .int)) (C := "EventGraphText$History") (T := T_History) (N := 9) hx hb hT hin_History ty_History tyok_History nm_History hown hK hP hD hS 0 rfl rfl 2 (by decide) (hT _ wd_27) (fun _ h9 => h9) rfl hin rfl (by decide +kernel) rfl rfl (Nat.le_of_ble_eq_true rfl) d_History_init_25 (fun H locs hP hD hS => ?_)
  have hP : va_P (dC, dI) xCl [(h0, .inr (1, [.ref q1, .ref q2, .ref q3, .null, .null, .null, .null, .null, .int 0])), (q1, .inl (dT 0, 40, .inl (fun _ => 0))), (q2, .inl (dT 0, 40, .inl (fun _ => 0))), (q3, .inl (dT 0, 40, .inl (fun _ => 0)))] H := hP
  have hD : va_D A [(h0, .inr (1, [.ref q1, .ref q2, .ref q3, .null, .null, .null, .null, .null, .int 0])), (q1, .inl (dT 0, 40, .inl (fun _ => 0))), (q2, .inl (dT 0, 40, .inl (fun _ => 0))), (q3, .inl (dT 0, 40, .inl (fun _ => 0)))] := hD
  refine lv_aload_n hx hb d_History_init_28 rfl (lv_at hl 0 rfl) ?_
  refine lv_bipush (v := (40 : Int32)) hx hb d_History_init_29 (by decide) ?_
  refine xna (ty := .int) (atype := .int) hx hb (hT _ wd_53) rfl hK 0 rfl (fun _ h => h) hP hD hS hA (a0 := (40, .inl (fun _ => 0))) (N' := 40) (fun _ => rfl) (by decide) (by decide) (by decide) (Nat.le_of_ble_eq_true rfl) (Nat.le_of_ble_eq_true rfl) d_History_init_31 (fun q4 H hP hD hS => ?_)
  have hP : va_P (dC, dI) xCl [(h0, .inr (1, [.ref q1, .ref q2, .ref q3, .null, .null, .null, .null, .null, .int 0])), (q1, .inl (dT 0, 40, .inl (fun _ => 0))), (q2, .inl (dT 0, 40, .inl (fun _ => 0))), (q3, .inl (dT 0, 40, .inl (fun _ => 0))), (q4, .inl (dT 0, 40, .inl (fun _ => 0)))] H := hP
  have hD : va_D A [(h0, .inr (1, [.ref q1, .ref q2, .ref q3, .null, .null, .null, .null, .null, .int 0])), (q1, .inl (dT 0, 40, .inl (fun _ => 0))), (q2, .inl (dT 0, 40, .inl (fun _ => 0))), (q3, .inl (dT 0, 40, .inl (fun _ => 0))), (q4, .inl (dT 0, 40, .inl (fun _ => 0)))] := hD
  refine W.widen (k := 4) (n := 160) (Nat.le_of_ble_eq_true rfl) (Nat.le_of_ble_eq_true rfl) ?_
  refine va_putF (D := (dC, dI)) (ci := 1) (v := .ref q4) (ty := (.array .int)) (C := "EventGraphText$History") (T := T_History) (N := 9) hx hb hT hin_History ty_History tyok_History nm_History hown hK hP hD hS 0 rfl rfl 3 (by decide) (hT _ wd_28) (fun _ h9 => h9) rfl hin rfl (by decide +kernel) rfl rfl (Nat.le_of_ble_eq_true rfl) d_History_init_33 (fun H locs hP hD hS => ?_)
  have hP : va_P (dC, dI) xCl [(h0, .inr (1, [.ref q1, .ref q2, .ref q3, .ref q4, .null, .null, .null, .null, .int 0])), (q1, .inl (dT 0, 40, .inl (fun _ => 0))), (q2, .inl (dT 0, 40, .inl (fun _ => 0))), (q3, .inl (dT 0, 40, .inl (fun _ => 0))), (q4, .inl (dT 0, 40, .inl (fun _ => 0)))] H := hP
  have hD : va_D A [(h0, .inr (1, [.ref q1, .ref q2, .ref q3, .ref q4, .null, .null, .null, .null, .int 0])), (q1, .inl (dT 0, 40, .inl (fun _ => 0))), (q2, .inl (dT 0, 40, .inl (fun _ => 0))), (q3, .inl (dT 0, 40, .inl (fun _ => 0))), (q4, .inl (dT 0, 40, .inl (fun _ => 0)))] := hD
  refine lv_aload_n hx hb d_History_init_36 rfl (lv_at hl 0 rfl) ?_
  refine lv_bipush (v := (40 : Int32)) hx hb d_History_init_37 (by decide) ?_
  refine xna (ty := .long) (atype := .long) hx hb (hT _ wd_54) rfl hK 1 rfl (fun _ h => h) hP hD hS hA (a0 := (40, .inr (.inl (fun _ => 0)))) (N' := 40) (fun _ => rfl) (by decide) (by decide) (by decide) (Nat.le_of_ble_eq_true rfl) (Nat.le_of_ble_eq_true rfl) d_History_init_39 (fun q5 H hP hD hS => ?_)
  have hP : va_P (dC, dI) xCl [(h0, .inr (1, [.ref q1, .ref q2, .ref q3, .ref q4, .null, .null, .null, .null, .int 0])), (q1, .inl (dT 0, 40, .inl (fun _ => 0))), (q2, .inl (dT 0, 40, .inl (fun _ => 0))), (q3, .inl (dT 0, 40, .inl (fun _ => 0))), (q4, .inl (dT 0, 40, .inl (fun _ => 0))), (q5, .inl (dT 1, 40, .inr (.inl (fun _ => 0))))] H := hP
  have hD : va_D A [(h0, .inr (1, [.ref q1, .ref q2, .ref q3, .ref q4, .null, .null, .null, .null, .int 0])), (q1, .inl (dT 0, 40, .inl (fun _ => 0))), (q2, .inl (dT 0, 40, .inl (fun _ => 0))), (q3, .inl (dT 0, 40, .inl (fun _ => 0))), (q4, .inl (dT 0, 40, .inl (fun _ => 0))), (q5, .inl (dT 1, 40, .inr (.inl (fun _ => 0))))] := hD
  refine W.widen (k := 5) (n := 200) (Nat.le_of_ble_eq_true rfl) (Nat.le_of_ble_eq_true rfl) ?_
  refine va_putF (D := (dC, dI)) (ci := 1) (v := .ref q5) (ty := (.array .long)) (C := "EventGraphText$History") (T := T_History) (N := 9) hx hb hT hin_History ty_History tyok_History nm_History hown hK hP hD hS 0 rfl rfl 4 (by decide) (hT _ wd_29) (fun _ h9 => h9) rfl hin rfl (by decide +kernel) rfl rfl (Nat.le_of_ble_eq_true rfl) d_History_init_41 (fun H locs hP hD hS => ?_)
  have hP : va_P (dC, dI) xCl [(h0, .inr (1, [.ref q1, .ref q2, .ref q3, .ref q4, .ref q5, .null, .null, .null, .int 0])), (q1, .inl (dT 0, 40, .inl (fun _ => 0))), (q2, .inl (dT 0, 40, .inl (fun _ => 0))), (q3, .inl (dT 0, 40, .inl (fun _ => 0))), (q4, .inl (dT 0, 40, .inl (fun _ => 0))), (q5, .inl (dT 1, 40, .inr (.inl (fun _ => 0))))] H := hP
  have hD : va_D A [(h0, .inr (1, [.ref q1, .ref q2, .ref q3, .ref q4, .ref q5, .null, .null, .null, .int 0])), (q1, .inl (dT 0, 40, .inl (fun _ => 0))), (q2, .inl (dT 0, 40, .inl (fun _ => 0))), (q3, .inl (dT 0, 40, .inl (fun _ => 0))), (q4, .inl (dT 0, 40, .inl (fun _ => 0))), (q5, .inl (dT 1, 40, .inr (.inl (fun _ => 0))))] := hD
  refine lv_aload_n hx hb d_History_init_44 rfl (lv_at hl 0 rfl) ?_
  refine lv_bipush (v := (40 : Int32)) hx hb d_History_init_45 (by decide) ?_
  refine xna (ty := .long) (atype := .long) hx hb (hT _ wd_54) rfl hK 1 rfl (fun _ h => h) hP hD hS hA (a0 := (40, .inr (.inl (fun _ => 0)))) (N' := 40) (fun _ => rfl) (by decide) (by decide) (by decide) (Nat.le_of_ble_eq_true rfl) (Nat.le_of_ble_eq_true rfl) d_History_init_47 (fun q6 H hP hD hS => ?_)
  have hP : va_P (dC, dI) xCl [(h0, .inr (1, [.ref q1, .ref q2, .ref q3, .ref q4, .ref q5, .null, .null, .null, .int 0])), (q1, .inl (dT 0, 40, .inl (fun _ => 0))), (q2, .inl (dT 0, 40, .inl (fun _ => 0))), (q3, .inl (dT 0, 40, .inl (fun _ => 0))), (q4, .inl (dT 0, 40, .inl (fun _ => 0))), (q5, .inl (dT 1, 40, .inr (.inl (fun _ => 0)))), (q6, .inl (dT 1, 40, .inr (.inl (fun _ => 0))))] H := hP
  have hD : va_D A [(h0, .inr (1, [.ref q1, .ref q2, .ref q3, .ref q4, .ref q5, .null, .null, .null, .int 0])), (q1, .inl (dT 0, 40, .inl (fun _ => 0))), (q2, .inl (dT 0, 40, .inl (fun _ => 0))), (q3, .inl (dT 0, 40, .inl (fun _ => 0))), (q4, .inl (dT 0, 40, .inl (fun _ => 0))), (q5, .inl (dT 1, 40, .inr (.inl (fun _ => 0)))), (q6, .inl (dT 1, 40, .inr (.inl (fun _ => 0))))] := hD
  refine W.widen (k := 6) (n := 240) (Nat.le_of_ble_eq_true rfl) (Nat.le_of_ble_eq_true rfl) ?_
  refine va_putF (D := (dC, dI)) (ci := 1) (v := .ref q6) (ty := (.array .long)) (C := "EventGraphText$History") (T := T_History) (N := 9) hx hb hT hin_History ty_History tyok_History nm_History hown hK hP hD hS 0 rfl rfl 5 (by decide) (hT _ wd_30) (fun _ h9 => h9) rfl hin rfl (by decide +kernel) rfl rfl (Nat.le_of_ble_eq_true rfl) d_History_init_49 (fun H locs hP hD hS => ?_)
  have hP : va_P (dC, dI) xCl [(h0, .inr (1, [.ref q1, .ref q2, .ref q3, .ref q4, .ref q5, .ref q6, .null, .null, .int 0])), (q1, .inl (dT 0, 40, .inl (fun _ => 0))), (q2, .inl (dT 0, 40, .inl (fun _ => 0))), (q3, .inl (dT 0, 40, .inl (fun _ => 0))), (q4, .inl (dT 0, 40, .inl (fun _ => 0))), (q5, .inl (dT 1, 40, .inr (.inl (fun _ => 0)))), (q6, .inl (dT 1, 40, .inr (.inl (fun _ => 0))))] H := hP
  have hD : va_D A [(h0, .inr (1, [.ref q1, .ref q2, .ref q3, .ref q4, .ref q5, .ref q6, .null, .null, .int 0])), (q1, .inl (dT 0, 40, .inl (fun _ => 0))), (q2, .inl (dT 0, 40, .inl (fun _ => 0))), (q3, .inl (dT 0, 40, .inl (fun _ => 0))), (q4, .inl (dT 0, 40, .inl (fun _ => 0))), (q5, .inl (dT 1, 40, .inr (.inl (fun _ => 0)))), (q6, .inl (dT 1, 40, .inr (.inl (fun _ => 0))))] := hD
  refine lv_aload_n hx hb d_History_init_52 rfl (lv_at hl 0 rfl) ?_
  refine lv_bipush (v := (120 : Int32)) hx hb d_History_init_53 (by decide) ?_
  refine xna (ty := .int) (atype := .int) hx hb (hT _ wd_53) rfl hK 0 rfl (fun _ h => h) hP hD hS hA (a0 := (120, .inl (fun _ => 0))) (N' := 120) (fun _ => rfl) (by decide) (by decide) (by decide) (Nat.le_of_ble_eq_true rfl) (Nat.le_of_ble_eq_true rfl) d_History_init_55 (fun q7 H hP hD hS => ?_)
  have hP : va_P (dC, dI) xCl [(h0, .inr (1, [.ref q1, .ref q2, .ref q3, .ref q4, .ref q5, .ref q6, .null, .null, .int 0])), (q1, .inl (dT 0, 40, .inl (fun _ => 0))), (q2, .inl (dT 0, 40, .inl (fun _ => 0))), (q3, .inl (dT 0, 40, .inl (fun _ => 0))), (q4, .inl (dT 0, 40, .inl (fun _ => 0))), (q5, .inl (dT 1, 40, .inr (.inl (fun _ => 0)))), (q6, .inl (dT 1, 40, .inr (.inl (fun _ => 0)))), (q7, .inl (dT 0, 120, .inl (fun _ => 0)))] H := hP
  have hD : va_D A [(h0, .inr (1, [.ref q1, .ref q2, .ref q3, .ref q4, .ref q5, .ref q6, .null, .null, .int 0])), (q1, .inl (dT 0, 40, .inl (fun _ => 0))), (q2, .inl (dT 0, 40, .inl (fun _ => 0))), (q3, .inl (dT 0, 40, .inl (fun _ => 0))), (q4, .inl (dT 0, 40, .inl (fun _ => 0))), (q5, .inl (dT 1, 40, .inr (.inl (fun _ => 0)))), (q6, .inl (dT 1, 40, .inr (.inl (fun _ => 0)))), (q7, .inl (dT 0, 120, .inl (fun _ => 0)))] := hD
  refine W.widen (k := 7) (n := 360) (Nat.le_of_ble_eq_true rfl) (Nat.le_of_ble_eq_true rfl) ?_
  refine va_putF (D := (dC, dI)) (ci := 1) (v := .ref q7) (ty := (.array .int)) (C := "EventGraphText$History") (T := T_History) (N := 9) hx hb hT hin_History ty_History tyok_History nm_History hown hK hP hD hS 0 rfl rfl 6 (by decide) (hT _ wd_31) (fun _ h9 => h9) rfl hin rfl (by decide +kernel) rfl rfl (Nat.le_of_ble_eq_true rfl) d_History_init_57 (fun H locs hP hD hS => ?_)
  have hP : va_P (dC, dI) xCl [(h0, .inr (1, [.ref q1, .ref q2, .ref q3, .ref q4, .ref q5, .ref q6, .ref q7, .null, .int 0])), (q1, .inl (dT 0, 40, .inl (fun _ => 0))), (q2, .inl (dT 0, 40, .inl (fun _ => 0))), (q3, .inl (dT 0, 40, .inl (fun _ => 0))), (q4, .inl (dT 0, 40, .inl (fun _ => 0))), (q5, .inl (dT 1, 40, .inr (.inl (fun _ => 0)))), (q6, .inl (dT 1, 40, .inr (.inl (fun _ => 0)))), (q7, .inl (dT 0, 120, .inl (fun _ => 0)))] H := hP
  have hD : va_D A [(h0, .inr (1, [.ref q1, .ref q2, .ref q3, .ref q4, .ref q5, .ref q6, .ref q7, .null, .int 0])), (q1, .inl (dT 0, 40, .inl (fun _ => 0))), (q2, .inl (dT 0, 40, .inl (fun _ => 0))), (q3, .inl (dT 0, 40, .inl (fun _ => 0))), (q4, .inl (dT 0, 40, .inl (fun _ => 0))), (q5, .inl (dT 1, 40, .inr (.inl (fun _ => 0)))), (q6, .inl (dT 1, 40, .inr (.inl (fun _ => 0)))), (q7, .inl (dT 0, 120, .inl (fun _ => 0)))] := hD
  refine lv_aload_n hx hb d_History_init_60 rfl (lv_at hl 0 rfl) ?_
  refine lv_iconst (v := (3 : Int32)) hx hb d_History_init_61 (by decide) ?_
  refine xna (ty := .int) (atype := .int) hx hb (hT _ wd_53) rfl hK 0 rfl (fun _ h => h) hP hD hS hA (a0 := (3, .inl (fun _ => 0))) (N' := 3) (fun _ => rfl) (by decide) (by decide) (by decide) (Nat.le_of_ble_eq_true rfl) (Nat.le_of_ble_eq_true rfl) d_History_init_62 (fun q8 H hP hD hS => ?_)
  have hP : va_P (dC, dI) xCl [(h0, .inr (1, [.ref q1, .ref q2, .ref q3, .ref q4, .ref q5, .ref q6, .ref q7, .null, .int 0])), (q1, .inl (dT 0, 40, .inl (fun _ => 0))), (q2, .inl (dT 0, 40, .inl (fun _ => 0))), (q3, .inl (dT 0, 40, .inl (fun _ => 0))), (q4, .inl (dT 0, 40, .inl (fun _ => 0))), (q5, .inl (dT 1, 40, .inr (.inl (fun _ => 0)))), (q6, .inl (dT 1, 40, .inr (.inl (fun _ => 0)))), (q7, .inl (dT 0, 120, .inl (fun _ => 0))), (q8, .inl (dT 0, 3, .inl (fun _ => 0)))] H := hP
  have hD : va_D A [(h0, .inr (1, [.ref q1, .ref q2, .ref q3, .ref q4, .ref q5, .ref q6, .ref q7, .null, .int 0])), (q1, .inl (dT 0, 40, .inl (fun _ => 0))), (q2, .inl (dT 0, 40, .inl (fun _ => 0))), (q3, .inl (dT 0, 40, .inl (fun _ => 0))), (q4, .inl (dT 0, 40, .inl (fun _ => 0))), (q5, .inl (dT 1, 40, .inr (.inl (fun _ => 0)))), (q6, .inl (dT 1, 40, .inr (.inl (fun _ => 0)))), (q7, .inl (dT 0, 120, .inl (fun _ => 0))), (q8, .inl (dT 0, 3, .inl (fun _ => 0)))] := hD
  refine W.widen (k := 8) (n := 363) (Nat.le_of_ble_eq_true rfl) (Nat.le_of_ble_eq_true rfl) ?_
  refine va_putF (D := (dC, dI)) (ci := 1) (v := .ref q8) (ty := (.array .int)) (C := "EventGraphText$History") (T := T_History) (N := 9) hx hb hT hin_History ty_History tyok_History nm_History hown hK hP hD hS 0 rfl rfl 7 (by decide) (hT _ wd_32) (fun _ h9 => h9) rfl hin rfl (by decide +kernel) rfl rfl (Nat.le_of_ble_eq_true rfl) d_History_init_64 (fun H locs hP hD hS => ?_)
  have hP : va_P (dC, dI) xCl [(h0, .inr (1, [.ref q1, .ref q2, .ref q3, .ref q4, .ref q5, .ref q6, .ref q7, .ref q8, .int 0])), (q1, .inl (dT 0, 40, .inl (fun _ => 0))), (q2, .inl (dT 0, 40, .inl (fun _ => 0))), (q3, .inl (dT 0, 40, .inl (fun _ => 0))), (q4, .inl (dT 0, 40, .inl (fun _ => 0))), (q5, .inl (dT 1, 40, .inr (.inl (fun _ => 0)))), (q6, .inl (dT 1, 40, .inr (.inl (fun _ => 0)))), (q7, .inl (dT 0, 120, .inl (fun _ => 0))), (q8, .inl (dT 0, 3, .inl (fun _ => 0)))] H := hP
  have hD : va_D A [(h0, .inr (1, [.ref q1, .ref q2, .ref q3, .ref q4, .ref q5, .ref q6, .ref q7, .ref q8, .int 0])), (q1, .inl (dT 0, 40, .inl (fun _ => 0))), (q2, .inl (dT 0, 40, .inl (fun _ => 0))), (q3, .inl (dT 0, 40, .inl (fun _ => 0))), (q4, .inl (dT 0, 40, .inl (fun _ => 0))), (q5, .inl (dT 1, 40, .inr (.inl (fun _ => 0)))), (q6, .inl (dT 1, 40, .inr (.inl (fun _ => 0)))), (q7, .inl (dT 0, 120, .inl (fun _ => 0))), (q8, .inl (dT 0, 3, .inl (fun _ => 0)))] := hD
  refine lv_aload_n hx hb d_History_init_67 rfl (lv_at hl 0 rfl) ?_
  refine lv_iconst (v := (0 : Int32)) hx hb d_History_init_68 (by decide) ?_
  refine va_put (D := (dC, dI)) (ci := 1) (v := .int (0 : Int32)) (ty := .int) (C := "EventGraphText$History") (T := T_History) (N := 9) hx hb hT hin_History ty_History tyok_History nm_History hown hK hP hD hS 0 rfl rfl 8 (by decide) (hT _ wd_33) (fun _ h9 => h9) rfl (by decide +kernel) rfl rfl (Nat.le_of_ble_eq_true rfl) d_History_init_69 (fun H locs hP hD hS => ?_)
  have hP : va_P (dC, dI) xCl [(h0, .inr (1, [.ref q1, .ref q2, .ref q3, .ref q4, .ref q5, .ref q6, .ref q7, .ref q8, .int 0])), (q1, .inl (dT 0, 40, .inl (fun _ => 0))), (q2, .inl (dT 0, 40, .inl (fun _ => 0))), (q3, .inl (dT 0, 40, .inl (fun _ => 0))), (q4, .inl (dT 0, 40, .inl (fun _ => 0))), (q5, .inl (dT 1, 40, .inr (.inl (fun _ => 0)))), (q6, .inl (dT 1, 40, .inr (.inl (fun _ => 0)))), (q7, .inl (dT 0, 120, .inl (fun _ => 0))), (q8, .inl (dT 0, 3, .inl (fun _ => 0)))] H := hP
  have hD : va_D A [(h0, .inr (1, [.ref q1, .ref q2, .ref q3, .ref q4, .ref q5, .ref q6, .ref q7, .ref q8, .int 0])), (q1, .inl (dT 0, 40, .inl (fun _ => 0))), (q2, .inl (dT 0, 40, .inl (fun _ => 0))), (q3, .inl (dT 0, 40, .inl (fun _ => 0))), (q4, .inl (dT 0, 40, .inl (fun _ => 0))), (q5, .inl (dT 1, 40, .inr (.inl (fun _ => 0)))), (q6, .inl (dT 1, 40, .inr (.inl (fun _ => 0)))), (q7, .inl (dT 0, 120, .inl (fun _ => 0))), (q8, .inl (dT 0, 3, .inl (fun _ => 0)))] := hD
  exact W.vret hx hb hr (fun t ht hW => ⟨⟨(fun k => match k with | 0 => q1 | 1 => q2 | 2 => q3 | 3 => q4 | 4 => q5 | 5 => q6 | 6 => q7 | 7 => q8 | _ => 0), rfl, trivial, xp_heap ht hP, hD⟩, hS.F ht⟩) hS.2.2 d_History_init_72 hlocks
set_option maxHeartbeats 4000000 in
set_option maxRecDepth 100000 in
theorem c_CharacterList_init (l : Launch) (dC : Nat → ClassId) (dI : Nat → Nat → Nat) (dT : Nat → ClassId) (h0 sz : Nat) : Met l y_CharacterList_init (Cond.code y_CharacterList_init b_CharacterList_init 1 none :: xG) ({ frames := 1, cells := 5, slots := 200, locals := 12 }) (va_Pc [.ref h0] (xI (dC, dI) xCl (xT dT) [(h0, .inr (0, [.null, .null, .null, .null, .null, .long 0, .long 0, .int 0]))] sz)) (va_Qv (fun (_ : Nat → Nat) => True) (fun u t => va_P (dC, dI) xCl [(h0, .inr (0, [.ref (u 0), .ref (u 1), .ref (u 2), .ref (u 3), .ref (u 4), .long 0, .long 0, .int 0])), ((u 0), .inl (dT 0, 40, .inl (fun _ => 0))), ((u 1), .inl (dT 0, 40, .inl (fun _ => 0))), ((u 2), .inl (dT 2, 40, .inl (fun _ => 0))), ((u 3), .inl (dT 1, 40, .inr (.inl (fun _ => 0)))), ((u 4), .inl (dT 0, 40, .inl (fun _ => 0)))] t.heap ∧ va_D (va_A [(h0, .inr (0, [.null, .null, .null, .null, .null, .long 0, .long 0, .int 0]))] sz) [(h0, .inr (0, [.ref (u 0), .ref (u 1), .ref (u 2), .ref (u 3), .ref (u 4), .long 0, .long 0, .int 0])), ((u 0), .inl (dT 0, 40, .inl (fun _ => 0))), ((u 1), .inl (dT 0, 40, .inl (fun _ => 0))), ((u 2), .inl (dT 2, 40, .inl (fun _ => 0))), ((u 3), .inl (dT 1, 40, .inr (.inl (fun _ => 0)))), ((u 4), .inl (dT 0, 40, .inl (fun _ => 0)))]) (va_A [(h0, .inr (0, [.null, .null, .null, .null, .null, .long 0, .long 0, .int 0]))] sz)) 5 200 (va_A [(h0, .inr (0, [.null, .null, .null, .null, .null, .long 0, .long 0, .int 0]))] sz) := by
  refine Met.ofW (cc := b_CharacterList_init) (maxL := 1) (ret := none) (by decide) rfl ?_
  intro p e s m args below meth c s₁ B hml hv
  obtain ⟨rfl, hsz, hP, hD0, hK, hN, hAO⟩ := hv
  have hx := B.exec
  have hb := B.bytes
  have hr := B.returns
  have hts := atoms_spec (ws := (Cond.code y_CharacterList_init b_CharacterList_init 1 none :: xG)) B.pre
  have hT : ∀ w ∈ xG, w.before ([Value.ref h0] : List Value).toArray s = true := fun w h => hts w (List.mem_cons_of_mem _ h)
  have hown : s.vm.findClass "EventGraphText$CharacterList" = some m.cls := findClass_of_methodNamed B.named
  have hlocks := B.notSynchronized
  have hin : meth.name = "<init>" := (name_of_methodNamed B.named B.method).1
  subst hsz
  have hD := hD0.self (sz := s.heap.size)
  generalize hAe : va_A [(h0, .inr (0, [.null, .null, .null, .null, .null, .long 0, .long 0, .int 0]))] s.heap.size = A at hD ⊢
  have hA : ∀ q : Nat, s.heap.size ≤ q → A q := fun q h => by rw [← hAe]; exact Or.inr h
  have hS : va_S A s.heap s.heap [] := va_S.rf
  have hP : va_P (dC, dI) xCl [(h0, .inr (0, [.null, .null, .null, .null, .null, .long 0, .long 0, .int 0]))] s.heap := hP
  have hl := lv_entry ([.ref h0]) (n := 1) (Nat.le_of_ble_eq_true rfl)
  rw [lg_entry_eq]
  generalize (lg_sl ([.ref h0]) ++ List.replicate (1 - (lg_sl ([.ref h0])).length) Slot.unset).toArray = ls at hl ⊢
  have hl : lv_has ls 1 [(0, .ref h0)] := hl
  refine lv_aload_n hx hb d_CharacterList_init_0 rfl (lv_at hl 0 rfl) ?_
  refine W.objInit hx hb hown (hT _ wd_60) (hT _ wd_17) (hT _ wd_18) rfl (by rw [hml]; exact hl.1) rfl d_CharacterList_init_1 (Nat.le_of_ble_eq_true rfl) (Nat.le_of_ble_eq_true rfl) ?_
  refine W.eq (g2 := F0 m 4 ls []) rfl ?_
  refine lv_aload_n hx hb d_CharacterList_init_4 rfl (lv_at hl 0 rfl) ?_
  refine lv_bipush (v := (40 : Int32)) hx hb d_CharacterList_init_5 (by decide) ?_
  refine xna (ty := .int) (atype := .int) hx hb (hT _ wd_53) rfl hK 0 rfl (fun _ h => h) hP hD hS hA (a0 := (40, .inl (fun _ => 0))) (N' := 40) (fun _ => rfl) (by decide) (by decide) (by decide) (Nat.le_of_ble_eq_true rfl) (Nat.le_of_ble_eq_true rfl) d_CharacterList_init_7 (fun q1 H hP hD hS => ?_)
  have hP : va_P (dC, dI) xCl [(h0, .inr (0, [.null, .null, .null, .null, .null, .long 0, .long 0, .int 0])), (q1, .inl (dT 0, 40, .inl (fun _ => 0)))] H := hP
  have hD : va_D A [(h0, .inr (0, [.null, .null, .null, .null, .null, .long 0, .long 0, .int 0])), (q1, .inl (dT 0, 40, .inl (fun _ => 0)))] := hD
  refine W.widen (k := 1) (n := 40) (Nat.le_of_ble_eq_true rfl) (Nat.le_of_ble_eq_true rfl) ?_
  refine va_putF (D := (dC, dI)) (ci := 0) (v := .ref q1) (ty := (.array .int)) (C := "EventGraphText$CharacterList") (T := T_CharacterList) (N := 8) hx hb hT hin_CharacterList ty_CharacterList tyok_CharacterList nm_CharacterList hown hK hP hD hS 0 rfl rfl 0 (by decide) (hT _ wd_61) (fun _ h9 => h9) rfl hin rfl (by decide +kernel) rfl rfl (Nat.le_of_ble_eq_true rfl) d_CharacterList_init_9 (fun H locs hP hD hS => ?_)
  have hP : va_P (dC, dI) xCl [(h0, .inr (0, [.ref q1, .null, .null, .null, .null, .long 0, .long 0, .int 0])), (q1, .inl (dT 0, 40, .inl (fun _ => 0)))] H := hP
  have hD : va_D A [(h0, .inr (0, [.ref q1, .null, .null, .null, .null, .long 0, .long 0, .int 0])), (q1, .inl (dT 0, 40, .inl (fun _ => 0)))] := hD
  refine lv_aload_n hx hb d_CharacterList_init_12 rfl (lv_at hl 0 rfl) ?_
  refine lv_bipush (v := (40 : Int32)) hx hb d_CharacterList_init_13 (by decide) ?_
  refine xna (ty := .int) (atype := .int) hx hb (hT _ wd_53) rfl hK 0 rfl (fun _ h => h) hP hD hS hA (a0 := (40, .inl (fun _ => 0))) (N' := 40) (fun _ => rfl) (by decide) (by decide) (by decide) (Nat.le_of_ble_eq_true rfl) (Nat.le_of_ble_eq_true rfl) d_CharacterList_init_15 (fun q2 H hP hD hS => ?_)
  have hP : va_P (dC, dI) xCl [(h0, .inr (0, [.ref q1, .null, .null, .null, .null, .long 0, .long 0, .int 0])), (q1, .inl (dT 0, 40, .inl (fun _ => 0))), (q2, .inl (dT 0, 40, .inl (fun _ => 0)))] H := hP
  have hD : va_D A [(h0, .inr (0, [.ref q1, .null, .null, .null, .null, .long 0, .long 0, .int 0])), (q1, .inl (dT 0, 40, .inl (fun _ => 0))), (q2, .inl (dT 0, 40, .inl (fun _ => 0)))] := hD
  refine W.widen (k := 2) (n := 80) (Nat.le_of_ble_eq_true rfl) (Nat.le_of_ble_eq_true rfl) ?_
  refine va_putF (D := (dC, dI)) (ci := 0) (v := .ref q2) (ty := (.array .int)) (C := "EventGraphText$CharacterList") (T := T_CharacterList) (N := 8) hx hb hT hin_CharacterList ty_CharacterList tyok_CharacterList nm_CharacterList hown hK hP hD hS 0 rfl rfl 1 (by decide) (hT _ wd_62) (fun _ h9 => h9) rfl hin rfl (by decide +kernel) rfl rfl (Nat.le_of_ble_eq_true rfl) d_CharacterList_init_17 (fun H locs hP hD hS => ?_)
  have hP : va_P (dC, dI) xCl [(h0, .inr (0, [.ref q1, .ref q2, .null, .null, .null, .long 0, .long 0, .int 0])), (q1, .inl (dT 0, 40, .inl (fun _ => 0))), (q2, .inl (dT 0, 40, .inl (fun _ => 0)))] H := hP
  have hD : va_D A [(h0, .inr (0, [.ref q1, .ref q2, .null, .null, .null, .long 0, .long 0, .int 0])), (q1, .inl (dT 0, 40, .inl (fun _ => 0))), (q2, .inl (dT 0, 40, .inl (fun _ => 0)))] := hD
  refine lv_aload_n hx hb d_CharacterList_init_20 rfl (lv_at hl 0 rfl) ?_
  refine lv_bipush (v := (40 : Int32)) hx hb d_CharacterList_init_21 (by decide) ?_
  refine xna (ty := .boolean) (atype := .boolean) hx hb (hT _ wd_86) rfl hK 2 rfl (fun _ h => h) hP hD hS hA (a0 := (40, .inl (fun _ => 0))) (N' := 40) (fun _ => rfl) (by decide) (by decide) (by decide) (Nat.le_of_ble_eq_true rfl) (Nat.le_of_ble_eq_true rfl) d_CharacterList_init_23 (fun q3 H hP hD hS => ?_)
  have hP : va_P (dC, dI) xCl [(h0, .inr (0, [.ref q1, .ref q2, .null, .null, .null, .long 0, .long 0, .int 0])), (q1, .inl (dT 0, 40, .inl (fun _ => 0))), (q2, .inl (dT 0, 40, .inl (fun _ => 0))), (q3, .inl (dT 2, 40, .inl (fun _ => 0)))] H := hP
  have hD : va_D A [(h0, .inr (0, [.ref q1, .ref q2, .null, .null, .null, .long 0, .long 0, .int 0])), (q1, .inl (dT 0, 40, .inl (fun _ => 0))), (q2, .inl (dT 0, 40, .inl (fun _ => 0))), (q3, .inl (dT 2, 40, .inl (fun _ => 0)))] := hD
  refine W.widen (k := 3) (n := 120) (Nat.le_of_ble_eq_true rfl) (Nat.le_of_ble_eq_true rfl) ?_
  refine va_putF (D := (dC, dI)) (ci := 0) (v := .ref q3) (ty := (.array .boolean)) (C := "EventGraphText$CharacterList") (T := T_CharacterList) (N := 8) hx hb hT hin_CharacterList ty_CharacterList tyok_CharacterList nm_CharacterList hown hK hP hD hS 0 rfl rfl 2 (by decide) (hT _ wd_63) (fun _ h9 => h9) rfl hin rfl (by decide +kernel) rfl rfl (Nat.le_of_ble_eq_true rfl) d_CharacterList_init_25 (fun H locs hP hD hS => ?_)
  have hP : va_P (dC, dI) xCl [(h0, .inr (0, [.ref q1, .ref q2, .ref q3, .null, .null, .long 0, .long 0, .int 0])), (q1, .inl (dT 0, 40, .inl (fun _ => 0))), (q2, .inl (dT 0, 40, .inl (fun _ => 0))), (q3, .inl (dT 2, 40, .inl (fun _ => 0)))] H := hP
  have hD : va_D A [(h0, .inr (0, [.ref q1, .ref q2, .ref q3, .null, .null, .long 0, .long 0, .int 0])), (q1, .inl (dT 0, 40, .inl (fun _ => 0))), (q2, .inl (dT 0, 40, .inl (fun _ => 0))), (q3, .inl (dT 2, 40, .inl (fun _ => 0)))] := hD
  refine lv_aload_n hx hb d_CharacterList_init_28 rfl (lv_at hl 0 rfl) ?_
  refine lv_bipush (v := (40 : Int32)) hx hb d_CharacterList_init_29 (by decide) ?_
  refine xna (ty := .long) (atype := .long) hx hb (hT _ wd_54) rfl hK 1 rfl (fun _ h => h) hP hD hS hA (a0 := (40, .inr (.inl (fun _ => 0)))) (N' := 40) (fun _ => rfl) (by decide) (by decide) (by decide) (Nat.le_of_ble_eq_true rfl) (Nat.le_of_ble_eq_true rfl) d_CharacterList_init_31 (fun q4 H hP hD hS => ?_)
  have hP : va_P (dC, dI) xCl [(h0, .inr (0, [.ref q1, .ref q2, .ref q3, .null, .null, .long 0, .long 0, .int 0])), (q1, .inl (dT 0, 40, .inl (fun _ => 0))), (q2, .inl (dT 0, 40, .inl (fun _ => 0))), (q3, .inl (dT 2, 40, .inl (fun _ => 0))), (q4, .inl (dT 1, 40, .inr (.inl (fun _ => 0))))] H := hP
  have hD : va_D A [(h0, .inr (0, [.ref q1, .ref q2, .ref q3, .null, .null, .long 0, .long 0, .int 0])), (q1, .inl (dT 0, 40, .inl (fun _ => 0))), (q2, .inl (dT 0, 40, .inl (fun _ => 0))), (q3, .inl (dT 2, 40, .inl (fun _ => 0))), (q4, .inl (dT 1, 40, .inr (.inl (fun _ => 0))))] := hD
  refine W.widen (k := 4) (n := 160) (Nat.le_of_ble_eq_true rfl) (Nat.le_of_ble_eq_true rfl) ?_
  refine va_putF (D := (dC, dI)) (ci := 0) (v := .ref q4) (ty := (.array .long)) (C := "EventGraphText$CharacterList") (T := T_CharacterList) (N := 8) hx hb hT hin_CharacterList ty_CharacterList tyok_CharacterList nm_CharacterList hown hK hP hD hS 0 rfl rfl 3 (by decide) (hT _ wd_64) (fun _ h9 => h9) rfl hin rfl (by decide +kernel) rfl rfl (Nat.le_of_ble_eq_true rfl) d_CharacterList_init_33 (fun H locs hP hD hS => ?_)
  have hP : va_P (dC, dI) xCl [(h0, .inr (0, [.ref q1, .ref q2, .ref q3, .ref q4, .null, .long 0, .long 0, .int 0])), (q1, .inl (dT 0, 40, .inl (fun _ => 0))), (q2, .inl (dT 0, 40, .inl (fun _ => 0))), (q3, .inl (dT 2, 40, .inl (fun _ => 0))), (q4, .inl (dT 1, 40, .inr (.inl (fun _ => 0))))] H := hP
  have hD : va_D A [(h0, .inr (0, [.ref q1, .ref q2, .ref q3, .ref q4, .null, .long 0, .long 0, .int 0])), (q1, .inl (dT 0, 40, .inl (fun _ => 0))), (q2, .inl (dT 0, 40, .inl (fun _ => 0))), (q3, .inl (dT 2, 40, .inl (fun _ => 0))), (q4, .inl (dT 1, 40, .inr (.inl (fun _ => 0))))] := hD
  refine lv_aload_n hx hb d_CharacterList_init_36 rfl (lv_at hl 0 rfl) ?_
  refine lv_bipush (v := (40 : Int32)) hx hb d_CharacterList_init_37 (by decide) ?_
  refine xna (ty := .int) (atype := .int) hx hb (hT _ wd_53) rfl hK 0 rfl (fun _ h => h) hP hD hS hA (a0 := (40, .inl (fun _ => 0))) (N' := 40) (fun _ => rfl) (by decide) (by decide) (by decide) (Nat.le_of_ble_eq_true rfl) (Nat.le_of_ble_eq_true rfl) d_CharacterList_init_39 (fun q5 H hP hD hS => ?_)
  have hP : va_P (dC, dI) xCl [(h0, .inr (0, [.ref q1, .ref q2, .ref q3, .ref q4, .null, .long 0, .long 0, .int 0])), (q1, .inl (dT 0, 40, .inl (fun _ => 0))), (q2, .inl (dT 0, 40, .inl (fun _ => 0))), (q3, .inl (dT 2, 40, .inl (fun _ => 0))), (q4, .inl (dT 1, 40, .inr (.inl (fun _ => 0)))), (q5, .inl (dT 0, 40, .inl (fun _ => 0)))] H := hP
  have hD : va_D A [(h0, .inr (0, [.ref q1, .ref q2, .ref q3, .ref q4, .null, .long 0, .long 0, .int 0])), (q1, .inl (dT 0, 40, .inl (fun _ => 0))), (q2, .inl (dT 0, 40, .inl (fun _ => 0))), (q3, .inl (dT 2, 40, .inl (fun _ => 0))), (q4, .inl (dT 1, 40, .inr (.inl (fun _ => 0)))), (q5, .inl (dT 0, 40, .inl (fun _ => 0)))] := hD
  refine W.widen (k := 5) (n := 200) (Nat.le_of_ble_eq_true rfl) (Nat.le_of_ble_eq_true rfl) ?_
  refine va_putF (D := (dC, dI)) (ci := 0) (v := .ref q5) (ty := (.array .int)) (C := "EventGraphText$CharacterList") (T := T_CharacterList) (N := 8) hx hb hT hin_CharacterList ty_CharacterList tyok_CharacterList nm_CharacterList hown hK hP hD hS 0 rfl rfl 4 (by decide) (hT _ wd_65) (fun _ h9 => h9) rfl hin rfl (by decide +kernel) rfl rfl (Nat.le_of_ble_eq_true rfl) d_CharacterList_init_41 (fun H locs hP hD hS => ?_)
  have hP : va_P (dC, dI) xCl [(h0, .inr (0, [.ref q1, .ref q2, .ref q3, .ref q4, .ref q5, .long 0, .long 0, .int 0])), (q1, .inl (dT 0, 40, .inl (fun _ => 0))), (q2, .inl (dT 0, 40, .inl (fun _ => 0))), (q3, .inl (dT 2, 40, .inl (fun _ => 0))), (q4, .inl (dT 1, 40, .inr (.inl (fun _ => 0)))), (q5, .inl (dT 0, 40, .inl (fun _ => 0)))] H := hP
  have hD : va_D A [(h0, .inr (0, [.ref q1, .ref q2, .ref q3, .ref q4, .ref q5, .long 0, .long 0, .int 0])), (q1, .inl (dT 0, 40, .inl (fun _ => 0))), (q2, .inl (dT 0, 40, .inl (fun _ => 0))), (q3, .inl (dT 2, 40, .inl (fun _ => 0))), (q4, .inl (dT 1, 40, .inr (.inl (fun _ => 0)))), (q5, .inl (dT 0, 40, .inl (fun _ => 0)))] := hD
  refine lv_aload_n hx hb d_CharacterList_init_44 rfl (lv_at hl 0 rfl) ?_
  refine lv_lconst (v := (0 : Int64)) hx hb d_CharacterList_init_45 (by decide) ?_
  refine va_put (D := (dC, dI)) (ci := 0) (v := .long (0 : Int64)) (ty := .long) (C := "EventGraphText$CharacterList") (T := T_CharacterList) (N := 8) hx hb hT hin_CharacterList ty_CharacterList tyok_CharacterList nm_CharacterList hown hK hP hD hS 0 rfl rfl 5 (by decide) (hT _ wd_66) (fun _ h9 => h9) rfl (by decide +kernel) rfl rfl (Nat.le_of_ble_eq_true rfl) d_CharacterList_init_46 (fun H locs hP hD hS => ?_)
  have hP : va_P (dC, dI) xCl [(h0, .inr (0, [.ref q1, .ref q2, .ref q3, .ref q4, .ref q5, .long 0, .long 0, .int 0])), (q1, .inl (dT 0, 40, .inl (fun _ => 0))), (q2, .inl (dT 0, 40, .inl (fun _ => 0))), (q3, .inl (dT 2, 40, .inl (fun _ => 0))), (q4, .inl (dT 1, 40, .inr (.inl (fun _ => 0)))), (q5, .inl (dT 0, 40, .inl (fun _ => 0)))] H := hP
  have hD : va_D A [(h0, .inr (0, [.ref q1, .ref q2, .ref q3, .ref q4, .ref q5, .long 0, .long 0, .int 0])), (q1, .inl (dT 0, 40, .inl (fun _ => 0))), (q2, .inl (dT 0, 40, .inl (fun _ => 0))), (q3, .inl (dT 2, 40, .inl (fun _ => 0))), (q4, .inl (dT 1, 40, .inr (.inl (fun _ => 0)))), (q5, .inl (dT 0, 40, .inl (fun _ => 0)))] := hD
  refine lv_aload_n hx hb d_CharacterList_init_49 rfl (lv_at hl 0 rfl) ?_
  refine lv_lconst (v := (0 : Int64)) hx hb d_CharacterList_init_50 (by decide) ?_
  refine va_put (D := (dC, dI)) (ci := 0) (v := .long (0 : Int64)) (ty := .long) (C := "EventGraphText$CharacterList") (T := T_CharacterList) (N := 8) hx hb hT hin_CharacterList ty_CharacterList tyok_CharacterList nm_CharacterList hown hK hP hD hS 0 rfl rfl 6 (by decide) (hT _ wd_67) (fun _ h9 => h9) rfl (by decide +kernel) rfl rfl (Nat.le_of_ble_eq_true rfl) d_CharacterList_init_51 (fun H locs hP hD hS => ?_)
  have hP : va_P (dC, dI) xCl [(h0, .inr (0, [.ref q1, .ref q2, .ref q3, .ref q4, .ref q5, .long 0, .long 0, .int 0])), (q1, .inl (dT 0, 40, .inl (fun _ => 0))), (q2, .inl (dT 0, 40, .inl (fun _ => 0))), (q3, .inl (dT 2, 40, .inl (fun _ => 0))), (q4, .inl (dT 1, 40, .inr (.inl (fun _ => 0)))), (q5, .inl (dT 0, 40, .inl (fun _ => 0)))] H := hP
  have hD : va_D A [(h0, .inr (0, [.ref q1, .ref q2, .ref q3, .ref q4, .ref q5, .long 0, .long 0, .int 0])), (q1, .inl (dT 0, 40, .inl (fun _ => 0))), (q2, .inl (dT 0, 40, .inl (fun _ => 0))), (q3, .inl (dT 2, 40, .inl (fun _ => 0))), (q4, .inl (dT 1, 40, .inr (.inl (fun _ => 0)))), (q5, .inl (dT 0, 40, .inl (fun _ => 0)))] := hD
  refine lv_aload_n hx hb d_CharacterList_init_54 rfl (lv_at hl 0 rfl) ?_
  refine lv_iconst (v := (0 : Int32)) hx hb d_CharacterList_init_55 (by decide) ?_
  refine va_put (D := (dC, dI)) (ci := 0) (v := .int (0 : Int32)) (ty := .int) (C := "EventGraphText$CharacterList") (T := T_CharacterList) (N := 8) hx hb hT hin_CharacterList ty_CharacterList tyok_CharacterList nm_CharacterList hown hK hP hD hS 0 rfl rfl 7 (by decide) (hT _ wd_68) (fun _ h9 => h9) rfl (by decide +kernel) rfl rfl (Nat.le_of_ble_eq_true rfl) d_CharacterList_init_56 (fun H locs hP hD hS => ?_)
  have hP : va_P (dC, dI) xCl [(h0, .inr (0, [.ref q1, .ref q2, .ref q3, .ref q4, .ref q5, .long 0, .long 0, .int 0])), (q1, .inl (dT 0, 40, .inl (fun _ => 0))), (q2, .inl (dT 0, 40, .inl (fun _ => 0))), (q3, .inl (dT 2, 40, .inl (fun _ => 0))), (q4, .inl (dT 1, 40, .inr (.inl (fun _ => 0)))), (q5, .inl (dT 0, 40, .inl (fun _ => 0)))] H := hP
  have hD : va_D A [(h0, .inr (0, [.ref q1, .ref q2, .ref q3, .ref q4, .ref q5, .long 0, .long 0, .int 0])), (q1, .inl (dT 0, 40, .inl (fun _ => 0))), (q2, .inl (dT 0, 40, .inl (fun _ => 0))), (q3, .inl (dT 2, 40, .inl (fun _ => 0))), (q4, .inl (dT 1, 40, .inr (.inl (fun _ => 0)))), (q5, .inl (dT 0, 40, .inl (fun _ => 0)))] := hD
  exact W.vret hx hb hr (fun t ht hW => ⟨⟨(fun k => match k with | 0 => q1 | 1 => q2 | 2 => q3 | 3 => q4 | 4 => q5 | _ => 0), rfl, trivial, xp_heap ht hP, hD⟩, hS.F ht⟩) hS.2.2 d_CharacterList_init_59 hlocks
set_option maxHeartbeats 4000000 in
set_option maxRecDepth 100000 in
theorem c_Line_init (l : Launch) (dC : Nat → ClassId) (dI : Nat → Nat → Nat) (dT : Nat → ClassId) (h0 sz : Nat) : Met l y_Line_init (Cond.code y_Line_init b_Line_init 1 none :: xG) ({ frames := 1, cells := 1, slots := 40, locals := 12 }) (va_Pc [.ref h0] (xI (dC, dI) xCl (xT dT) [(h0, .inr (2, [.null, .int 0]))] sz)) (va_Qv (fun (_ : Nat → Nat) => True) (fun u t => va_P (dC, dI) xCl [(h0, .inr (2, [.ref (u 0), .int 0])), ((u 0), .inl (dT 0, 40, .inl (fun _ => 0)))] t.heap ∧ va_D (va_A [(h0, .inr (2, [.null, .int 0]))] sz) [(h0, .inr (2, [.ref (u 0), .int 0])), ((u 0), .inl (dT 0, 40, .inl (fun _ => 0)))]) (va_A [(h0, .inr (2, [.null, .int 0]))] sz)) 1 40 (va_A [(h0, .inr (2, [.null, .int 0]))] sz) := by
  refine Met.ofW (cc := b_Line_init) (maxL := 1) (ret := none) (by decide) rfl ?_
  intro p e s m args below meth c s₁ B hml hv
  obtain ⟨rfl, hsz, hP, hD0, hK, hN, hAO⟩ := hv
  have hx := B.exec
  have hb := B.bytes
  have hr := B.returns
  have hts := atoms_spec (ws := (Cond.code y_Line_init b_Line_init 1 none :: xG)) B.pre
  have hT : ∀ w ∈ xG, w.before ([Value.ref h0] : List Value).toArray s = true := fun w h => hts w (List.mem_cons_of_mem _ h)
  have hown : s.vm.findClass "EventGraphText$Line" = some m.cls := findClass_of_methodNamed B.named
  have hlocks := B.notSynchronized
  have hin : meth.name = "<init>" := (name_of_methodNamed B.named B.method).1
  subst hsz
  have hD := hD0.self (sz := s.heap.size)
  generalize hAe : va_A [(h0, .inr (2, [.null, .int 0]))] s.heap.size = A at hD ⊢
  have hA : ∀ q : Nat, s.heap.size ≤ q → A q := fun q h => by rw [← hAe]; exact Or.inr h
  have hS : va_S A s.heap s.heap [] := va_S.rf
  have hP : va_P (dC, dI) xCl [(h0, .inr (2, [.null, .int 0]))] s.heap := hP
  have hl := lv_entry ([.ref h0]) (n := 1) (Nat.le_of_ble_eq_true rfl)
  rw [lg_entry_eq]
  generalize (lg_sl ([.ref h0]) ++ List.replicate (1 - (lg_sl ([.ref h0])).length) Slot.unset).toArray = ls at hl ⊢
  have hl : lv_has ls 1 [(0, .ref h0)] := hl
  refine lv_aload_n hx hb d_Line_init_0 rfl (lv_at hl 0 rfl) ?_
  refine W.objInit hx hb hown (hT _ wd_92) (hT _ wd_17) (hT _ wd_18) rfl (by rw [hml]; exact hl.1) rfl d_Line_init_1 (Nat.le_of_ble_eq_true rfl) (Nat.le_of_ble_eq_true rfl) ?_
  refine W.eq (g2 := F0 m 4 ls []) rfl ?_
  refine lv_aload_n hx hb d_Line_init_4 rfl (lv_at hl 0 rfl) ?_
  refine lv_bipush (v := (40 : Int32)) hx hb d_Line_init_5 (by decide) ?_
  refine xna (ty := .int) (atype := .int) hx hb (hT _ wd_53) rfl hK 0 rfl (fun _ h => h) hP hD hS hA (a0 := (40, .inl (fun _ => 0))) (N' := 40) (fun _ => rfl) (by decide) (by decide) (by decide) (Nat.le_of_ble_eq_true rfl) (Nat.le_of_ble_eq_true rfl) d_Line_init_7 (fun q1 H hP hD hS => ?_)
  have hP : va_P (dC, dI) xCl [(h0, .inr (2, [.null, .int 0])), (q1, .inl (dT 0, 40, .inl (fun _ => 0)))] H := hP
  have hD : va_D A [(h0, .inr (2, [.null, .int 0])), (q1, .inl (dT 0, 40, .inl (fun _ => 0)))] := hD
  refine W.widen (k := 1) (n := 40) (Nat.le_of_ble_eq_true rfl) (Nat.le_of_ble_eq_true rfl) ?_
  refine va_putF (D := (dC, dI)) (ci := 2) (v := .ref q1) (ty := (.array .int)) (C := "EventGraphText$Line") (T := T_Line) (N := 2) hx hb hT hin_Line ty_Line tyok_Line nm_Line hown hK hP hD hS 0 rfl rfl 0 (by decide) (hT _ wd_93) (fun _ h9 => h9) rfl hin rfl (by decide +kernel) rfl rfl (Nat.le_of_ble_eq_true rfl) d_Line_init_9 (fun H locs hP hD hS => ?_)
  have hP : va_P (dC, dI) xCl [(h0, .inr (2, [.ref q1, .int 0])), (q1, .inl (dT 0, 40, .inl (fun _ => 0)))] H := hP
  have hD : va_D A [(h0, .inr (2, [.ref q1, .int 0])), (q1, .inl (dT 0, 40, .inl (fun _ => 0)))] := hD
  refine lv_aload_n hx hb d_Line_init_12 rfl (lv_at hl 0 rfl) ?_
  refine lv_iconst (v := (0 : Int32)) hx hb d_Line_init_13 (by decide) ?_
  refine va_put (D := (dC, dI)) (ci := 2) (v := .int (0 : Int32)) (ty := .int) (C := "EventGraphText$Line") (T := T_Line) (N := 2) hx hb hT hin_Line ty_Line tyok_Line nm_Line hown hK hP hD hS 0 rfl rfl 1 (by decide) (hT _ wd_94) (fun _ h9 => h9) rfl (by decide +kernel) rfl rfl (Nat.le_of_ble_eq_true rfl) d_Line_init_14 (fun H locs hP hD hS => ?_)
  have hP : va_P (dC, dI) xCl [(h0, .inr (2, [.ref q1, .int 0])), (q1, .inl (dT 0, 40, .inl (fun _ => 0)))] H := hP
  have hD : va_D A [(h0, .inr (2, [.ref q1, .int 0])), (q1, .inl (dT 0, 40, .inl (fun _ => 0)))] := hD
  exact W.vret hx hb hr (fun t ht hW => ⟨⟨(fun k => match k with | 0 => q1 | _ => 0), rfl, trivial, xp_heap ht hP, hD⟩, hS.F ht⟩) hS.2.2 d_Line_init_17 hlocks
set_option maxHeartbeats 4000000 in
set_option maxRecDepth 100000 in
theorem c_Merge_init (l : Launch) (dC : Nat → ClassId) (dI : Nat → Nat → Nat) (dT : Nat → ClassId) (h0 sz : Nat) : Met l y_Merge_init (Cond.code y_Merge_init b_Merge_init 1 none :: xG) ({ frames := 1, cells := 1, slots := 40, locals := 12 }) (va_Pc [.ref h0] (xI (dC, dI) xCl (xT dT) [(h0, .inr (3, [.null, .int 0, .int 0, .int 0]))] sz)) (va_Qv (fun (_ : Nat → Nat) => True) (fun u t => va_P (dC, dI) xCl [(h0, .inr (3, [.ref (u 0), .int 0, .int 0, .int 0])), ((u 0), .inl (dT 0, 40, .inl (fun _ => 0)))] t.heap ∧ va_D (va_A [(h0, .inr (3, [.null, .int 0, .int 0, .int 0]))] sz) [(h0, .inr (3, [.ref (u 0), .int 0, .int 0, .int 0])), ((u 0), .inl (dT 0, 40, .inl (fun _ => 0)))]) (va_A [(h0, .inr (3, [.null, .int 0, .int 0, .int 0]))] sz)) 1 40 (va_A [(h0, .inr (3, [.null, .int 0, .int 0, .int 0]))] sz) := by
  refine Met.ofW (cc := b_Merge_init) (maxL := 1) (ret := none) (by decide) rfl ?_
  intro p e s m args below meth c s₁ B hml hv
  obtain ⟨rfl, hsz, hP, hD0, hK, hN, hAO⟩ := hv
  have hx := B.exec
  have hb := B.bytes
  have hr := B.returns
  have hts := atoms_spec (ws := (Cond.code y_Merge_init b_Merge_init 1 none :: xG)) B.pre
  have hT : ∀ w ∈ xG, w.before ([Value.ref h0] : List Value).toArray s = true := fun w h => hts w (List.mem_cons_of_mem _ h)
  have hown : s.vm.findClass "EventGraphText$Merge" = some m.cls := findClass_of_methodNamed B.named
  have hlocks := B.notSynchronized
  have hin : meth.name = "<init>" := (name_of_methodNamed B.named B.method).1
  subst hsz
  have hD := hD0.self (sz := s.heap.size)
  generalize hAe : va_A [(h0, .inr (3, [.null, .int 0, .int 0, .int 0]))] s.heap.size = A at hD ⊢
  have hA : ∀ q : Nat, s.heap.size ≤ q → A q := fun q h => by rw [← hAe]; exact Or.inr h
  have hS : va_S A s.heap s.heap [] := va_S.rf
  have hP : va_P (dC, dI) xCl [(h0, .inr (3, [.null, .int 0, .int 0, .int 0]))] s.heap := hP
  have hl := lv_entry ([.ref h0]) (n := 1) (Nat.le_of_ble_eq_true rfl)
  rw [lg_entry_eq]
  generalize (lg_sl ([.ref h0]) ++ List.replicate (1 - (lg_sl ([.ref h0])).length) Slot.unset).toArray = ls at hl ⊢
  have hl : lv_has ls 1 [(0, .ref h0)] := hl
  refine lv_aload_n hx hb d_Merge_init_0 rfl (lv_at hl 0 rfl) ?_
  refine W.objInit hx hb hown (hT _ wd_112) (hT _ wd_17) (hT _ wd_18) rfl (by rw [hml]; exact hl.1) rfl d_Merge_init_1 (Nat.le_of_ble_eq_true rfl) (Nat.le_of_ble_eq_true rfl) ?_
  refine W.eq (g2 := F0 m 4 ls []) rfl ?_
  refine lv_aload_n hx hb d_Merge_init_4 rfl (lv_at hl 0 rfl) ?_
  refine lv_bipush (v := (40 : Int32)) hx hb d_Merge_init_5 (by decide) ?_
  refine xna (ty := .int) (atype := .int) hx hb (hT _ wd_53) rfl hK 0 rfl (fun _ h => h) hP hD hS hA (a0 := (40, .inl (fun _ => 0))) (N' := 40) (fun _ => rfl) (by decide) (by decide) (by decide) (Nat.le_of_ble_eq_true rfl) (Nat.le_of_ble_eq_true rfl) d_Merge_init_7 (fun q1 H hP hD hS => ?_)
  have hP : va_P (dC, dI) xCl [(h0, .inr (3, [.null, .int 0, .int 0, .int 0])), (q1, .inl (dT 0, 40, .inl (fun _ => 0)))] H := hP
  have hD : va_D A [(h0, .inr (3, [.null, .int 0, .int 0, .int 0])), (q1, .inl (dT 0, 40, .inl (fun _ => 0)))] := hD
  refine W.widen (k := 1) (n := 40) (Nat.le_of_ble_eq_true rfl) (Nat.le_of_ble_eq_true rfl) ?_
  refine va_putF (D := (dC, dI)) (ci := 3) (v := .ref q1) (ty := (.array .int)) (C := "EventGraphText$Merge") (T := T_Merge) (N := 4) hx hb hT hin_Merge ty_Merge tyok_Merge nm_Merge hown hK hP hD hS 0 rfl rfl 0 (by decide) (hT _ wd_113) (fun _ h9 => h9) rfl hin rfl (by decide +kernel) rfl rfl (Nat.le_of_ble_eq_true rfl) d_Merge_init_9 (fun H locs hP hD hS => ?_)
  have hP : va_P (dC, dI) xCl [(h0, .inr (3, [.ref q1, .int 0, .int 0, .int 0])), (q1, .inl (dT 0, 40, .inl (fun _ => 0)))] H := hP
  have hD : va_D A [(h0, .inr (3, [.ref q1, .int 0, .int 0, .int 0])), (q1, .inl (dT 0, 40, .inl (fun _ => 0)))] := hD
  refine lv_aload_n hx hb d_Merge_init_12 rfl (lv_at hl 0 rfl) ?_
  refine lv_iconst (v := (0 : Int32)) hx hb d_Merge_init_13 (by decide) ?_
  refine va_put (D := (dC, dI)) (ci := 3) (v := .int (0 : Int32)) (ty := .int) (C := "EventGraphText$Merge") (T := T_Merge) (N := 4) hx hb hT hin_Merge ty_Merge tyok_Merge nm_Merge hown hK hP hD hS 0 rfl rfl 1 (by decide) (hT _ wd_115) (fun _ h9 => h9) rfl (by decide +kernel) rfl rfl (Nat.le_of_ble_eq_true rfl) d_Merge_init_14 (fun H locs hP hD hS => ?_)
  have hP : va_P (dC, dI) xCl [(h0, .inr (3, [.ref q1, .int 0, .int 0, .int 0])), (q1, .inl (dT 0, 40, .inl (fun _ => 0)))] H := hP
  have hD : va_D A [(h0, .inr (3, [.ref q1, .int 0, .int 0, .int 0])), (q1, .inl (dT 0, 40, .inl (fun _ => 0)))] := hD
  refine lv_aload_n hx hb d_Merge_init_17 rfl (lv_at hl 0 rfl) ?_
  refine lv_iconst (v := (0 : Int32)) hx hb d_Merge_init_18 (by decide) ?_
  refine va_put (D := (dC, dI)) (ci := 3) (v := .int (0 : Int32)) (ty := .int) (C := "EventGraphText$Merge") (T := T_Merge) (N := 4) hx hb hT hin_Merge ty_Merge tyok_Merge nm_Merge hown hK hP hD hS 0 rfl rfl 2 (by decide) (hT _ wd_117) (fun _ h9 => h9) rfl (by decide +kernel) rfl rfl (Nat.le_of_ble_eq_true rfl) d_Merge_init_19 (fun H locs hP hD hS => ?_)
  have hP : va_P (dC, dI) xCl [(h0, .inr (3, [.ref q1, .int 0, .int 0, .int 0])), (q1, .inl (dT 0, 40, .inl (fun _ => 0)))] H := hP
  have hD : va_D A [(h0, .inr (3, [.ref q1, .int 0, .int 0, .int 0])), (q1, .inl (dT 0, 40, .inl (fun _ => 0)))] := hD
  refine lv_aload_n hx hb d_Merge_init_22 rfl (lv_at hl 0 rfl) ?_
  refine lv_iconst (v := (0 : Int32)) hx hb d_Merge_init_23 (by decide) ?_
  refine va_put (D := (dC, dI)) (ci := 3) (v := .int (0 : Int32)) (ty := .int) (C := "EventGraphText$Merge") (T := T_Merge) (N := 4) hx hb hT hin_Merge ty_Merge tyok_Merge nm_Merge hown hK hP hD hS 0 rfl rfl 3 (by decide) (hT _ wd_119) (fun _ h9 => h9) rfl (by decide +kernel) rfl rfl (Nat.le_of_ble_eq_true rfl) d_Merge_init_24 (fun H locs hP hD hS => ?_)
  have hP : va_P (dC, dI) xCl [(h0, .inr (3, [.ref q1, .int 0, .int 0, .int 0])), (q1, .inl (dT 0, 40, .inl (fun _ => 0)))] H := hP
  have hD : va_D A [(h0, .inr (3, [.ref q1, .int 0, .int 0, .int 0])), (q1, .inl (dT 0, 40, .inl (fun _ => 0)))] := hD
  exact W.vret hx hb hr (fun t ht hW => ⟨⟨(fun k => match k with | 0 => q1 | _ => 0), rfl, trivial, xp_heap ht hP, hD⟩, hS.F ht⟩) hS.2.2 d_Merge_init_27 hlocks
