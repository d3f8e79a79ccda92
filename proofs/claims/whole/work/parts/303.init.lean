set_option maxHeartbeats 4000000 in
set_option maxRecDepth 100000 in
theorem c_Site_init (l : Launch) (dC : Nat → ClassId) (dI : Nat → Nat → Nat) (dT : Nat → ClassId) (h0 sz : Nat) : Met l y_Site_init (Cond.code y_Site_init b_Site_init 1 none :: xG) ({ frames := 2, cells := 3, slots := 47, locals := 32 }) (va_Pc [.ref h0] (xI (dC, dI) xCl (xT dT) [(h0, .inr (6, [.null, .null, .long 0]))] sz)) (va_Qv (fun (_ : Nat → Nat) => True) (fun u t => va_P (dC, dI) xCl [(h0, .inr (6, [.ref (u 0), .ref (u 1), .long 0])), ((u 0), .inl (dT 1, 3, .inr (.inl (fun _ => 0)))), ((u 1), .inr (3, [.ref (u 2), .int 0, .int 0, .int 0])), ((u 2), .inl (dT 0, 40, .inl (fun _ => 0)))] t.heap ∧ va_D (va_A [(h0, .inr (6, [.null, .null, .long 0]))] sz) [(h0, .inr (6, [.ref (u 0), .ref (u 1), .long 0])), ((u 0), .inl (dT 1, 3, .inr (.inl (fun _ => 0)))), ((u 1), .inr (3, [.ref (u 2), .int 0, .int 0, .int 0])), ((u 2), .inl (dT 0, 40, .inl (fun _ => 0)))]) (va_A [(h0, .inr (6, [.null, .null, .long 0]))] sz)) 3 47 (va_A [(h0, .inr (6, [.null, .null, .long 0]))] sz) := by
  refine Met.ofW (cc := b_Site_init) (maxL := 1) (ret := none) (by decide) rfl ?_
  intro p e s m args below meth c s₁ B hml hv
  obtain ⟨rfl, hsz, hP, hD0, hK, hN, hAO⟩ := hv
  have hx := B.exec
  have hb := B.bytes
  have hr := B.returns
  have hts := atoms_spec (ws := (Cond.code y_Site_init b_Site_init 1 none :: xG)) B.pre
  have hT : ∀ w ∈ xG, w.before ([Value.ref h0] : List Value).toArray s = true := fun w h => hts w (List.mem_cons_of_mem _ h)
  have hown : s.vm.findClass "EventGraphText$Site" = some m.cls := findClass_of_methodNamed B.named
  have hlocks := B.notSynchronized
  have hin : meth.name = "<init>" := (name_of_methodNamed B.named B.method).1
  subst hsz
  have hD := hD0.self (sz := s.heap.size)
  generalize hAe : va_A [(h0, .inr (6, [.null, .null, .long 0]))] s.heap.size = A at hD ⊢
  have hA : ∀ q : Nat, s.heap.size ≤ q → A q := fun q h => by rw [← hAe]; exact Or.inr h
  have hS : va_S A s.heap s.heap [] := va_S.rf
  have hP : va_P (dC, dI) xCl [(h0, .inr (6, [.null, .null, .long 0]))] s.heap := hP
  have hl := lv_entry ([.ref h0]) (n := 1) (Nat.le_of_ble_eq_true rfl)
  rw [lg_entry_eq]
  generalize (lg_sl ([.ref h0]) ++ List.replicate (1 - (lg_sl ([.ref h0])).length) Slot.unset).toArray = ls at hl ⊢
  have hl : lv_has ls 1 [(0, .ref h0)] := hl
  refine lv_aload_n hx hb d_Site_init_0 rfl (lv_at hl 0 rfl) ?_
  refine W.objInit hx hb hown (hT _ wd_106) (hT _ wd_17) (hT _ wd_18) rfl (by rw [hml]; exact hl.1) rfl d_Site_init_1 (Nat.le_of_ble_eq_true rfl) (Nat.le_of_ble_eq_true rfl) ?_
  refine W.eq (g2 := F0 m 4 ls []) rfl ?_
  refine lv_aload_n hx hb d_Site_init_4 rfl (lv_at hl 0 rfl) ?_
  refine lv_iconst (v := (3 : Int32)) hx hb d_Site_init_5 (by decide) ?_
  refine xna (ty := .long) (atype := .long) hx hb (hT _ wd_54) rfl hK 1 rfl (fun _ h => h) hP hD hS hA (a0 := (3, .inr (.inl (fun _ => 0)))) (N' := 3) (fun _ => rfl) (by decide) (by decide) (by decide) (Nat.le_of_ble_eq_true rfl) (Nat.le_of_ble_eq_true rfl) d_Site_init_6 (fun q1 H hP hD hS => ?_)
  have hP : va_P (dC, dI) xCl [(h0, .inr (6, [.null, .null, .long 0])), (q1, .inl (dT 1, 3, .inr (.inl (fun _ => 0))))] H := hP
  have hD : va_D A [(h0, .inr (6, [.null, .null, .long 0])), (q1, .inl (dT 1, 3, .inr (.inl (fun _ => 0))))] := hD
  refine W.widen (k := 1) (n := 3) (Nat.le_of_ble_eq_true rfl) (Nat.le_of_ble_eq_true rfl) ?_
  refine va_putF (D := (dC, dI)) (ci := 6) (v := .ref q1) (ty := (.array .long)) (C := "EventGraphText$Site") (T := T_Site) (N := 3) hx hb hT hin_Site ty_Site tyok_Site nm_Site hown hK hP hD hS 0 rfl rfl 0 (by decide) (hT _ wd_130) (fun _ h9 => h9) rfl hin rfl (by decide +kernel) rfl rfl (Nat.le_of_ble_eq_true rfl) d_Site_init_8 (fun H locs hP hD hS => ?_)
  have hP : va_P (dC, dI) xCl [(h0, .inr (6, [.ref q1, .null, .long 0])), (q1, .inl (dT 1, 3, .inr (.inl (fun _ => 0))))] H := hP
  have hD : va_D A [(h0, .inr (6, [.ref q1, .null, .long 0])), (q1, .inl (dT 1, 3, .inr (.inl (fun _ => 0))))] := hD
  refine lv_aload_n hx hb d_Site_init_11 rfl (lv_at hl 0 rfl) ?_
  refine va_new (ci := 3) (fs := [.null, .int 0, .int 0, .int 0]) (C := "EventGraphText$Merge") (T := T_Merge) (N := 4) hx hb hT hin_Merge ty_Merge tyok_Merge hown (hT _ wd_107) (hT _ wd_108) (hT _ wd_6) hK hP hD hS hA rfl xfs_Merge (Nat.le_of_ble_eq_true rfl) (Nat.le_of_ble_eq_true rfl) d_Site_init_12 (fun q2 H hP hD hS => ?_)
  have hP : va_P (dC, dI) xCl [(h0, .inr (6, [.ref q1, .null, .long 0])), (q1, .inl (dT 1, 3, .inr (.inl (fun _ => 0)))), (q2, .inr (3, [.null, .int 0, .int 0, .int 0]))] H := hP
  have hD : va_D A [(h0, .inr (6, [.ref q1, .null, .long 0])), (q1, .inl (dT 1, 3, .inr (.inl (fun _ => 0)))), (q2, .inr (3, [.null, .int 0, .int 0, .int 0]))] := hD
  refine W.widen (k := 2) (n := 7) (Nat.le_of_ble_eq_true rfl) (Nat.le_of_ble_eq_true rfl) ?_
  refine lv_dup hx hb d_Site_init_15 rfl ?_
  have hPc := hP.sub (ws' := [(q2, .inr (3, [.null, .int 0, .int 0, .int 0]))]) [2] rfl
  have hDc := hD.sub (ws' := [(q2, .inr (3, [.null, .int 0, .int 0, .int 0]))]) [2] (by decide) rfl
  have hFc := va_free (wc := [(q2, .inr (3, [.null, .int 0, .int 0, .int 0]))]) hD hS hA [2] rfl
  refine va_callv (va_runIN (As := []) (rest := [.ref q2, .ref h0]) ⟨hx, hb, hml, hown, hts⟩ (c_Merge_init l dC dI dT q2 H.size) ⟨va_cnB 0 hts (xg0 wd_111) rfl rfl rfl (nmm_4 hN) (hT _ wd_6) pd_Merge_init.2 ⟨Nat.le_of_ble_eq_true rfl, Nat.le_of_ble_eq_true rfl⟩, rfl, hT _ wd_110⟩ (xpreI hPc hDc hK hN hAO) rfl rfl hl.1 rfl (lv_room (Nat.le_of_ble_eq_true rfl)) d_Site_init_16 ⟨Nat.le_of_ble_eq_true rfl, Nat.le_of_ble_eq_true rfl⟩) hS (fun q _ h => hFc q h) hFc (fun u3 t H1 locs ht hvm h5 hB hz1 hk1 hS => ?_)
  obtain ⟨hP1, hD1⟩ := hB
  rw [ht] at hP1
  obtain ⟨hP, hD⟩ := va_join (wr := [(h0, .inr (6, [.ref q1, .null, .long 0])), (q1, .inl (dT 1, 3, .inr (.inl (fun _ => 0))))]) (w1 := [(q2, .inr (3, [.ref (u3 0), .int 0, .int 0, .int 0])), ((u3 0), .inl (dT 0, 40, .inl (fun _ => 0)))]) hP hD [2] [0, 1] rfl rfl (by decide) (by decide) hk1 hFc hP1 hD1
  generalize H1 = H at hP hS ⊢
  have hP : va_P (dC, dI) xCl [(h0, .inr (6, [.ref q1, .null, .long 0])), (q1, .inl (dT 1, 3, .inr (.inl (fun _ => 0)))), (q2, .inr (3, [.ref (u3 0), .int 0, .int 0, .int 0])), ((u3 0), .inl (dT 0, 40, .inl (fun _ => 0)))] H := hP
  have hD : va_D A [(h0, .inr (6, [.ref q1, .null, .long 0])), (q1, .inl (dT 1, 3, .inr (.inl (fun _ => 0)))), (q2, .inr (3, [.ref (u3 0), .int 0, .int 0, .int 0])), ((u3 0), .inl (dT 0, 40, .inl (fun _ => 0)))] := hD
  refine W.widen (k := 3) (n := 47) (Nat.le_of_ble_eq_true rfl) (Nat.le_of_ble_eq_true rfl) ?_
  refine va_putF (D := (dC, dI)) (ci := 6) (v := .ref q2) (ty := (.object "EventGraphText$Merge")) (C := "EventGraphText$Site") (T := T_Site) (N := 3) hx hb hT hin_Site ty_Site tyok_Site nm_Site hown hK hP hD hS 0 rfl rfl 1 (by decide) (hT _ wd_132) (fun _ h9 => h9) rfl hin rfl (by decide +kernel) rfl rfl (Nat.le_of_ble_eq_true rfl) d_Site_init_19 (fun H locs hP hD hS => ?_)
  have hP : va_P (dC, dI) xCl [(h0, .inr (6, [.ref q1, .ref q2, .long 0])), (q1, .inl (dT 1, 3, .inr (.inl (fun _ => 0)))), (q2, .inr (3, [.ref (u3 0), .int 0, .int 0, .int 0])), ((u3 0), .inl (dT 0, 40, .inl (fun _ => 0)))] H := hP
  have hD : va_D A [(h0, .inr (6, [.ref q1, .ref q2, .long 0])), (q1, .inl (dT 1, 3, .inr (.inl (fun _ => 0)))), (q2, .inr (3, [.ref (u3 0), .int 0, .int 0, .int 0])), ((u3 0), .inl (dT 0, 40, .inl (fun _ => 0)))] := hD
  refine lv_aload_n hx hb d_Site_init_22 rfl (lv_at hl 0 rfl) ?_
  refine lv_lconst (v := (0 : Int64)) hx hb d_Site_init_23 (by decide) ?_
  refine va_put (D := (dC, dI)) (ci := 6) (v := .long (0 : Int64)) (ty := .long) (C := "EventGraphText$Site") (T := T_Site) (N := 3) hx hb hT hin_Site ty_Site tyok_Site nm_Site hown hK hP hD hS 0 rfl rfl 2 (by decide) (hT _ wd_134) (fun _ h9 => h9) rfl (by decide +kernel) rfl rfl (Nat.le_of_ble_eq_true rfl) d_Site_init_24 (fun H locs hP hD hS => ?_)
  have hP : va_P (dC, dI) xCl [(h0, .inr (6, [.ref q1, .ref q2, .long 0])), (q1, .inl (dT 1, 3, .inr (.inl (fun _ => 0)))), (q2, .inr (3, [.ref (u3 0), .int 0, .int 0, .int 0])), ((u3 0), .inl (dT 0, 40, .inl (fun _ => 0)))] H := hP
  have hD : va_D A [(h0, .inr (6, [.ref q1, .ref q2, .long 0])), (q1, .inl (dT 1, 3, .inr (.inl (fun _ => 0)))), (q2, .inr (3, [.ref (u3 0), .int 0, .int 0, .int 0])), ((u3 0), .inl (dT 0, 40, .inl (fun _ => 0)))] := hD
  exact W.vret hx hb hr (fun t ht hW => ⟨⟨(fun k => match k with | 0 => q1 | 1 => q2 | 2 => (u3 0) | _ => 0), rfl, trivial, xp_heap ht hP, hD⟩, hS.F ht⟩) hS.2.2 d_Site_init_27 hlocks
set_option maxHeartbeats 4000000 in
set_option maxRecDepth 100000 in
theorem c_OctetRow_init (l : Launch) (dC : Nat → ClassId) (dI : Nat → Nat → Nat) (dT : Nat → ClassId) (h0 sz : Nat) : Met l y_OctetRow_init (Cond.code y_OctetRow_init b_OctetRow_init 1 none :: xG) ({ frames := 1, cells := 1, slots := 442, locals := 12 }) (va_Pc [.ref h0] (xI (dC, dI) xCl (xT dT) [(h0, .inr (5, [.null, .int 0]))] sz)) (va_Qv (fun (_ : Nat → Nat) => True) (fun u t => va_P (dC, dI) xCl [(h0, .inr (5, [.ref (u 0), .int 0])), ((u 0), .inl (dT 0, 442, .inl (fun _ => 0)))] t.heap ∧ va_D (va_A [(h0, .inr (5, [.null, .int 0]))] sz) [(h0, .inr (5, [.ref (u 0), .int 0])), ((u 0), .inl (dT 0, 442, .inl (fun _ => 0)))]) (va_A [(h0, .inr (5, [.null, .int 0]))] sz)) 1 442 (va_A [(h0, .inr (5, [.null, .int 0]))] sz) := by
  refine Met.ofW (cc := b_OctetRow_init) (maxL := 1) (ret := none) (by decide) rfl ?_
  intro p e s m args below meth c s₁ B hml hv
  obtain ⟨rfl, hsz, hP, hD0, hK, hN, hAO⟩ := hv
  have hx := B.exec
  have hb := B.bytes
  have hr := B.returns
  have hts := atoms_spec (ws := (Cond.code y_OctetRow_init b_OctetRow_init 1 none :: xG)) B.pre
  have hT : ∀ w ∈ xG, w.before ([Value.ref h0] : List Value).toArray s = true := fun w h => hts w (List.mem_cons_of_mem _ h)
  have hown : s.vm.findClass "EventGraphText$OctetRow" = some m.cls := findClass_of_methodNamed B.named
  have hlocks := B.notSynchronized
  have hin : meth.name = "<init>" := (name_of_methodNamed B.named B.method).1
  subst hsz
  have hD := hD0.self (sz := s.heap.size)
  generalize hAe : va_A [(h0, .inr (5, [.null, .int 0]))] s.heap.size = A at hD ⊢
  have hA : ∀ q : Nat, s.heap.size ≤ q → A q := fun q h => by rw [← hAe]; exact Or.inr h
  have hS : va_S A s.heap s.heap [] := va_S.rf
  have hP : va_P (dC, dI) xCl [(h0, .inr (5, [.null, .int 0]))] s.heap := hP
  have hl := lv_entry ([.ref h0]) (n := 1) (Nat.le_of_ble_eq_true rfl)
  rw [lg_entry_eq]
  generalize (lg_sl ([.ref h0]) ++ List.replicate (1 - (lg_sl ([.ref h0])).length) Slot.unset).toArray = ls at hl ⊢
  have hl : lv_has ls 1 [(0, .ref h0)] := hl
  refine lv_aload_n hx hb d_OctetRow_init_0 rfl (lv_at hl 0 rfl) ?_
  refine W.objInit hx hb hown (hT _ wd_155) (hT _ wd_17) (hT _ wd_18) rfl (by rw [hml]; exact hl.1) rfl d_OctetRow_init_1 (Nat.le_of_ble_eq_true rfl) (Nat.le_of_ble_eq_true rfl) ?_
  refine W.eq (g2 := F0 m 4 ls []) rfl ?_
  refine lv_aload_n hx hb d_OctetRow_init_4 rfl (lv_at hl 0 rfl) ?_
  refine lv_sipush (v := (442 : Int32)) hx hb d_OctetRow_init_5 (by decide) ?_
  refine xna (ty := .int) (atype := .int) hx hb (hT _ wd_53) rfl hK 0 rfl (fun _ h => h) hP hD hS hA (a0 := (442, .inl (fun _ => 0))) (N' := 442) (fun _ => rfl) (by decide) (by decide) (by decide) (Nat.le_of_ble_eq_true rfl) (Nat.le_of_ble_eq_true rfl) d_OctetRow_init_8 (fun q1 H hP hD hS => ?_)
  have hP : va_P (dC, dI) xCl [(h0, .inr (5, [.null, .int 0])), (q1, .inl (dT 0, 442, .inl (fun _ => 0)))] H := hP
  have hD : va_D A [(h0, .inr (5, [.null, .int 0])), (q1, .inl (dT 0, 442, .inl (fun _ => 0)))] := hD
  refine W.widen (k := 1) (n := 442) (Nat.le_of_ble_eq_true rfl) (Nat.le_of_ble_eq_true rfl) ?_
  refine va_putF (D := (dC, dI)) (ci := 5) (v := .ref q1) (ty := (.array .int)) (C := "EventGraphText$OctetRow") (T := T_OctetRow) (N := 2) hx hb hT hin_OctetRow ty_OctetRow tyok_OctetRow nm_OctetRow hown hK hP hD hS 0 rfl rfl 0 (by decide) (hT _ wd_156) (fun _ h9 => h9) rfl hin rfl (by decide +kernel) rfl rfl (Nat.le_of_ble_eq_true rfl) d_OctetRow_init_10 (fun H locs hP hD hS => ?_)
  have hP : va_P (dC, dI) xCl [(h0, .inr (5, [.ref q1, .int 0])), (q1, .inl (dT 0, 442, .inl (fun _ => 0)))] H := hP
  have hD : va_D A [(h0, .inr (5, [.ref q1, .int 0])), (q1, .inl (dT 0, 442, .inl (fun _ => 0)))] := hD
  refine lv_aload_n hx hb d_OctetRow_init_13 rfl (lv_at hl 0 rfl) ?_
  refine lv_iconst (v := (0 : Int32)) hx hb d_OctetRow_init_14 (by decide) ?_
  refine va_put (D := (dC, dI)) (ci := 5) (v := .int (0 : Int32)) (ty := .int) (C := "EventGraphText$OctetRow") (T := T_OctetRow) (N := 2) hx hb hT hin_OctetRow ty_OctetRow tyok_OctetRow nm_OctetRow hown hK hP hD hS 0 rfl rfl 1 (by decide) (hT _ wd_157) (fun _ h9 => h9) rfl (by decide +kernel) rfl rfl (Nat.le_of_ble_eq_true rfl) d_OctetRow_init_15 (fun H locs hP hD hS => ?_)
  have hP : va_P (dC, dI) xCl [(h0, .inr (5, [.ref q1, .int 0])), (q1, .inl (dT 0, 442, .inl (fun _ => 0)))] H := hP
  have hD : va_D A [(h0, .inr (5, [.ref q1, .int 0])), (q1, .inl (dT 0, 442, .inl (fun _ => 0)))] := hD
  exact W.vret hx hb hr (fun t ht hW => ⟨⟨(fun k => match k with | 0 => q1 | _ => 0), rfl, trivial, xp_heap ht hP, hD⟩, hS.F ht⟩) hS.2.2 d_OctetRow_init_18 hlocks
set_option maxHeartbeats 4000000 in
set_option maxRecDepth 100000 in
theorem c_Message_init (l : Launch) (dC : Nat → ClassId) (dI : Nat → Nat → Nat) (dT : Nat → ClassId) (h0 sz : Nat) : Met l y_Message_init (Cond.code y_Message_init b_Message_init 1 none :: xG) ({ frames := 2, cells := 2, slots := 444, locals := 32 }) (va_Pc [.ref h0] (xI (dC, dI) xCl (xT dT) [(h0, .inr (4, [.null, .int 0, .int 0, .int 0, .long 0]))] sz)) (va_Qv (fun (_ : Nat → Nat) => True) (fun u t => va_P (dC, dI) xCl [(h0, .inr (4, [.ref (u 0), .int 0, .int 0, .int 0, .long 0])), ((u 0), .inr (5, [.ref (u 1), .int 0])), ((u 1), .inl (dT 0, 442, .inl (fun _ => 0)))] t.heap ∧ va_D (va_A [(h0, .inr (4, [.null, .int 0, .int 0, .int 0, .long 0]))] sz) [(h0, .inr (4, [.ref (u 0), .int 0, .int 0, .int 0, .long 0])), ((u 0), .inr (5, [.ref (u 1), .int 0])), ((u 1), .inl (dT 0, 442, .inl (fun _ => 0)))]) (va_A [(h0, .inr (4, [.null, .int 0, .int 0, .int 0, .long 0]))] sz)) 2 444 (va_A [(h0, .inr (4, [.null, .int 0, .int 0, .int 0, .long 0]))] sz) := by
  refine Met.ofW (cc := b_Message_init) (maxL := 1) (ret := none) (by decide) rfl ?_
  intro p e s m args below meth c s₁ B hml hv
  obtain ⟨rfl, hsz, hP, hD0, hK, hN, hAO⟩ := hv
  have hx := B.exec
  have hb := B.bytes
  have hr := B.returns
  have hts := atoms_spec (ws := (Cond.code y_Message_init b_Message_init 1 none :: xG)) B.pre
  have hT : ∀ w ∈ xG, w.before ([Value.ref h0] : List Value).toArray s = true := fun w h => hts w (List.mem_cons_of_mem _ h)
  have hown : s.vm.findClass "EventGraphText$Message" = some m.cls := findClass_of_methodNamed B.named
  have hlocks := B.notSynchronized
  have hin : meth.name = "<init>" := (name_of_methodNamed B.named B.method).1
  subst hsz
  have hD := hD0.self (sz := s.heap.size)
  generalize hAe : va_A [(h0, .inr (4, [.null, .int 0, .int 0, .int 0, .long 0]))] s.heap.size = A at hD ⊢
  have hA : ∀ q : Nat, s.heap.size ≤ q → A q := fun q h => by rw [← hAe]; exact Or.inr h
  have hS : va_S A s.heap s.heap [] := va_S.rf
  have hP : va_P (dC, dI) xCl [(h0, .inr (4, [.null, .int 0, .int 0, .int 0, .long 0]))] s.heap := hP
  have hl := lv_entry ([.ref h0]) (n := 1) (Nat.le_of_ble_eq_true rfl)
  rw [lg_entry_eq]
  generalize (lg_sl ([.ref h0]) ++ List.replicate (1 - (lg_sl ([.ref h0])).length) Slot.unset).toArray = ls at hl ⊢
  have hl : lv_has ls 1 [(0, .ref h0)] := hl
  refine lv_aload_n hx hb d_Message_init_0 rfl (lv_at hl 0 rfl) ?_
  refine W.objInit hx hb hown (hT _ wd_149) (hT _ wd_17) (hT _ wd_18) rfl (by rw [hml]; exact hl.1) rfl d_Message_init_1 (Nat.le_of_ble_eq_true rfl) (Nat.le_of_ble_eq_true rfl) ?_
  refine W.eq (g2 := F0 m 4 ls []) rfl ?_
  refine lv_aload_n hx hb d_Message_init_4 rfl (lv_at hl 0 rfl) ?_
  refine va_new (ci := 5) (fs := [.null, .int 0]) (C := "EventGraphText$OctetRow") (T := T_OctetRow) (N := 2) hx hb hT hin_OctetRow ty_OctetRow tyok_OctetRow hown (hT _ wd_150) (hT _ wd_151) (hT _ wd_8) hK hP hD hS hA rfl xfs_OctetRow (Nat.le_of_ble_eq_true rfl) (Nat.le_of_ble_eq_true rfl) d_Message_init_5 (fun q1 H hP hD hS => ?_)
  have hP : va_P (dC, dI) xCl [(h0, .inr (4, [.null, .int 0, .int 0, .int 0, .long 0])), (q1, .inr (5, [.null, .int 0]))] H := hP
  have hD : va_D A [(h0, .inr (4, [.null, .int 0, .int 0, .int 0, .long 0])), (q1, .inr (5, [.null, .int 0]))] := hD
  refine W.widen (k := 1) (n := 2) (Nat.le_of_ble_eq_true rfl) (Nat.le_of_ble_eq_true rfl) ?_
  refine lv_dup hx hb d_Message_init_8 rfl ?_
  have hPc := hP.sub (ws' := [(q1, .inr (5, [.null, .int 0]))]) [1] rfl
  have hDc := hD.sub (ws' := [(q1, .inr (5, [.null, .int 0]))]) [1] (by decide) rfl
  have hFc := va_free (wc := [(q1, .inr (5, [.null, .int 0]))]) hD hS hA [1] rfl
  refine va_callv (va_runIN (As := []) (rest := [.ref q1, .ref h0]) ⟨hx, hb, hml, hown, hts⟩ (c_OctetRow_init l dC dI dT q1 H.size) ⟨va_cnB 0 hts (xg0 wd_154) rfl rfl rfl (nmm_6 hN) (hT _ wd_8) pd_OctetRow_init.2 ⟨Nat.le_of_ble_eq_true rfl, Nat.le_of_ble_eq_true rfl⟩, rfl, hT _ wd_153⟩ (xpreI hPc hDc hK hN hAO) rfl rfl hl.1 rfl (lv_room (Nat.le_of_ble_eq_true rfl)) d_Message_init_9 ⟨Nat.le_of_ble_eq_true rfl, Nat.le_of_ble_eq_true rfl⟩) hS (fun q _ h => hFc q h) hFc (fun u2 t H1 locs ht hvm h5 hB hz1 hk1 hS => ?_)
  obtain ⟨hP1, hD1⟩ := hB
  rw [ht] at hP1
  obtain ⟨hP, hD⟩ := va_join (wr := [(h0, .inr (4, [.null, .int 0, .int 0, .int 0, .long 0]))]) (w1 := [(q1, .inr (5, [.ref (u2 0), .int 0])), ((u2 0), .inl (dT 0, 442, .inl (fun _ => 0)))]) hP hD [1] [0] rfl rfl (by decide) (by decide) hk1 hFc hP1 hD1
  generalize H1 = H at hP hS ⊢
  have hP : va_P (dC, dI) xCl [(h0, .inr (4, [.null, .int 0, .int 0, .int 0, .long 0])), (q1, .inr (5, [.ref (u2 0), .int 0])), ((u2 0), .inl (dT 0, 442, .inl (fun _ => 0)))] H := hP
  have hD : va_D A [(h0, .inr (4, [.null, .int 0, .int 0, .int 0, .long 0])), (q1, .inr (5, [.ref (u2 0), .int 0])), ((u2 0), .inl (dT 0, 442, .inl (fun _ => 0)))] := hD
  refine W.widen (k := 2) (n := 444) (Nat.le_of_ble_eq_true rfl) (Nat.le_of_ble_eq_true rfl) ?_
  refine va_putF (D := (dC, dI)) (ci := 4) (v := .ref q1) (ty := (.object "EventGraphText$OctetRow")) (C := "EventGraphText$Message") (T := T_Message) (N := 5) hx hb hT hin_Message ty_Message tyok_Message nm_Message hown hK hP hD hS 0 rfl rfl 0 (by decide) (hT _ wd_163) (fun _ h9 => h9) rfl hin rfl (by decide +kernel) rfl rfl (Nat.le_of_ble_eq_true rfl) d_Message_init_12 (fun H locs hP hD hS => ?_)
  have hP : va_P (dC, dI) xCl [(h0, .inr (4, [.ref q1, .int 0, .int 0, .int 0, .long 0])), (q1, .inr (5, [.ref (u2 0), .int 0])), ((u2 0), .inl (dT 0, 442, .inl (fun _ => 0)))] H := hP
  have hD : va_D A [(h0, .inr (4, [.ref q1, .int 0, .int 0, .int 0, .long 0])), (q1, .inr (5, [.ref (u2 0), .int 0])), ((u2 0), .inl (dT 0, 442, .inl (fun _ => 0)))] := hD
  refine lv_aload_n hx hb d_Message_init_15 rfl (lv_at hl 0 rfl) ?_
  refine lv_iconst (v := (0 : Int32)) hx hb d_Message_init_16 (by decide) ?_
  refine va_put (D := (dC, dI)) (ci := 4) (v := .int (0 : Int32)) (ty := .boolean) (C := "EventGraphText$Message") (T := T_Message) (N := 5) hx hb hT hin_Message ty_Message tyok_Message nm_Message hown hK hP hD hS 0 rfl rfl 1 (by decide) (hT _ wd_165) (fun _ h9 => h9) rfl (by decide +kernel) rfl rfl (Nat.le_of_ble_eq_true rfl) d_Message_init_17 (fun H locs hP hD hS => ?_)
  have hP : va_P (dC, dI) xCl [(h0, .inr (4, [.ref q1, .int 0, .int 0, .int 0, .long 0])), (q1, .inr (5, [.ref (u2 0), .int 0])), ((u2 0), .inl (dT 0, 442, .inl (fun _ => 0)))] H := hP
  have hD : va_D A [(h0, .inr (4, [.ref q1, .int 0, .int 0, .int 0, .long 0])), (q1, .inr (5, [.ref (u2 0), .int 0])), ((u2 0), .inl (dT 0, 442, .inl (fun _ => 0)))] := hD
  refine lv_aload_n hx hb d_Message_init_20 rfl (lv_at hl 0 rfl) ?_
  refine lv_iconst (v := (0 : Int32)) hx hb d_Message_init_21 (by decide) ?_
  refine va_put (D := (dC, dI)) (ci := 4) (v := .int (0 : Int32)) (ty := .int) (C := "EventGraphText$Message") (T := T_Message) (N := 5) hx hb hT hin_Message ty_Message tyok_Message nm_Message hown hK hP hD hS 0 rfl rfl 2 (by decide) (hT _ wd_167) (fun _ h9 => h9) rfl (by decide +kernel) rfl rfl (Nat.le_of_ble_eq_true rfl) d_Message_init_22 (fun H locs hP hD hS => ?_)
  have hP : va_P (dC, dI) xCl [(h0, .inr (4, [.ref q1, .int 0, .int 0, .int 0, .long 0])), (q1, .inr (5, [.ref (u2 0), .int 0])), ((u2 0), .inl (dT 0, 442, .inl (fun _ => 0)))] H := hP
  have hD : va_D A [(h0, .inr (4, [.ref q1, .int 0, .int 0, .int 0, .long 0])), (q1, .inr (5, [.ref (u2 0), .int 0])), ((u2 0), .inl (dT 0, 442, .inl (fun _ => 0)))] := hD
  refine lv_aload_n hx hb d_Message_init_25 rfl (lv_at hl 0 rfl) ?_
  refine lv_iconst (v := (0 : Int32)) hx hb d_Message_init_26 (by decide) ?_
  refine va_put (D := (dC, dI)) (ci := 4) (v := .int (0 : Int32)) (ty := .int) (C := "EventGraphText$Message") (T := T_Message) (N := 5) hx hb hT hin_Message ty_Message tyok_Message nm_Message hown hK hP hD hS 0 rfl rfl 3 (by decide) (hT _ wd_169) (fun _ h9 => h9) rfl (by decide +kernel) rfl rfl (Nat.le_of_ble_eq_true rfl) d_Message_init_27 (fun H locs hP hD hS => ?_)
  have hP : va_P (dC, dI) xCl [(h0, .inr (4, [.ref q1, .int 0, .int 0, .int 0, .long 0])), (q1, .inr (5, [.ref (u2 0), .int 0])), ((u2 0), .inl (dT 0, 442, .inl (fun _ => 0)))] H := hP
  have hD : va_D A [(h0, .inr (4, [.ref q1, .int 0, .int 0, .int 0, .long 0])), (q1, .inr (5, [.ref (u2 0), .int 0])), ((u2 0), .inl (dT 0, 442, .inl (fun _ => 0)))] := hD
  refine lv_aload_n hx hb d_Message_init_30 rfl (lv_at hl 0 rfl) ?_
  refine lv_lconst (v := (0 : Int64)) hx hb d_Message_init_31 (by decide) ?_
  refine va_put (D := (dC, dI)) (ci := 4) (v := .long (0 : Int64)) (ty := .long) (C := "EventGraphText$Message") (T := T_Message) (N := 5) hx hb hT hin_Message ty_Message tyok_Message nm_Message hown hK hP hD hS 0 rfl rfl 4 (by decide) (hT _ wd_171) (fun _ h9 => h9) rfl (by decide +kernel) rfl rfl (Nat.le_of_ble_eq_true rfl) d_Message_init_32 (fun H locs hP hD hS => ?_)
  have hP : va_P (dC, dI) xCl [(h0, .inr (4, [.ref q1, .int 0, .int 0, .int 0, .long 0])), (q1, .inr (5, [.ref (u2 0), .int 0])), ((u2 0), .inl (dT 0, 442, .inl (fun _ => 0)))] H := hP
  have hD : va_D A [(h0, .inr (4, [.ref q1, .int 0, .int 0, .int 0, .long 0])), (q1, .inr (5, [.ref (u2 0), .int 0])), ((u2 0), .inl (dT 0, 442, .inl (fun _ => 0)))] := hD
  exact W.vret hx hb hr (fun t ht hW => ⟨⟨(fun k => match k with | 0 => q1 | 1 => (u2 0) | _ => 0), rfl, trivial, xp_heap ht hP, hD⟩, hS.F ht⟩) hS.2.2 d_Message_init_35 hlocks
