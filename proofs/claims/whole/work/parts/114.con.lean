set_option maxHeartbeats 4000000 in
set_option maxRecDepth 100000 in
theorem c_Model_replayed (l : Launch) (dC : Nat → ClassId) (dI : Nat → Nat → Nat) (dT : Nat → ClassId) (ad : Nat → Nat) (a1 : Int32) (u : xS) (out : Int32) (hm : m_Model_replayed a1 u = some out) : Met l y_Model_replayed (Cond.code y_Model_replayed b_Model_replayed 2 (some .int) :: xG) (xrm 1 20) (va_Pc [.ref (ad 0), .int a1] (xR (dC, dI) xCl (xT dT) (mW dT ad u))) (va_Qi (fun r9 (_ : Unit) => r9 = out) (fun _ _ => True) xN) 0 0 xN := by
  refine xm_roi (cc := b_Model_replayed) (maxL := 2) (by decide) rfl (Nat.le_of_ble_eq_true rfl) ?_
  intro p e s m args below meth c Q ls hx hb hml hts hown hK hN hP hl hret
  have hT : ∀ w ∈ xG, w.before args s = true := fun w h => hts w (List.mem_cons_of_mem _ h)
  have hown : s.vm.findClass "EventGraphTextModel" = some m.cls := hown
  have hl : lv_has ls 2 [(0, .ref (ad 0)), (1, .int a1)] := hl
  have hS : va_S xN s.heap s.heap [] := va_S.rf
  unfold m_Model_replayed at hm
  refine lv_iload_n hx hb d_Model_replayed_0 rfl (lv_at hl 1 rfl) ?_
  obtain ⟨r1, h1, hm⟩ := xb1_some hm
  refine xc_i (va_runS (As := [.int a1]) (rest := []) ⟨hx, hb, hml, hown, hts⟩ (c_Model_wrong l a1 r1 h1) (va_cwS 1 hts (xgS wd_641 wd_642 wd_9 wd_643) rfl rfl rfl pd_Model_wrong.2 ⟨Nat.le_of_ble_eq_true rfl, Nat.le_of_ble_eq_true rfl⟩) xpreS0 rfl rfl hl.1 rfl (lv_room (Nat.le_of_ble_eq_true rfl)) d_Model_replayed_1 ⟨Nat.le_of_ble_eq_true rfl, Nat.le_of_ble_eq_true rfl⟩) hP hS (fun H locs hP hS => ?_)
  refine lv_if_eq (tgt := 13) hx hb d_Model_replayed_4 rfl (fun h => ?_) (fun h => ?_)
  · replace hm := xi_pos h hm
    refine lv_aload_n hx hb d_Model_replayed_13 rfl (lv_at hl 0 rfl) ?_
    refine va_get (D := (dC, dI)) (ci := 8) (v := .ref (ad 17)) (C := "EventGraphTextModel") (T := T_Model) (N := 26) hx hb hT hin_Model hown hK hP 0 mW_X rfl 18 (by decide) (hT _ wd_576) (fun _ h9 => h9) rfl d_Model_replayed_14 ?_
    refine lv_iload_n hx hb d_Model_replayed_17 rfl (lv_at hl 1 rfl) ?_
    obtain ⟨g1, hm⟩ := xg_some hm
    refine va_iald hx hb hK hP 17 0 mW_X_again rfl g1 d_Model_replayed_18 ?_
    exact hret hm hS d_Model_replayed_19
  · replace hm := xi_neg h hm
    refine lv_sipush (v := (-1000 : Int32)) hx hb d_Model_replayed_7 (by decide) ?_
    refine lv_goto (tgt := 19) hx hb d_Model_replayed_10 rfl ?_
    exact hret hm hS d_Model_replayed_19
set_option maxHeartbeats 4000000 in
set_option maxRecDepth 100000 in
theorem c_Model_moves (l : Launch) (dC : Nat → ClassId) (dI : Nat → Nat → Nat) (dT : Nat → ClassId) (ad : Nat → Nat) (a1 : Int32) (u : xS) (out : Int32) (hm : m_Model_moves a1 u = some out) : Met l y_Model_moves (Cond.code y_Model_moves b_Model_moves 2 (some .int) :: xG) (xrm 1 20) (va_Pc [.ref (ad 0), .int a1] (xR (dC, dI) xCl (xT dT) (mW dT ad u))) (va_Qi (fun r9 (_ : Unit) => r9 = out) (fun _ _ => True) xN) 0 0 xN := by
  refine xm_roi (cc := b_Model_moves) (maxL := 2) (by decide) rfl (Nat.le_of_ble_eq_true rfl) ?_
  intro p e s m args below meth c Q ls hx hb hml hts hown hK hN hP hl hret
  have hT : ∀ w ∈ xG, w.before args s = true := fun w h => hts w (List.mem_cons_of_mem _ h)
  have hown : s.vm.findClass "EventGraphTextModel" = some m.cls := hown
  have hl : lv_has ls 2 [(0, .ref (ad 0)), (1, .int a1)] := hl
  have hS : va_S xN s.heap s.heap [] := va_S.rf
  unfold m_Model_moves at hm
  refine lv_iload_n hx hb d_Model_moves_0 rfl (lv_at hl 1 rfl) ?_
  obtain ⟨r1, h1, hm⟩ := xb1_some hm
  refine xc_i (va_runS (As := [.int a1]) (rest := []) ⟨hx, hb, hml, hown, hts⟩ (c_Model_wrong l a1 r1 h1) (va_cwS 1 hts (xgS wd_641 wd_642 wd_9 wd_643) rfl rfl rfl pd_Model_wrong.2 ⟨Nat.le_of_ble_eq_true rfl, Nat.le_of_ble_eq_true rfl⟩) xpreS0 rfl rfl hl.1 rfl (lv_room (Nat.le_of_ble_eq_true rfl)) d_Model_moves_1 ⟨Nat.le_of_ble_eq_true rfl, Nat.le_of_ble_eq_true rfl⟩) hP hS (fun H locs hP hS => ?_)
  refine lv_if_eq (tgt := 13) hx hb d_Model_moves_4 rfl (fun h => ?_) (fun h => ?_)
  · replace hm := xi_pos h hm
    refine lv_aload_n hx hb d_Model_moves_13 rfl (lv_at hl 0 rfl) ?_
    refine va_get (D := (dC, dI)) (ci := 8) (v := .ref (ad 18)) (C := "EventGraphTextModel") (T := T_Model) (N := 26) hx hb hT hin_Model hown hK hP 0 mW_X rfl 19 (by decide) (hT _ wd_577) (fun _ h9 => h9) rfl d_Model_moves_14 ?_
    refine lv_iload_n hx hb d_Model_moves_17 rfl (lv_at hl 1 rfl) ?_
    obtain ⟨g1, hm⟩ := xg_some hm
    refine va_iald hx hb hK hP 18 0 mW_X_shifts rfl g1 d_Model_moves_18 ?_
    exact hret hm hS d_Model_moves_19
  · replace hm := xi_neg h hm
    refine lv_sipush (v := (-1000 : Int32)) hx hb d_Model_moves_7 (by decide) ?_
    refine lv_goto (tgt := 19) hx hb d_Model_moves_10 rfl ?_
    exact hret hm hS d_Model_moves_19
set_option maxHeartbeats 4000000 in
set_option maxRecDepth 100000 in
theorem c_Model_operation (l : Launch) (dC : Nat → ClassId) (dI : Nat → Nat → Nat) (dT : Nat → ClassId) (ad : Nat → Nat) (a1 : Int32) (a2 : Int32) (u : xS) (out : Int32) (hm : m_Model_operation a1 a2 u = some out) : Met l y_Model_operation (Cond.code y_Model_operation b_Model_operation 3 (some .int) :: xG) (xrm 1 20) (va_Pc [.ref (ad 0), .int a1, .int a2] (xR (dC, dI) xCl (xT dT) (mW dT ad u))) (va_Qi (fun r9 (_ : Unit) => r9 = out) (fun _ _ => True) xN) 0 0 xN := by
  refine xm_roi (cc := b_Model_operation) (maxL := 3) (by decide) rfl (Nat.le_of_ble_eq_true rfl) ?_
  intro p e s m args below meth c Q ls hx hb hml hts hown hK hN hP hl hret
  have hT : ∀ w ∈ xG, w.before args s = true := fun w h => hts w (List.mem_cons_of_mem _ h)
  have hown : s.vm.findClass "EventGraphTextModel" = some m.cls := hown
  have hl : lv_has ls 3 [(0, .ref (ad 0)), (1, .int a1), (2, .int a2)] := hl
  have hS : va_S xN s.heap s.heap [] := va_S.rf
  unfold m_Model_operation at hm
  refine lv_iload_n hx hb d_Model_operation_0 rfl (lv_at hl 1 rfl) ?_
  obtain ⟨r1, h1, hm⟩ := xb1_some hm
  refine xc_i (va_runS (As := [.int a1]) (rest := []) ⟨hx, hb, hml, hown, hts⟩ (c_Model_wrong l a1 r1 h1) (va_cwS 1 hts (xgS wd_641 wd_642 wd_9 wd_643) rfl rfl rfl pd_Model_wrong.2 ⟨Nat.le_of_ble_eq_true rfl, Nat.le_of_ble_eq_true rfl⟩) xpreS0 rfl rfl hl.1 rfl (lv_room (Nat.le_of_ble_eq_true rfl)) d_Model_operation_1 ⟨Nat.le_of_ble_eq_true rfl, Nat.le_of_ble_eq_true rfl⟩) hP hS (fun H locs hP hS => ?_)
  refine lv_if_ne (tgt := 21) hx hb d_Model_operation_4 rfl (fun h => ?_) (fun h => ?_)
  · replace hm := xi_neg h hm
    refine lv_sipush (v := (-1000 : Int32)) hx hb d_Model_operation_21 (by decide) ?_
    refine lv_goto (tgt := 38) hx hb d_Model_operation_24 rfl ?_
    exact hret hm hS d_Model_operation_38
  · replace hm := xi_pos h hm
    refine lv_iload_n hx hb d_Model_operation_7 rfl (lv_at hl 2 rfl) ?_
    refine lv_if_lt (tgt := 21) hx hb d_Model_operation_8 rfl (fun h => ?_) (fun h => ?_)
    · replace hm := xi_pos h hm
      refine lv_sipush (v := (-1000 : Int32)) hx hb d_Model_operation_21 (by decide) ?_
      refine lv_goto (tgt := 38) hx hb d_Model_operation_24 rfl ?_
      exact hret hm hS d_Model_operation_38
    · replace hm := xi_neg h hm
      refine lv_iload_n hx hb d_Model_operation_11 rfl (lv_at hl 2 rfl) ?_
      refine lv_aload_n hx hb d_Model_operation_12 rfl (lv_at hl 0 rfl) ?_
      refine va_get (D := (dC, dI)) (ci := 8) (v := .ref (ad 19)) (C := "EventGraphTextModel") (T := T_Model) (N := 26) hx hb hT hin_Model hown hK hP 0 mW_X rfl 20 (by decide) (hT _ wd_578) (fun _ h9 => h9) rfl d_Model_operation_13 ?_
      refine lv_iload_n hx hb d_Model_operation_16 rfl (lv_at hl 1 rfl) ?_
      obtain ⟨g1, hm⟩ := xg_some hm
      refine va_iald hx hb hK hP 19 0 mW_X_dones rfl g1 d_Model_operation_17 ?_
      refine lv_icmp_lt (tgt := 27) hx hb d_Model_operation_18 rfl (fun h => ?_) (fun h => ?_)
      · replace hm := xi_pos h hm
        refine lv_aload_n hx hb d_Model_operation_27 rfl (lv_at hl 0 rfl) ?_
        refine va_get (D := (dC, dI)) (ci := 8) (v := .ref (ad 20)) (C := "EventGraphTextModel") (T := T_Model) (N := 26) hx hb hT hin_Model hown hK hP 0 mW_X rfl 21 (by decide) (hT _ wd_579) (fun _ h9 => h9) rfl d_Model_operation_28 ?_
        refine lv_bipush (v := (40 : Int32)) hx hb d_Model_operation_31 (by decide) ?_
        refine lv_iload_n hx hb d_Model_operation_33 rfl (lv_at hl 1 rfl) ?_
        refine lv_imul hx hb d_Model_operation_34 ?_
        refine lv_iload_n hx hb d_Model_operation_35 rfl (lv_at hl 2 rfl) ?_
        refine lv_iadd hx hb d_Model_operation_36 ?_
        obtain ⟨g2, hm⟩ := xg_some hm
        refine va_iald hx hb hK hP 20 0 mW_X_did rfl g2 d_Model_operation_37 ?_
        exact hret hm hS d_Model_operation_38
      · replace hm := xi_neg h hm
        refine lv_sipush (v := (-1000 : Int32)) hx hb d_Model_operation_21 (by decide) ?_
        refine lv_goto (tgt := 38) hx hb d_Model_operation_24 rfl ?_
        exact hret hm hS d_Model_operation_38
