set_option maxHeartbeats 4000000 in
set_option maxRecDepth 100000 in
theorem c_Model_delete (l : Launch) (dC : Nat → ClassId) (dI : Nat → Nat → Nat) (dT : Nat → ClassId) (ad : Nat → Nat) (hD : ∀ u, va_D (xA ad 23) (mW dT ad u)) (a1 : Int32) (a2 : Int32) (u : xS) (out : Int32) (u1 : xS) (hm : m_Model_delete a1 a2 u = some (out, u1)) : Met l y_Model_delete (Cond.code y_Model_delete b_Model_delete 5 (some .int) :: xG) (xrm 4 96) (va_Pc [.ref (ad 0), .int a1, .int a2] (xR (dC, dI) xCl (xT dT) (mW dT ad u))) (va_Qi (fun r9 (u9 : xS) => r9 = out ∧ u9 = u1) (fun u9 t => va_P (dC, dI) xCl (mW dT ad u9) t.heap) (xA ad 23)) 0 0 (xA ad 23) := by
  refine xm_rwi (Wd := mW dT ad) (cc := b_Model_delete) (maxL := 5) (by decide) rfl (Nat.le_of_ble_eq_true rfl) ?_
  intro p e s m args below meth c Q ls hx hb hml hts hown hK hN hP hl hret
  have hT : ∀ w ∈ xG, w.before args s = true := fun w h => hts w (List.mem_cons_of_mem _ h)
  have hown : s.vm.findClass "EventGraphTextModel" = some m.cls := hown
  have hl : lv_has ls 5 [(0, .ref (ad 0)), (1, .int a1), (2, .int a2)] := hl
  have hS : va_S (xA ad 23) s.heap s.heap [] := va_S.rf
  unfold m_Model_delete at hm
  refine lv_iload_n hx hb d_Model_delete_0 rfl (lv_at hl 1 rfl) ?_
  obtain ⟨r1, h1, hm⟩ := xb1_some hm
  refine xc_i (va_runS (As := [.int a1]) (rest := []) ⟨hx, hb, hml, hown, hts⟩ (c_Model_wrong l a1 r1 h1) (va_cwS 1 hts (xgS wd_641 wd_642 wd_9 wd_643) rfl rfl rfl pd_Model_wrong.2 ⟨Nat.le_of_ble_eq_true rfl, Nat.le_of_ble_eq_true rfl⟩) xpreS0 rfl rfl hl.1 rfl (lv_room (Nat.le_of_ble_eq_true rfl)) d_Model_delete_1 ⟨Nat.le_of_ble_eq_true rfl, Nat.le_of_ble_eq_true rfl⟩) hP hS (fun H locs hP hS => ?_)
  refine lv_if_ne (tgt := 29) hx hb d_Model_delete_4 rfl (fun h => ?_) (fun h => ?_)
  · replace hm := xi_neg h hm
    refine lv_sipush (v := (-1000 : Int32)) hx hb d_Model_delete_29 (by decide) ?_
    exact hret hm hP hS d_Model_delete_32
  · replace hm := xi_pos h hm
    refine lv_aload_n hx hb d_Model_delete_7 rfl (lv_at hl 0 rfl) ?_
    refine va_get (D := (dC, dI)) (ci := 8) (v := .int (xs_i u 0)) (C := "EventGraphTextModel") (T := T_Model) (N := 26) hx hb hT hin_Model hown hK hP 0 mW_X rfl 0 (by decide) (hT _ wd_558) (fun _ h9 => h9) rfl d_Model_delete_8 ?_
    refine lv_bipush (v := (40 : Int32)) hx hb d_Model_delete_11 (by decide) ?_
    refine lv_icmp_ge (tgt := 29) hx hb d_Model_delete_13 rfl (fun h => ?_) (fun h => ?_)
    · replace hm := xi_pos h hm
      refine lv_sipush (v := (-1000 : Int32)) hx hb d_Model_delete_29 (by decide) ?_
      exact hret hm hP hS d_Model_delete_32
    · replace hm := xi_neg h hm
      refine lv_iload_n hx hb d_Model_delete_16 rfl (lv_at hl 2 rfl) ?_
      refine lv_if_lt (tgt := 29) hx hb d_Model_delete_17 rfl (fun h => ?_) (fun h => ?_)
      · replace hm := xi_pos h hm
        refine lv_sipush (v := (-1000 : Int32)) hx hb d_Model_delete_29 (by decide) ?_
        exact hret hm hP hS d_Model_delete_32
      · replace hm := xi_neg h hm
        refine lv_iload_n hx hb d_Model_delete_20 rfl (lv_at hl 2 rfl) ?_
        refine lv_aload_n hx hb d_Model_delete_21 rfl (lv_at hl 0 rfl) ?_
        refine lv_iload_n hx hb d_Model_delete_22 rfl (lv_at hl 1 rfl) ?_
        obtain ⟨r23, h23, hm⟩ := xb1_some hm
        refine xc_i (va_runV (C := "EventGraphTextModel") (As := [.int a1]) (rest := [.int a2]) ⟨hx, hb, hml, hown, hts⟩ (c_Model_length l dC dI dT ad a1 u r23 h23) (cwV 1 hts (xgV wd_644 wd_645 wd_646 wd_9 wd_647) rfl rfl rfl pd_Model_length ⟨Nat.le_of_ble_eq_true rfl, Nat.le_of_ble_eq_true rfl⟩) (xpreV (C := "EventGraphTextModel") (T := T_Model) (N := 26) hP hK hN rfl mW_X) rfl rfl hl.1 rfl (lv_room (Nat.le_of_ble_eq_true rfl)) d_Model_delete_23 ⟨Nat.le_of_ble_eq_true rfl, Nat.le_of_ble_eq_true rfl⟩) hP hS (fun H locs hP hS => ?_)
        refine lv_icmp_lt (tgt := 33) hx hb d_Model_delete_26 rfl (fun h => ?_) (fun h => ?_)
        · replace hm := xi_pos h hm
          refine lv_aload_n hx hb d_Model_delete_33 rfl (lv_at hl 0 rfl) ?_
          refine lv_aload_n hx hb d_Model_delete_34 rfl (lv_at hl 0 rfl) ?_
          refine va_get (D := (dC, dI)) (ci := 8) (v := .ref (ad 12)) (C := "EventGraphTextModel") (T := T_Model) (N := 26) hx hb hT hin_Model hown hK hP 0 mW_X rfl 13 (by decide) (hT _ wd_571) (fun _ h9 => h9) rfl d_Model_delete_35 ?_
          refine lv_iload_n hx hb d_Model_delete_38 rfl (lv_at hl 1 rfl) ?_
          obtain ⟨g1, hm⟩ := xg_some hm
          refine va_lald hx hb hK hP 12 1 mW_X_graph rfl g1 d_Model_delete_39 ?_
          refine lv_iload_n hx hb d_Model_delete_40 rfl (lv_at hl 2 rfl) ?_
          obtain ⟨r41, h41, hm⟩ := xb1_some hm
          refine xc_i (va_runV (C := "EventGraphTextModel") (As := [.long (xs_L u 2 a1.toNatClampNeg), .int a2]) (rest := []) ⟨hx, hb, hml, hown, hts⟩ (c_Model_shownAt l dC dI dT ad (xs_L u 2 a1.toNatClampNeg) a2 u r41 h41) (cwV 2 hts (xgV wd_662 wd_664 wds_21 wd_9 wd_665) rfl rfl rfl pd_Model_shownAt ⟨Nat.le_of_ble_eq_true rfl, Nat.le_of_ble_eq_true rfl⟩) (xpreV (C := "EventGraphTextModel") (T := T_Model) (N := 26) hP hK hN rfl mW_X) rfl rfl hl.1 rfl (lv_room (Nat.le_of_ble_eq_true rfl)) d_Model_delete_41 ⟨Nat.le_of_ble_eq_true rfl, Nat.le_of_ble_eq_true rfl⟩) hP hS (fun H locs hP hS => ?_)
          refine lv_istore_n (lv' := [(3, .int r41), (0, .ref (ad 0)), (1, .int a1), (2, .int a2)]) hx hb d_Model_delete_44 rfl hl (Nat.le_of_ble_eq_true rfl) rfl (fun ls hl => ?_)
          refine lv_aload_n hx hb d_Model_delete_45 rfl (lv_at hl 1 rfl) ?_
          refine lv_iload_n hx hb d_Model_delete_46 rfl (lv_at hl 2 rfl) ?_
          refine lv_iconst (v := (0 : Int32)) hx hb d_Model_delete_47 (by decide) ?_
          refine lv_iload_n hx hb d_Model_delete_48 rfl (lv_at hl 3 rfl) ?_
          obtain ⟨r49, u49, h49, hm⟩ := xb2_some hm
          refine xc_iw (Wd := mW dT ad) (va_runV (C := "EventGraphTextModel") (As := [.int a1, .int (0 : Int32), .int a2]) (rest := []) ⟨hx, hb, hml, hown, hts⟩ (c_Model_event l dC dI dT ad hD a1 (0 : Int32) a2 u r49 u49 h49) (cwV 3 hts (xgV wd_670 wd_672 wds_23 wd_9 wd_673) rfl rfl rfl pd_Model_event ⟨Nat.le_of_ble_eq_true rfl, Nat.le_of_ble_eq_true rfl⟩) (xpreV (C := "EventGraphTextModel") (T := T_Model) (N := 26) hP hK hN rfl mW_X) rfl rfl hl.1 rfl (lv_room (Nat.le_of_ble_eq_true rfl)) d_Model_delete_49 ⟨Nat.le_of_ble_eq_true rfl, Nat.le_of_ble_eq_true rfl⟩) hS (fun _ h => h) (fun H locs hP hS => ?_)
          refine lv_istore (lv' := [(4, .int r49), (3, .int r41), (0, .ref (ad 0)), (1, .int a1), (2, .int a2)]) hx hb d_Model_delete_52 hl (Nat.le_of_ble_eq_true rfl) rfl (fun ls hl => ?_)
          refine lv_aload_n hx hb d_Model_delete_54 rfl (lv_at hl 2 rfl) ?_
          refine va_get (D := (dC, dI)) (ci := 8) (v := .ref (ad 8)) (C := "EventGraphTextModel") (T := T_Model) (N := 26) hx hb hT hin_Model hown hK hP 0 mW_X rfl 8 (by decide) (hT _ wd_566) (fun _ h9 => h9) rfl d_Model_delete_55 ?_
          refine lv_iload hx hb d_Model_delete_58 (lv_at hl 0 rfl) ?_
          refine lv_iload_n hx hb d_Model_delete_60 rfl (lv_at hl 1 rfl) ?_
          obtain ⟨g2, hm⟩ := xg_some hm
          obtain ⟨w61, hw61, hm⟩ := xlt_some hm
          refine va_iast hx hb hK hP (hD _) hS 8 0 mW_X_place rfl g2 d_Model_delete_61 (fun H locs hP _ hS => ?_)
          replace hP : va_P (dC, dI) xCl (mW dT ad w61) H := xp_conv ((mW_s_X_place).trans (congrArg (mW dT ad) hw61.symm)) hP
          refine lv_aload_n hx hb d_Model_delete_62 rfl (lv_at hl 2 rfl) ?_
          refine va_get (D := (dC, dI)) (ci := 8) (v := .ref (ad 2)) (C := "EventGraphTextModel") (T := T_Model) (N := 26) hx hb hT hin_Model hown hK hP 0 mW_X rfl 2 (by decide) (hT _ wd_560) (fun _ h9 => h9) rfl d_Model_delete_63 ?_
          refine lv_iload hx hb d_Model_delete_66 (lv_at hl 0 rfl) ?_
          obtain ⟨g3, hm⟩ := xg_some hm
          refine va_iald hx hb hK hP 2 0 mW_X_number rfl g3 d_Model_delete_68 ?_
          exact hret hm hP hS d_Model_delete_69
        · replace hm := xi_neg h hm
          refine lv_sipush (v := (-1000 : Int32)) hx hb d_Model_delete_29 (by decide) ?_
          exact hret hm hP hS d_Model_delete_32
set_option maxHeartbeats 4000000 in
set_option maxRecDepth 100000 in
theorem c_Model_at (l : Launch) (dC : Nat → ClassId) (dI : Nat → Nat → Nat) (dT : Nat → ClassId) (ad : Nat → Nat) (a1 : Int32) (a2 : Int32) (u : xS) (out : Int32) (hm : m_Model_at a1 a2 u = some out) : Met l y_Model_at (Cond.code y_Model_at b_Model_at 4 (some .int) :: xG) (xrm 4 96) (va_Pc [.ref (ad 0), .int a1, .int a2] (xR (dC, dI) xCl (xT dT) (mW dT ad u))) (va_Qi (fun r9 (_ : Unit) => r9 = out) (fun _ _ => True) xN) 0 0 xN := by
  refine xm_roi (cc := b_Model_at) (maxL := 4) (by decide) rfl (Nat.le_of_ble_eq_true rfl) ?_
  intro p e s m args below meth c Q ls hx hb hml hts hown hK hN hP hl hret
  have hT : ∀ w ∈ xG, w.before args s = true := fun w h => hts w (List.mem_cons_of_mem _ h)
  have hown : s.vm.findClass "EventGraphTextModel" = some m.cls := hown
  have hl : lv_has ls 4 [(0, .ref (ad 0)), (1, .int a1), (2, .int a2)] := hl
  have hS : va_S xN s.heap s.heap [] := va_S.rf
  unfold m_Model_at at hm
  refine lv_iload_n hx hb d_Model_at_0 rfl (lv_at hl 1 rfl) ?_
  obtain ⟨r1, h1, hm⟩ := xb1_some hm
  refine xc_i (va_runS (As := [.int a1]) (rest := []) ⟨hx, hb, hml, hown, hts⟩ (c_Model_wrong l a1 r1 h1) (va_cwS 1 hts (xgS wd_641 wd_642 wd_9 wd_643) rfl rfl rfl pd_Model_wrong.2 ⟨Nat.le_of_ble_eq_true rfl, Nat.le_of_ble_eq_true rfl⟩) xpreS0 rfl rfl hl.1 rfl (lv_room (Nat.le_of_ble_eq_true rfl)) d_Model_at_1 ⟨Nat.le_of_ble_eq_true rfl, Nat.le_of_ble_eq_true rfl⟩) hP hS (fun H locs hP hS => ?_)
  refine lv_if_ne (tgt := 20) hx hb d_Model_at_4 rfl (fun h => ?_) (fun h => ?_)
  · replace hm := xi_neg h hm
    refine lv_sipush (v := (-1000 : Int32)) hx hb d_Model_at_20 (by decide) ?_
    exact hret hm hS d_Model_at_23
  · replace hm := xi_pos h hm
    refine lv_iload_n hx hb d_Model_at_7 rfl (lv_at hl 2 rfl) ?_
    refine lv_if_lt (tgt := 20) hx hb d_Model_at_8 rfl (fun h => ?_) (fun h => ?_)
    · replace hm := xi_pos h hm
      refine lv_sipush (v := (-1000 : Int32)) hx hb d_Model_at_20 (by decide) ?_
      exact hret hm hS d_Model_at_23
    · replace hm := xi_neg h hm
      refine lv_iload_n hx hb d_Model_at_11 rfl (lv_at hl 2 rfl) ?_
      refine lv_aload_n hx hb d_Model_at_12 rfl (lv_at hl 0 rfl) ?_
      refine lv_iload_n hx hb d_Model_at_13 rfl (lv_at hl 1 rfl) ?_
      obtain ⟨r14, h14, hm⟩ := xb1_some hm
      refine xc_i (va_runV (C := "EventGraphTextModel") (As := [.int a1]) (rest := [.int a2]) ⟨hx, hb, hml, hown, hts⟩ (c_Model_length l dC dI dT ad a1 u r14 h14) (cwV 1 hts (xgV wd_644 wd_645 wd_646 wd_9 wd_647) rfl rfl rfl pd_Model_length ⟨Nat.le_of_ble_eq_true rfl, Nat.le_of_ble_eq_true rfl⟩) (xpreV (C := "EventGraphTextModel") (T := T_Model) (N := 26) hP hK hN rfl mW_X) rfl rfl hl.1 rfl (lv_room (Nat.le_of_ble_eq_true rfl)) d_Model_at_14 ⟨Nat.le_of_ble_eq_true rfl, Nat.le_of_ble_eq_true rfl⟩) hP hS (fun H locs hP hS => ?_)
      refine lv_icmp_lt (tgt := 24) hx hb d_Model_at_17 rfl (fun h => ?_) (fun h => ?_)
      · replace hm := xi_pos h hm
        refine lv_aload_n hx hb d_Model_at_24 rfl (lv_at hl 0 rfl) ?_
        refine lv_aload_n hx hb d_Model_at_25 rfl (lv_at hl 0 rfl) ?_
        refine va_get (D := (dC, dI)) (ci := 8) (v := .ref (ad 12)) (C := "EventGraphTextModel") (T := T_Model) (N := 26) hx hb hT hin_Model hown hK hP 0 mW_X rfl 13 (by decide) (hT _ wd_571) (fun _ h9 => h9) rfl d_Model_at_26 ?_
        refine lv_iload_n hx hb d_Model_at_29 rfl (lv_at hl 1 rfl) ?_
        obtain ⟨g1, hm⟩ := xg_some hm
        refine va_lald hx hb hK hP 12 1 mW_X_graph rfl g1 d_Model_at_30 ?_
        refine lv_iload_n hx hb d_Model_at_31 rfl (lv_at hl 2 rfl) ?_
        obtain ⟨r32, h32, hm⟩ := xb1_some hm
        refine xc_i (va_runV (C := "EventGraphTextModel") (As := [.long (xs_L u 2 a1.toNatClampNeg), .int a2]) (rest := []) ⟨hx, hb, hml, hown, hts⟩ (c_Model_shownAt l dC dI dT ad (xs_L u 2 a1.toNatClampNeg) a2 u r32 h32) (cwV 2 hts (xgV wd_662 wd_664 wds_21 wd_9 wd_665) rfl rfl rfl pd_Model_shownAt ⟨Nat.le_of_ble_eq_true rfl, Nat.le_of_ble_eq_true rfl⟩) (xpreV (C := "EventGraphTextModel") (T := T_Model) (N := 26) hP hK hN rfl mW_X) rfl rfl hl.1 rfl (lv_room (Nat.le_of_ble_eq_true rfl)) d_Model_at_32 ⟨Nat.le_of_ble_eq_true rfl, Nat.le_of_ble_eq_true rfl⟩) hP hS (fun H locs hP hS => ?_)
        refine lv_istore_n (lv' := [(3, .int r32), (0, .ref (ad 0)), (1, .int a1), (2, .int a2)]) hx hb d_Model_at_35 rfl hl (Nat.le_of_ble_eq_true rfl) rfl (fun ls hl => ?_)
        refine lv_aload_n hx hb d_Model_at_36 rfl (lv_at hl 1 rfl) ?_
        refine va_get (D := (dC, dI)) (ci := 8) (v := .ref (ad 5)) (C := "EventGraphTextModel") (T := T_Model) (N := 26) hx hb hT hin_Model hown hK hP 0 mW_X rfl 5 (by decide) (hT _ wd_563) (fun _ h9 => h9) rfl d_Model_at_37 ?_
        refine lv_iload_n hx hb d_Model_at_40 rfl (lv_at hl 0 rfl) ?_
        obtain ⟨g2, hm⟩ := xg_some hm
        refine va_iald hx hb hK hP 5 0 mW_X_letter rfl g2 d_Model_at_41 ?_
        exact hret hm hS d_Model_at_42
      · replace hm := xi_neg h hm
        refine lv_sipush (v := (-1000 : Int32)) hx hb d_Model_at_20 (by decide) ?_
        exact hret hm hS d_Model_at_23
set_option maxHeartbeats 4000000 in
set_option maxRecDepth 100000 in
theorem c_Model_can (l : Launch) (dC : Nat → ClassId) (dI : Nat → Nat → Nat) (dT : Nat → ClassId) (ad : Nat → Nat) (a1 : Int64) (a3 : Int64) (a5 : Int32) (u : xS) (out : Int32) (hm : m_Model_can a1 a3 a5 u = some out) : Met l y_Model_can (Cond.code y_Model_can b_Model_can 6 (some .boolean) :: xG) (xrm 1 22) (va_Pc [.ref (ad 0), .long a1, .long a3, .int a5] (xR (dC, dI) xCl (xT dT) (mW dT ad u))) (va_Qi (fun r9 (_ : Unit) => r9 = out) (fun _ _ => True) xN) 0 0 xN := by
  refine xm_roz (cc := b_Model_can) (maxL := 6) (by decide) rfl (Nat.le_of_ble_eq_true rfl) ?_
  intro p e s m args below meth c Q ls hx hb hml hts hown hK hN hP hl hret
  have hT : ∀ w ∈ xG, w.before args s = true := fun w h => hts w (List.mem_cons_of_mem _ h)
  have hown : s.vm.findClass "EventGraphTextModel" = some m.cls := hown
  have hl : lv_has ls 6 [(0, .ref (ad 0)), (1, .long a1), (3, .long a3), (5, .int a5)] := hl
  have hS : va_S xN s.heap s.heap [] := va_S.rf
  unfold m_Model_can at hm
  refine lv_lload_n hx hb d_Model_can_0 rfl (lv_at hl 1 rfl) ?_
  refine lv_iload hx hb d_Model_can_1 (lv_at hl 3 rfl) ?_
  obtain ⟨r3, h3, hm⟩ := xb1_some hm
  refine xc_i (va_runS (As := [.long a1, .int a5]) (rest := []) ⟨hx, hb, hml, hown, hts⟩ (c_Model_in l a1 a5 r3 h3) (va_cwS 2 hts (xgS wd_656 wd_657 wd_9 wd_658) rfl rfl rfl pd_Model_in.2 ⟨Nat.le_of_ble_eq_true rfl, Nat.le_of_ble_eq_true rfl⟩) xpreS0 rfl rfl hl.1 rfl (lv_room (Nat.le_of_ble_eq_true rfl)) d_Model_can_3 ⟨Nat.le_of_ble_eq_true rfl, Nat.le_of_ble_eq_true rfl⟩) hP hS (fun H locs hP hS => ?_)
  refine lv_if_eq (tgt := 42) hx hb d_Model_can_6 rfl (fun h => ?_) (fun h => ?_)
  · replace hm := xi_pos h hm
    refine lv_iconst (v := (0 : Int32)) hx hb d_Model_can_42 (by decide) ?_
    exact hret hm rfl hS d_Model_can_43
  · replace hm := xi_neg h hm
    refine lv_lload_n hx hb d_Model_can_9 rfl (lv_at hl 2 rfl) ?_
    refine lv_iload hx hb d_Model_can_10 (lv_at hl 3 rfl) ?_
    obtain ⟨r12, h12, hm⟩ := xb1_some hm
    refine xc_i (va_runS (As := [.long a3, .int a5]) (rest := []) ⟨hx, hb, hml, hown, hts⟩ (c_Model_in l a3 a5 r12 h12) (va_cwS 2 hts (xgS wd_656 wd_657 wd_9 wd_658) rfl rfl rfl pd_Model_in.2 ⟨Nat.le_of_ble_eq_true rfl, Nat.le_of_ble_eq_true rfl⟩) xpreS0 rfl rfl hl.1 rfl (lv_room (Nat.le_of_ble_eq_true rfl)) d_Model_can_12 ⟨Nat.le_of_ble_eq_true rfl, Nat.le_of_ble_eq_true rfl⟩) hP hS (fun H locs hP hS => ?_)
    refine lv_if_ne (tgt := 42) hx hb d_Model_can_15 rfl (fun h => ?_) (fun h => ?_)
    · replace hm := xi_neg h hm
      refine lv_iconst (v := (0 : Int32)) hx hb d_Model_can_42 (by decide) ?_
      exact hret hm rfl hS d_Model_can_43
    · replace hm := xi_pos h hm
      refine lv_aload_n hx hb d_Model_can_18 rfl (lv_at hl 0 rfl) ?_
      refine va_get (D := (dC, dI)) (ci := 8) (v := .ref (ad 7)) (C := "EventGraphTextModel") (T := T_Model) (N := 26) hx hb hT hin_Model hown hK hP 0 mW_X rfl 7 (by decide) (hT _ wd_565) (fun _ h9 => h9) rfl d_Model_can_19 ?_
      refine lv_iload hx hb d_Model_can_22 (lv_at hl 3 rfl) ?_
      obtain ⟨g1, hm⟩ := xg_some hm
      refine va_lald hx hb hK hP 7 1 mW_X_parents rfl g1 d_Model_can_24 ?_
      refine lv_lload_n hx hb d_Model_can_25 rfl (lv_at hl 1 rfl) ?_
      refine lv_land hx hb d_Model_can_26 ?_
      refine lv_lload_n hx hb d_Model_can_27 rfl (lv_at hl 2 rfl) ?_
      refine lv_ldc2 (v := (-1 : Int64)) hx hb hown (hT _ wd_678) d_Model_can_28 ?_
      refine lv_lxor hx hb d_Model_can_31 ?_
      refine lv_land hx hb d_Model_can_32 ?_
      refine lv_lconst (v := (0 : Int64)) hx hb d_Model_can_33 (by decide) ?_
      refine xl_cmp_ne (tgt := 42) hx hb d_Model_can_34 d_Model_can_35 rfl (fun h => ?_) (fun h => ?_)
      · replace hm := xi_neg h hm
        refine lv_iconst (v := (0 : Int32)) hx hb d_Model_can_42 (by decide) ?_
        exact hret hm rfl hS d_Model_can_43
      · replace hm := xi_pos h hm
        refine lv_iconst (v := (1 : Int32)) hx hb d_Model_can_38 (by decide) ?_
        refine lv_goto (tgt := 43) hx hb d_Model_can_39 rfl ?_
        exact hret hm rfl hS d_Model_can_43
set_option maxHeartbeats 4000000 in
set_option maxRecDepth 100000 in
theorem c_Model_nextOf (l : Launch) (dC : Nat → ClassId) (dI : Nat → Nat → Nat) (dT : Nat → ClassId) (ad : Nat → Nat) (a1 : Int64) (a3 : Int64) (a5 : Int32) (u : xS) (out : Int32) (hm : m_Model_nextOf a1 a3 a5 u = some out) : Met l y_Model_nextOf (Cond.code y_Model_nextOf b_Model_nextOf 9 (some .int) :: xG) (xrm 2 47) (va_Pc [.ref (ad 0), .long a1, .long a3, .int a5] (xR (dC, dI) xCl (xT dT) (mW dT ad u))) (va_Qi (fun r9 (_ : Unit) => r9 = out) (fun _ _ => True) xN) 0 0 xN := by
  refine xm_roi (cc := b_Model_nextOf) (maxL := 9) (by decide) rfl (Nat.le_of_ble_eq_true rfl) ?_
  intro p e s m args below meth c Q ls hx hb hml hts hown hK hN hP hl hret
  have hT : ∀ w ∈ xG, w.before args s = true := fun w h => hts w (List.mem_cons_of_mem _ h)
  have hown : s.vm.findClass "EventGraphTextModel" = some m.cls := hown
  have hl : lv_has ls 9 [(0, .ref (ad 0)), (1, .long a1), (3, .long a3), (5, .int a5)] := hl
  have hS : va_S xN s.heap s.heap [] := va_S.rf
  have hb70 : ∀ (k6 : Int64 → Int64 → Int32 → Int32 → Int32 → xS → Option Int32) (hk6 : ∀ (b1 : Int64) (b3 : Int64) (b5 : Int32) (b6 : Int32) (b7 : Int32) (H : Heap) (locs : List Loc) (ls : Array Slot), lv_has ls 9 [(0, .ref (ad 0)), (1, .long b1), (3, .long b3), (5, .int b5), (6, .int b6), (7, .int b7)] → va_P (dC, dI) xCl (mW dT ad u) H → va_S xN s.heap H locs → k6 b1 b3 b5 b6 b7 u = some out → W p l e (xrm 2 47) s m args below meth c H locs 0 0 Q (F0 m 6 ls [])) (k15 : Int64 → Int64 → Int32 → Int32 → Int32 → Int32 → xS → Option Int32) (hk15 : ∀ (b1 : Int64) (b3 : Int64) (b5 : Int32) (b6 : Int32) (b7 : Int32) (b8 : Int32) (H : Heap) (locs : List Loc) (ls : Array Slot), lv_has ls 9 [(0, .ref (ad 0)), (1, .long b1), (3, .long b3), (5, .int b5), (6, .int b6), (7, .int b7), (8, .int b8)] → va_P (dC, dI) xCl (mW dT ad u) H → va_S xN s.heap H locs → k15 b1 b3 b5 b6 b7 b8 u = some out → W p l e (xrm 2 47) s m args below meth c H locs 0 0 Q (F0 m 15 ls [])), ∀ (b1 : Int64) (b3 : Int64) (b5 : Int32) (b6 : Int32) (b7 : Int32) (b8 : Int32) (H : Heap) (locs : List Loc) (ls : Array Slot), lv_has ls 9 [(0, .ref (ad 0)), (1, .long b1), (3, .long b3), (5, .int b5), (6, .int b6), (7, .int b7), (8, .int b8)] → va_P (dC, dI) xCl (mW dT ad u) H → va_S xN s.heap H locs → m_Model_nextOf_b70 k6 k15 b1 b3 b5 b6 b7 b8 u = some out → W p l e (xrm 2 47) s m args below meth c H locs 0 0 Q (F0 m 70 ls []) := by
    intro k6 hk6 k15 hk15 b1 b3 b5 b6 b7 b8 H locs ls hl hP hS hm
    unfold m_Model_nextOf_b70 at hm
    refine lv_iload hx hb d_Model_nextOf_70 (lv_at hl 4 rfl) ?_
    refine lv_if_ge (tgt := 80) hx hb d_Model_nextOf_72 rfl (fun h => ?_) (fun h => ?_)
    · replace hm := xi_pos h hm
      refine lv_iload hx hb d_Model_nextOf_80 (lv_at hl 4 rfl) ?_
      refine lv_istore (lv' := [(6, .int b6), (0, .ref (ad 0)), (1, .long b1), (3, .long b3), (5, .int b5), (7, .int b7), (8, .int b8)]) hx hb d_Model_nextOf_82 hl (Nat.le_of_ble_eq_true rfl) rfl (fun ls hl => ?_)
      refine lv_iinc (k := 6) (v := (b8 + (1 : Int32))) (lv' := [(8, .int (b8 + (1 : Int32))), (6, .int b6), (0, .ref (ad 0)), (1, .long b1), (3, .long b3), (5, .int b5), (7, .int b7)]) hx hb d_Model_nextOf_84 hl rfl rfl (Nat.le_of_ble_eq_true rfl) rfl (fun ls hl => ?_)
      refine lv_goto (tgt := 15) hx hb d_Model_nextOf_87 rfl ?_
      exact hk15 b1 b3 b5 b6 b7 (b8 + (1 : Int32)) _ _ _ (lv_sub hl [2, 3, 4, 5, 1, 6, 0] rfl) hP hS hm
    · replace hm := xi_neg h hm
      refine lv_iload hx hb d_Model_nextOf_75 (lv_at hl 6 rfl) ?_
      refine lv_goto (tgt := 82) hx hb d_Model_nextOf_77 rfl ?_
      refine lv_istore (lv' := [(6, .int b8), (0, .ref (ad 0)), (1, .long b1), (3, .long b3), (5, .int b5), (7, .int b7), (8, .int b8)]) hx hb d_Model_nextOf_82 hl (Nat.le_of_ble_eq_true rfl) rfl (fun ls hl => ?_)
      refine lv_iinc (k := 6) (v := (b8 + (1 : Int32))) (lv' := [(8, .int (b8 + (1 : Int32))), (6, .int b8), (0, .ref (ad 0)), (1, .long b1), (3, .long b3), (5, .int b5), (7, .int b7)]) hx hb d_Model_nextOf_84 hl rfl rfl (Nat.le_of_ble_eq_true rfl) rfl (fun ls hl => ?_)
      refine lv_goto (tgt := 15) hx hb d_Model_nextOf_87 rfl ?_
      exact hk15 b1 b3 b5 b8 b7 (b8 + (1 : Int32)) _ _ _ (lv_sub hl [2, 3, 4, 5, 1, 6, 0] rfl) hP hS hm
  have hs15 : ∀ (k6 : Int64 → Int64 → Int32 → Int32 → Int32 → xS → Option Int32) (hk6 : ∀ (b1 : Int64) (b3 : Int64) (b5 : Int32) (b6 : Int32) (b7 : Int32) (H : Heap) (locs : List Loc) (ls : Array Slot), lv_has ls 9 [(0, .ref (ad 0)), (1, .long b1), (3, .long b3), (5, .int b5), (6, .int b6), (7, .int b7)] → va_P (dC, dI) xCl (mW dT ad u) H → va_S xN s.heap H locs → k6 b1 b3 b5 b6 b7 u = some out → W p l e (xrm 2 47) s m args below meth c H locs 0 0 Q (F0 m 6 ls [])) (k15 : Int64 → Int64 → Int32 → Int32 → Int32 → Int32 → xS → Option Int32) (hk15 : ∀ (b1 : Int64) (b3 : Int64) (b5 : Int32) (b6 : Int32) (b7 : Int32) (b8 : Int32) (H : Heap) (locs : List Loc) (ls : Array Slot), lv_has ls 9 [(0, .ref (ad 0)), (1, .long b1), (3, .long b3), (5, .int b5), (6, .int b6), (7, .int b7), (8, .int b8)] → va_P (dC, dI) xCl (mW dT ad u) H → va_S xN s.heap H locs → k15 b1 b3 b5 b6 b7 b8 u = some out → W p l e (xrm 2 47) s m args below meth c H locs 0 0 Q (F0 m 15 ls [])), ∀ (b1 : Int64) (b3 : Int64) (b5 : Int32) (b6 : Int32) (b7 : Int32) (b8 : Int32) (H : Heap) (locs : List Loc) (ls : Array Slot), lv_has ls 9 [(0, .ref (ad 0)), (1, .long b1), (3, .long b3), (5, .int b5), (6, .int b6), (7, .int b7), (8, .int b8)] → va_P (dC, dI) xCl (mW dT ad u) H → va_S xN s.heap H locs → m_Model_nextOf_s15 k6 k15 b1 b3 b5 b6 b7 b8 u = some out → W p l e (xrm 2 47) s m args below meth c H locs 0 0 Q (F0 m 15 ls []) := by
    intro k6 hk6 k15 hk15 b1 b3 b5 b6 b7 b8 H locs ls hl hP hS hm
    unfold m_Model_nextOf_s15 at hm
    refine lv_iload hx hb d_Model_nextOf_15 (lv_at hl 6 rfl) ?_
    refine lv_aload_n hx hb d_Model_nextOf_17 rfl (lv_at hl 0 rfl) ?_
    refine va_get (D := (dC, dI)) (ci := 8) (v := .int (xs_i u 0)) (C := "EventGraphTextModel") (T := T_Model) (N := 26) hx hb hT hin_Model hown hK hP 0 mW_X rfl 0 (by decide) (hT _ wd_558) (fun _ h9 => h9) rfl d_Model_nextOf_18 ?_
    refine lv_icmp_ge (tgt := 90) hx hb d_Model_nextOf_21 rfl (fun h => ?_) (fun h => ?_)
    · replace hm := xi_pos h hm
      refine lv_iinc (k := 5) (v := (b7 + (1 : Int32))) (lv' := [(7, .int (b7 + (1 : Int32))), (0, .ref (ad 0)), (1, .long b1), (3, .long b3), (5, .int b5), (6, .int b6), (8, .int b8)]) hx hb d_Model_nextOf_90 hl rfl rfl (Nat.le_of_ble_eq_true rfl) rfl (fun ls hl => ?_)
      refine lv_goto (tgt := 6) hx hb d_Model_nextOf_93 rfl ?_
      exact hk6 b1 b3 b5 b6 (b7 + (1 : Int32)) _ _ _ (lv_sub hl [1, 2, 3, 4, 5, 0] rfl) hP hS hm
    · replace hm := xi_neg h hm
      refine lv_aload_n hx hb d_Model_nextOf_24 rfl (lv_at hl 0 rfl) ?_
      refine va_get (D := (dC, dI)) (ci := 8) (v := .ref (ad 1)) (C := "EventGraphTextModel") (T := T_Model) (N := 26) hx hb hT hin_Model hown hK hP 0 mW_X rfl 1 (by decide) (hT _ wd_559) (fun _ h9 => h9) rfl d_Model_nextOf_25 ?_
      refine lv_iload hx hb d_Model_nextOf_28 (lv_at hl 6 rfl) ?_
      obtain ⟨g1, hm⟩ := xg_some hm
      refine va_iald hx hb hK hP 1 0 mW_X_site rfl g1 d_Model_nextOf_30 ?_
      refine lv_iload hx hb d_Model_nextOf_31 (lv_at hl 5 rfl) ?_
      refine lv_icmp_ne (tgt := 84) hx hb d_Model_nextOf_33 rfl (fun h => ?_) (fun h => ?_)
      · replace hm := xi_neg h hm
        refine lv_iinc (k := 6) (v := (b8 + (1 : Int32))) (lv' := [(8, .int (b8 + (1 : Int32))), (0, .ref (ad 0)), (1, .long b1), (3, .long b3), (5, .int b5), (6, .int b6), (7, .int b7)]) hx hb d_Model_nextOf_84 hl rfl rfl (Nat.le_of_ble_eq_true rfl) rfl (fun ls hl => ?_)
        refine lv_goto (tgt := 15) hx hb d_Model_nextOf_87 rfl ?_
        exact hk15 b1 b3 b5 b6 b7 (b8 + (1 : Int32)) _ _ _ (lv_sub hl [1, 2, 3, 4, 5, 6, 0] rfl) hP hS hm
      · replace hm := xi_pos h hm
        refine lv_aload_n hx hb d_Model_nextOf_36 rfl (lv_at hl 0 rfl) ?_
        refine lv_lload_n hx hb d_Model_nextOf_37 rfl (lv_at hl 1 rfl) ?_
        refine lv_lload_n hx hb d_Model_nextOf_38 rfl (lv_at hl 2 rfl) ?_
        refine lv_iload hx hb d_Model_nextOf_39 (lv_at hl 6 rfl) ?_
        obtain ⟨r41, h41, hm⟩ := xb1_some hm
        refine xc_i (va_runV (C := "EventGraphTextModel") (As := [.long b1, .long b3, .int b8]) (rest := []) ⟨hx, hb, hml, hown, hts⟩ (c_Model_can l dC dI dT ad b1 b3 b8 u r41 h41) (cwV 3 hts (xgV wd_755 wd_757 wds_25 wd_9 wd_758) rfl rfl rfl pd_Model_can ⟨Nat.le_of_ble_eq_true rfl, Nat.le_of_ble_eq_true rfl⟩) (xpreV (C := "EventGraphTextModel") (T := T_Model) (N := 26) hP hK hN rfl mW_X) rfl rfl hl.1 rfl (lv_room (Nat.le_of_ble_eq_true rfl)) d_Model_nextOf_41 ⟨Nat.le_of_ble_eq_true rfl, Nat.le_of_ble_eq_true rfl⟩) hP hS (fun H locs hP hS => ?_)
        refine lv_if_eq (tgt := 84) hx hb d_Model_nextOf_44 rfl (fun h => ?_) (fun h => ?_)
        · replace hm := xi_pos h hm
          refine lv_iinc (k := 6) (v := (b8 + (1 : Int32))) (lv' := [(8, .int (b8 + (1 : Int32))), (0, .ref (ad 0)), (1, .long b1), (3, .long b3), (5, .int b5), (6, .int b6), (7, .int b7)]) hx hb d_Model_nextOf_84 hl rfl rfl (Nat.le_of_ble_eq_true rfl) rfl (fun ls hl => ?_)
          refine lv_goto (tgt := 15) hx hb d_Model_nextOf_87 rfl ?_
          exact hk15 b1 b3 b5 b6 b7 (b8 + (1 : Int32)) _ _ _ (lv_sub hl [1, 2, 3, 4, 5, 6, 0] rfl) hP hS hm
        · replace hm := xi_neg h hm
          refine lv_iload hx hb d_Model_nextOf_47 (lv_at hl 3 rfl) ?_
          refine lv_if_lt (tgt := 70) hx hb d_Model_nextOf_49 rfl (fun h => ?_) (fun h => ?_)
          · replace hm := xi_pos h hm
            exact hb70 k6 hk6 k15 hk15 b1 b3 b5 b6 b7 b8 _ _ _ (lv_sub hl [0, 1, 2, 3, 4, 5, 6] rfl) hP hS hm
          · replace hm := xi_neg h hm
            refine lv_aload_n hx hb d_Model_nextOf_52 rfl (lv_at hl 0 rfl) ?_
            refine va_get (D := (dC, dI)) (ci := 8) (v := .ref (ad 7)) (C := "EventGraphTextModel") (T := T_Model) (N := 26) hx hb hT hin_Model hown hK hP 0 mW_X rfl 7 (by decide) (hT _ wd_565) (fun _ h9 => h9) rfl d_Model_nextOf_53 ?_
            refine lv_iload hx hb d_Model_nextOf_56 (lv_at hl 6 rfl) ?_
            refine va_lald hx hb hK hP 7 1 mW_X_parents rfl g1 d_Model_nextOf_58 ?_
            refine lv_iload hx hb d_Model_nextOf_59 (lv_at hl 3 rfl) ?_
            obtain ⟨r61, h61, hm⟩ := xb1_some hm
            refine xc_i (va_runS (As := [.long (xs_L u 1 b8.toNatClampNeg), .int b5]) (rest := []) ⟨hx, hb, hml, hown, hts⟩ (c_Model_in l (xs_L u 1 b8.toNatClampNeg) b5 r61 h61) (va_cwS 2 hts (xgS wd_656 wd_657 wd_9 wd_658) rfl rfl rfl pd_Model_in.2 ⟨Nat.le_of_ble_eq_true rfl, Nat.le_of_ble_eq_true rfl⟩) xpreS0 rfl rfl hl.1 rfl (lv_room (Nat.le_of_ble_eq_true rfl)) d_Model_nextOf_61 ⟨Nat.le_of_ble_eq_true rfl, Nat.le_of_ble_eq_true rfl⟩) hP hS (fun H locs hP hS => ?_)
            refine lv_if_eq (tgt := 70) hx hb d_Model_nextOf_64 rfl (fun h => ?_) (fun h => ?_)
            · replace hm := xi_pos h hm
              exact hb70 k6 hk6 k15 hk15 b1 b3 b5 b6 b7 b8 _ _ _ (lv_sub hl [0, 1, 2, 3, 4, 5, 6] rfl) hP hS hm
            · replace hm := xi_neg h hm
              refine lv_iload hx hb d_Model_nextOf_67 (lv_at hl 6 rfl) ?_
              exact hret hm hS d_Model_nextOf_69
  have hl15 : ∀ (k6 : Int64 → Int64 → Int32 → Int32 → Int32 → xS → Option Int32) (hk6 : ∀ (b1 : Int64) (b3 : Int64) (b5 : Int32) (b6 : Int32) (b7 : Int32) (H : Heap) (locs : List Loc) (ls : Array Slot), lv_has ls 9 [(0, .ref (ad 0)), (1, .long b1), (3, .long b3), (5, .int b5), (6, .int b6), (7, .int b7)] → va_P (dC, dI) xCl (mW dT ad u) H → va_S xN s.heap H locs → k6 b1 b3 b5 b6 b7 u = some out → W p l e (xrm 2 47) s m args below meth c H locs 0 0 Q (F0 m 6 ls [])) (fu : Nat), ∀ (b1 : Int64) (b3 : Int64) (b5 : Int32) (b6 : Int32) (b7 : Int32) (b8 : Int32) (H : Heap) (locs : List Loc) (ls : Array Slot), lv_has ls 9 [(0, .ref (ad 0)), (1, .long b1), (3, .long b3), (5, .int b5), (6, .int b6), (7, .int b7), (8, .int b8)] → va_P (dC, dI) xCl (mW dT ad u) H → va_S xN s.heap H locs → m_Model_nextOf_l15 k6 fu b1 b3 b5 b6 b7 b8 u = some out → W p l e (xrm 2 47) s m args below meth c H locs 0 0 Q (F0 m 15 ls []) := by
    intro k6 hk6 fu
    induction fu with
    | zero => intro b1 b3 b5 b6 b7 b8 H locs ls hl hP hS hm; exact absurd hm (fun z => by cases z)
    | succ n ih => intro b1 b3 b5 b6 b7 b8 H locs ls hl hP hS hm; exact hs15 k6 hk6 (m_Model_nextOf_l15 k6 n) ih b1 b3 b5 b6 b7 b8 H locs ls hl hP hS hm
  have hs6 : ∀ (k6 : Int64 → Int64 → Int32 → Int32 → Int32 → xS → Option Int32) (hk6 : ∀ (b1 : Int64) (b3 : Int64) (b5 : Int32) (b6 : Int32) (b7 : Int32) (H : Heap) (locs : List Loc) (ls : Array Slot), lv_has ls 9 [(0, .ref (ad 0)), (1, .long b1), (3, .long b3), (5, .int b5), (6, .int b6), (7, .int b7)] → va_P (dC, dI) xCl (mW dT ad u) H → va_S xN s.heap H locs → k6 b1 b3 b5 b6 b7 u = some out → W p l e (xrm 2 47) s m args below meth c H locs 0 0 Q (F0 m 6 ls [])), ∀ (b1 : Int64) (b3 : Int64) (b5 : Int32) (b6 : Int32) (b7 : Int32) (H : Heap) (locs : List Loc) (ls : Array Slot), lv_has ls 9 [(0, .ref (ad 0)), (1, .long b1), (3, .long b3), (5, .int b5), (6, .int b6), (7, .int b7)] → va_P (dC, dI) xCl (mW dT ad u) H → va_S xN s.heap H locs → m_Model_nextOf_s6 k6 b1 b3 b5 b6 b7 u = some out → W p l e (xrm 2 47) s m args below meth c H locs 0 0 Q (F0 m 6 ls []) := by
    intro k6 hk6 b1 b3 b5 b6 b7 H locs ls hl hP hS hm
    unfold m_Model_nextOf_s6 at hm
    refine lv_iload hx hb d_Model_nextOf_6 (lv_at hl 5 rfl) ?_
    refine lv_iconst (v := (3 : Int32)) hx hb d_Model_nextOf_8 (by decide) ?_
    refine lv_icmp_ge (tgt := 96) hx hb d_Model_nextOf_9 rfl (fun h => ?_) (fun h => ?_)
    · replace hm := xi_pos h hm
      refine lv_iload hx hb d_Model_nextOf_96 (lv_at hl 4 rfl) ?_
      exact hret hm hS d_Model_nextOf_98
    · replace hm := xi_neg h hm
      refine lv_iconst (v := (0 : Int32)) hx hb d_Model_nextOf_12 (by decide) ?_
      refine lv_istore (lv' := [(8, .int (0 : Int32)), (0, .ref (ad 0)), (1, .long b1), (3, .long b3), (5, .int b5), (6, .int b6), (7, .int b7)]) hx hb d_Model_nextOf_13 hl (Nat.le_of_ble_eq_true rfl) rfl (fun ls hl => ?_)
      exact hl15 k6 hk6 xFU b1 b3 b5 b6 b7 (0 : Int32) _ _ _ (lv_sub hl [1, 2, 3, 4, 5, 6, 0] rfl) hP hS hm
  have hl6 : ∀ (fu : Nat), ∀ (b1 : Int64) (b3 : Int64) (b5 : Int32) (b6 : Int32) (b7 : Int32) (H : Heap) (locs : List Loc) (ls : Array Slot), lv_has ls 9 [(0, .ref (ad 0)), (1, .long b1), (3, .long b3), (5, .int b5), (6, .int b6), (7, .int b7)] → va_P (dC, dI) xCl (mW dT ad u) H → va_S xN s.heap H locs → m_Model_nextOf_l6 fu b1 b3 b5 b6 b7 u = some out → W p l e (xrm 2 47) s m args below meth c H locs 0 0 Q (F0 m 6 ls []) := by
    intro fu
    induction fu with
    | zero => intro b1 b3 b5 b6 b7 H locs ls hl hP hS hm; exact absurd hm (fun z => by cases z)
    | succ n ih => intro b1 b3 b5 b6 b7 H locs ls hl hP hS hm; exact hs6 (m_Model_nextOf_l6 n) ih b1 b3 b5 b6 b7 H locs ls hl hP hS hm
  unfold m_Model_nextOf at hm
  refine lv_iconst (v := (-1 : Int32)) hx hb d_Model_nextOf_0 (by decide) ?_
  refine lv_istore (lv' := [(6, .int (-1 : Int32)), (0, .ref (ad 0)), (1, .long a1), (3, .long a3), (5, .int a5)]) hx hb d_Model_nextOf_1 hl (Nat.le_of_ble_eq_true rfl) rfl (fun ls hl => ?_)
  refine lv_iconst (v := (0 : Int32)) hx hb d_Model_nextOf_3 (by decide) ?_
  refine lv_istore (lv' := [(7, .int (0 : Int32)), (6, .int (-1 : Int32)), (0, .ref (ad 0)), (1, .long a1), (3, .long a3), (5, .int a5)]) hx hb d_Model_nextOf_4 hl (Nat.le_of_ble_eq_true rfl) rfl (fun ls hl => ?_)
  exact hl6 xFU a1 a3 a5 (-1 : Int32) (0 : Int32) _ _ _ (lv_sub hl [2, 3, 4, 5, 1, 0] rfl) hP hS hm
set_option maxHeartbeats 4000000 in
set_option maxRecDepth 100000 in
theorem c_Model_order (l : Launch) (dC : Nat → ClassId) (dI : Nat → Nat → Nat) (dT : Nat → ClassId) (ad : Nat → Nat) (hD : ∀ u, va_D (xA ad 23) (mW dT ad u)) (a1 : Int64) (u : xS) (u1 : xS) (hm : m_Model_order a1 u = some u1) : Met l y_Model_order (Cond.code y_Model_order b_Model_order 7 none :: xG) (xrm 3 75) (va_Pc [.ref (ad 0), .long a1] (xR (dC, dI) xCl (xT dT) (mW dT ad u))) (va_Qv (fun (u9 : xS) => u9 = u1) (fun u9 t => va_P (dC, dI) xCl (mW dT ad u9) t.heap) (xA ad 23)) 0 0 (xA ad 23) := by
  refine xm_rwv (Wd := mW dT ad) (cc := b_Model_order) (maxL := 7) (by decide) rfl (Nat.le_of_ble_eq_true rfl) ?_
  intro p e s m args below meth c Q ls hx hb hml hts hown hK hN hP hl hret
  have hT : ∀ w ∈ xG, w.before args s = true := fun w h => hts w (List.mem_cons_of_mem _ h)
  have hown : s.vm.findClass "EventGraphTextModel" = some m.cls := hown
  have hl : lv_has ls 7 [(0, .ref (ad 0)), (1, .long a1)] := hl
  have hS : va_S (xA ad 23) s.heap s.heap [] := va_S.rf
  have hs13 : ∀ (k13 : Int64 → Int64 → Int32 → Int32 → xS → Option xS) (hk13 : ∀ (b1 : Int64) (b3 : Int64) (b5 : Int32) (b6 : Int32) (u : xS) (H : Heap) (locs : List Loc) (ls : Array Slot), lv_has ls 7 [(0, .ref (ad 0)), (1, .long b1), (3, .long b3), (5, .int b5), (6, .int b6)] → va_P (dC, dI) xCl (mW dT ad u) H → va_S (xA ad 23) s.heap H locs → k13 b1 b3 b5 b6 u = some u1 → W p l e (xrm 3 75) s m args below meth c H locs 0 0 Q (F0 m 13 ls [])), ∀ (b1 : Int64) (b3 : Int64) (b5 : Int32) (b6 : Int32) (u : xS) (H : Heap) (locs : List Loc) (ls : Array Slot), lv_has ls 7 [(0, .ref (ad 0)), (1, .long b1), (3, .long b3), (5, .int b5), (6, .int b6)] → va_P (dC, dI) xCl (mW dT ad u) H → va_S (xA ad 23) s.heap H locs → m_Model_order_s13 k13 b1 b3 b5 b6 u = some u1 → W p l e (xrm 3 75) s m args below meth c H locs 0 0 Q (F0 m 13 ls []) := by
    intro k13 hk13 b1 b3 b5 b6 u H locs ls hl hP hS hm
    unfold m_Model_order_s13 at hm
    refine lv_iload hx hb d_Model_order_13 (lv_at hl 4 rfl) ?_
    refine lv_bipush (v := (40 : Int32)) hx hb d_Model_order_15 (by decide) ?_
    refine lv_icmp_ge (tgt := 71) hx hb d_Model_order_17 rfl (fun h => ?_) (fun h => ?_)
    · replace hm := xi_pos h hm
      exact hret hm hP hS d_Model_order_71
    · replace hm := xi_neg h hm
      refine lv_lload_n hx hb d_Model_order_20 rfl (lv_at hl 2 rfl) ?_
      refine lv_lload_n hx hb d_Model_order_21 rfl (lv_at hl 1 rfl) ?_
      refine xl_cmp_eq (tgt := 71) hx hb d_Model_order_22 d_Model_order_23 rfl (fun h => ?_) (fun h => ?_)
      · replace hm := xi_pos h hm
        exact hret hm hP hS d_Model_order_71
      · replace hm := xi_neg h hm
        refine lv_aload_n hx hb d_Model_order_26 rfl (lv_at hl 0 rfl) ?_
        refine lv_lload_n hx hb d_Model_order_27 rfl (lv_at hl 1 rfl) ?_
        refine lv_lload_n hx hb d_Model_order_28 rfl (lv_at hl 2 rfl) ?_
        refine lv_iload hx hb d_Model_order_29 (lv_at hl 3 rfl) ?_
        obtain ⟨r31, h31, hm⟩ := xb1_some hm
        refine xc_i (va_runV (C := "EventGraphTextModel") (As := [.long b1, .long b3, .int b5]) (rest := []) ⟨hx, hb, hml, hown, hts⟩ (c_Model_nextOf l dC dI dT ad b1 b3 b5 u r31 h31) (cwV 3 hts (xgV wd_751 wd_753 wds_26 wd_9 wd_754) rfl rfl rfl pd_Model_nextOf ⟨Nat.le_of_ble_eq_true rfl, Nat.le_of_ble_eq_true rfl⟩) (xpreV (C := "EventGraphTextModel") (T := T_Model) (N := 26) hP hK hN rfl mW_X) rfl rfl hl.1 rfl (lv_room (Nat.le_of_ble_eq_true rfl)) d_Model_order_31 ⟨Nat.le_of_ble_eq_true rfl, Nat.le_of_ble_eq_true rfl⟩) hP hS (fun H locs hP hS => ?_)
        refine lv_istore (lv' := [(5, .int r31), (0, .ref (ad 0)), (1, .long b1), (3, .long b3), (6, .int b6)]) hx hb d_Model_order_34 hl (Nat.le_of_ble_eq_true rfl) rfl (fun ls hl => ?_)
        refine lv_lload_n hx hb d_Model_order_36 rfl (lv_at hl 3 rfl) ?_
        refine lv_iload hx hb d_Model_order_37 (lv_at hl 0 rfl) ?_
        obtain ⟨r39, h39, hm⟩ := xb1_some hm
        refine xc_l (va_runS (As := [.int r31]) (rest := [.long b3]) ⟨hx, hb, hml, hown, hts⟩ (c_Model_one l r31 r39 h39) (va_cwS 1 hts (xgS wd_659 wd_660 wd_9 wd_661) rfl rfl rfl pd_Model_one.2 ⟨Nat.le_of_ble_eq_true rfl, Nat.le_of_ble_eq_true rfl⟩) xpreS0 rfl rfl hl.1 rfl (lv_room (Nat.le_of_ble_eq_true rfl)) d_Model_order_39 ⟨Nat.le_of_ble_eq_true rfl, Nat.le_of_ble_eq_true rfl⟩) hP hS (fun H locs hP hS => ?_)
        refine lv_lor hx hb d_Model_order_42 ?_
        refine lv_lstore_n (lv' := [(3, .long (b3 ||| r39)), (5, .int r31), (0, .ref (ad 0)), (1, .long b1), (6, .int b6)]) hx hb d_Model_order_43 rfl hl (Nat.le_of_ble_eq_true rfl) rfl (fun ls hl => ?_)
        refine lv_aload_n hx hb d_Model_order_44 rfl (lv_at hl 2 rfl) ?_
        refine va_get (D := (dC, dI)) (ci := 8) (v := .ref (ad 21)) (C := "EventGraphTextModel") (T := T_Model) (N := 26) hx hb hT hin_Model hown hK hP 0 mW_X rfl 22 (by decide) (hT _ wd_580) (fun _ h9 => h9) rfl d_Model_order_45 ?_
        refine lv_aload_n hx hb d_Model_order_48 rfl (lv_at hl 2 rfl) ?_
        refine va_get (D := (dC, dI)) (ci := 8) (v := .int (xs_i u 2)) (C := "EventGraphTextModel") (T := T_Model) (N := 26) hx hb hT hin_Model hown hK hP 0 mW_X rfl 23 (by decide) (hT _ wd_581) (fun _ h9 => h9) rfl d_Model_order_49 ?_
        refine lv_iload hx hb d_Model_order_52 (lv_at hl 1 rfl) ?_
        obtain ⟨g1, hm⟩ := xg_some hm
        obtain ⟨w54, hw54, hm⟩ := xlt_some hm
        refine va_iast hx hb hK hP (hD _) hS 21 0 mW_X_turn rfl g1 d_Model_order_54 (fun H locs hP _ hS => ?_)
        replace hP : va_P (dC, dI) xCl (mW dT ad w54) H := xp_conv ((mW_s_X_turn).trans (congrArg (mW dT ad) hw54.symm)) hP
        refine lv_aload_n hx hb d_Model_order_55 rfl (lv_at hl 2 rfl) ?_
        refine lv_dup hx hb d_Model_order_56 rfl ?_
        refine va_get (D := (dC, dI)) (ci := 8) (v := .int (xs_i w54 2)) (C := "EventGraphTextModel") (T := T_Model) (N := 26) hx hb hT hin_Model hown hK hP 0 mW_X rfl 23 (by decide) (hT _ wd_581) (fun _ h9 => h9) rfl d_Model_order_57 ?_
        refine lv_iconst (v := (1 : Int32)) hx hb d_Model_order_60 (by decide) ?_
        refine lv_iadd hx hb d_Model_order_61 ?_
        obtain ⟨w62, hw62, hm⟩ := xlt_some hm
        refine va_put (D := (dC, dI)) (ci := 8) (v := .int ((xs_i w54 2) + (1 : Int32))) (ty := .int) (C := "EventGraphTextModel") (T := T_Model) (N := 26) hx hb hT hin_Model ty_Model tyok_Model nm_Model hown hK hP (hD _) hS 0 mW_X rfl 23 (by decide) (hT _ wd_581) (fun _ h9 => h9) rfl (by decide +kernel) rfl rfl (Nat.le_of_ble_eq_true rfl) d_Model_order_62 (fun H locs hP _ hS => ?_)
        replace hP : va_P (dC, dI) xCl (mW dT ad w62) H := xp_conv ((mW_f_X_turns).trans (congrArg (mW dT ad) hw62.symm)) hP
        refine lv_iinc (k := 4) (v := (b6 + (1 : Int32))) (lv' := [(6, .int (b6 + (1 : Int32))), (3, .long (b3 ||| r39)), (5, .int r31), (0, .ref (ad 0)), (1, .long b1)]) hx hb d_Model_order_65 hl rfl rfl (Nat.le_of_ble_eq_true rfl) rfl (fun ls hl => ?_)
        refine lv_goto (tgt := 13) hx hb d_Model_order_68 rfl ?_
        exact hk13 b1 (b3 ||| r39) r31 (b6 + (1 : Int32)) w62 _ _ _ (lv_sub hl [3, 4, 1, 2, 0] rfl) hP hS hm
  have hl13 : ∀ (fu : Nat), ∀ (b1 : Int64) (b3 : Int64) (b5 : Int32) (b6 : Int32) (u : xS) (H : Heap) (locs : List Loc) (ls : Array Slot), lv_has ls 7 [(0, .ref (ad 0)), (1, .long b1), (3, .long b3), (5, .int b5), (6, .int b6)] → va_P (dC, dI) xCl (mW dT ad u) H → va_S (xA ad 23) s.heap H locs → m_Model_order_l13 fu b1 b3 b5 b6 u = some u1 → W p l e (xrm 3 75) s m args below meth c H locs 0 0 Q (F0 m 13 ls []) := by
    intro fu
    induction fu with
    | zero => intro b1 b3 b5 b6 u H locs ls hl hP hS hm; exact absurd hm (fun z => by cases z)
    | succ n ih => intro b1 b3 b5 b6 u H locs ls hl hP hS hm; exact hs13 (m_Model_order_l13 n) ih b1 b3 b5 b6 u H locs ls hl hP hS hm
  unfold m_Model_order at hm
  refine lv_aload_n hx hb d_Model_order_0 rfl (lv_at hl 0 rfl) ?_
  refine lv_iconst (v := (0 : Int32)) hx hb d_Model_order_1 (by decide) ?_
  obtain ⟨w2, hw2, hm⟩ := xlt_some hm
  refine va_put (D := (dC, dI)) (ci := 8) (v := .int (0 : Int32)) (ty := .int) (C := "EventGraphTextModel") (T := T_Model) (N := 26) hx hb hT hin_Model ty_Model tyok_Model nm_Model hown hK hP (hD _) hS 0 mW_X rfl 23 (by decide) (hT _ wd_581) (fun _ h9 => h9) rfl (by decide +kernel) rfl rfl (Nat.le_of_ble_eq_true rfl) d_Model_order_2 (fun H locs hP _ hS => ?_)
  replace hP : va_P (dC, dI) xCl (mW dT ad w2) H := xp_conv ((mW_f_X_turns).trans (congrArg (mW dT ad) hw2.symm)) hP
  refine lv_lconst (v := (0 : Int64)) hx hb d_Model_order_5 (by decide) ?_
  refine lv_lstore_n (lv' := [(3, .long (0 : Int64)), (0, .ref (ad 0)), (1, .long a1)]) hx hb d_Model_order_6 rfl hl (Nat.le_of_ble_eq_true rfl) rfl (fun ls hl => ?_)
  refine lv_iconst (v := (-1 : Int32)) hx hb d_Model_order_7 (by decide) ?_
  refine lv_istore (lv' := [(5, .int (-1 : Int32)), (3, .long (0 : Int64)), (0, .ref (ad 0)), (1, .long a1)]) hx hb d_Model_order_8 hl (Nat.le_of_ble_eq_true rfl) rfl (fun ls hl => ?_)
  refine lv_iconst (v := (0 : Int32)) hx hb d_Model_order_10 (by decide) ?_
  refine lv_istore (lv' := [(6, .int (0 : Int32)), (5, .int (-1 : Int32)), (3, .long (0 : Int64)), (0, .ref (ad 0)), (1, .long a1)]) hx hb d_Model_order_11 hl (Nat.le_of_ble_eq_true rfl) rfl (fun ls hl => ?_)
  exact hl13 xFU a1 (0 : Int64) (-1 : Int32) (0 : Int32) w2 _ _ _ (lv_sub hl [3, 4, 2, 1, 0] rfl) hP hS hm
set_option maxHeartbeats 4000000 in
set_option maxRecDepth 100000 in
theorem c_Model_send (l : Launch) (dC : Nat → ClassId) (dI : Nat → Nat → Nat) (dT : Nat → ClassId) (ad : Nat → Nat) (hD : ∀ u, va_D (xA ad 23) (mW dT ad u)) (a1 : Int32) (a2 : Int32) (u : xS) (out : Int32) (u1 : xS) (hm : m_Model_send a1 a2 u = some (out, u1)) : Met l y_Model_send (Cond.code y_Model_send b_Model_send 6 (some .int) :: xG) (xrm 2 41) (va_Pc [.ref (ad 0), .int a1, .int a2] (xR (dC, dI) xCl (xT dT) (mW dT ad u))) (va_Qi (fun r9 (u9 : xS) => r9 = out ∧ u9 = u1) (fun u9 t => va_P (dC, dI) xCl (mW dT ad u9) t.heap) (xA ad 23)) 0 0 (xA ad 23) := by
  refine xm_rwi (Wd := mW dT ad) (cc := b_Model_send) (maxL := 6) (by decide) rfl (Nat.le_of_ble_eq_true rfl) ?_
  intro p e s m args below meth c Q ls hx hb hml hts hown hK hN hP hl hret
  have hT : ∀ w ∈ xG, w.before args s = true := fun w h => hts w (List.mem_cons_of_mem _ h)
  have hown : s.vm.findClass "EventGraphTextModel" = some m.cls := hown
  have hl : lv_has ls 6 [(0, .ref (ad 0)), (1, .int a1), (2, .int a2)] := hl
  have hS : va_S (xA ad 23) s.heap s.heap [] := va_S.rf
  have hb62 : ∀ (b1 : Int32) (b2 : Int32) (b3 : Int64) (b5 : Int32) (u : xS) (H : Heap) (locs : List Loc) (ls : Array Slot), lv_has ls 6 [(0, .ref (ad 0)), (1, .int b1), (2, .int b2), (3, .long b3), (5, .int b5)] → va_P (dC, dI) xCl (mW dT ad u) H → va_S (xA ad 23) s.heap H locs → m_Model_send_b62 b1 b2 b3 b5 u = some (out, u1) → W p l e (xrm 2 41) s m args below meth c H locs 0 0 Q (F0 m 62 ls []) := by
    intro b1 b2 b3 b5 u H locs ls hl hP hS hm
    unfold m_Model_send_b62 at hm
    refine lv_iload hx hb d_Model_send_62 (lv_at hl 4 rfl) ?_
    refine lv_bipush (v := (6 : Int32)) hx hb d_Model_send_64 (by decide) ?_
    refine lv_icmp_eq (tgt := 75) hx hb d_Model_send_66 rfl (fun h => ?_) (fun h => ?_)
    · replace hm := xi_pos h hm
      refine lv_sipush (v := (-1000 : Int32)) hx hb d_Model_send_75 (by decide) ?_
      exact hret hm hP hS d_Model_send_78
    · replace hm := xi_neg h hm
      refine lv_lload_n hx hb d_Model_send_69 rfl (lv_at hl 3 rfl) ?_
      refine lv_lconst (v := (0 : Int64)) hx hb d_Model_send_70 (by decide) ?_
      refine xl_cmp_ne (tgt := 79) hx hb d_Model_send_71 d_Model_send_72 rfl (fun h => ?_) (fun h => ?_)
      · replace hm := xi_neg h hm
        refine lv_aload_n hx hb d_Model_send_79 rfl (lv_at hl 0 rfl) ?_
        refine va_get (D := (dC, dI)) (ci := 8) (v := .ref (ad 14)) (C := "EventGraphTextModel") (T := T_Model) (N := 26) hx hb hT hin_Model hown hK hP 0 mW_X rfl 15 (by decide) (hT _ wd_573) (fun _ h9 => h9) rfl d_Model_send_80 ?_
        refine lv_iload hx hb d_Model_send_83 (lv_at hl 4 rfl) ?_
        refine lv_lload_n hx hb d_Model_send_85 rfl (lv_at hl 3 rfl) ?_
        obtain ⟨g3, hm⟩ := xg_some hm
        obtain ⟨w86, hw86, hm⟩ := xlt_some hm
        refine va_last hx hb hK hP (hD _) hS 14 1 mW_X_load rfl g3 d_Model_send_86 (fun H locs hP _ hS => ?_)
        replace hP : va_P (dC, dI) xCl (mW dT ad w86) H := xp_conv ((mW_s_X_load).trans (congrArg (mW dT ad) hw86.symm)) hP
        refine lv_aload_n hx hb d_Model_send_87 rfl (lv_at hl 0 rfl) ?_
        refine va_get (D := (dC, dI)) (ci := 8) (v := .ref (ad 15)) (C := "EventGraphTextModel") (T := T_Model) (N := 26) hx hb hT hin_Model hown hK hP 0 mW_X rfl 16 (by decide) (hT _ wd_574) (fun _ h9 => h9) rfl d_Model_send_88 ?_
        refine lv_iload hx hb d_Model_send_91 (lv_at hl 4 rfl) ?_
        refine lv_iload_n hx hb d_Model_send_93 rfl (lv_at hl 1 rfl) ?_
        obtain ⟨w94, hw94, hm⟩ := xlt_some hm
        refine va_iast hx hb hK hP (hD _) hS 15 0 mW_X_sender rfl g3 d_Model_send_94 (fun H locs hP _ hS => ?_)
        replace hP : va_P (dC, dI) xCl (mW dT ad w94) H := xp_conv ((mW_s_X_sender).trans (congrArg (mW dT ad) hw94.symm)) hP
        refine lv_aload_n hx hb d_Model_send_95 rfl (lv_at hl 0 rfl) ?_
        refine va_get (D := (dC, dI)) (ci := 8) (v := .ref (ad 16)) (C := "EventGraphTextModel") (T := T_Model) (N := 26) hx hb hT hin_Model hown hK hP 0 mW_X rfl 17 (by decide) (hT _ wd_575) (fun _ h9 => h9) rfl d_Model_send_96 ?_
        refine lv_iload hx hb d_Model_send_99 (lv_at hl 4 rfl) ?_
        refine lv_iload_n hx hb d_Model_send_101 rfl (lv_at hl 2 rfl) ?_
        obtain ⟨w102, hw102, hm⟩ := xlt_some hm
        refine va_iast hx hb hK hP (hD _) hS 16 0 mW_X_receiver rfl g3 d_Model_send_102 (fun H locs hP _ hS => ?_)
        replace hP : va_P (dC, dI) xCl (mW dT ad w102) H := xp_conv ((mW_s_X_receiver).trans (congrArg (mW dT ad) hw102.symm)) hP
        refine lv_aload_n hx hb d_Model_send_103 rfl (lv_at hl 0 rfl) ?_
        refine va_get (D := (dC, dI)) (ci := 8) (v := .ref (ad 13)) (C := "EventGraphTextModel") (T := T_Model) (N := 26) hx hb hT hin_Model hown hK hP 0 mW_X rfl 14 (by decide) (hT _ wd_572) (fun _ h9 => h9) rfl d_Model_send_104 ?_
        refine lv_iconst (v := (3 : Int32)) hx hb d_Model_send_107 (by decide) ?_
        refine lv_iload_n hx hb d_Model_send_108 rfl (lv_at hl 1 rfl) ?_
        refine lv_imul hx hb d_Model_send_109 ?_
        refine lv_iload_n hx hb d_Model_send_110 rfl (lv_at hl 2 rfl) ?_
        refine lv_iadd hx hb d_Model_send_111 ?_
        refine lv_dup2_11 hx hb d_Model_send_112 rfl rfl ?_
        obtain ⟨g4, hm⟩ := xg_some hm
        refine va_lald hx hb hK hP 13 1 mW_X_thought rfl g4 d_Model_send_113 ?_
        refine lv_aload_n hx hb d_Model_send_114 rfl (lv_at hl 0 rfl) ?_
        refine va_get (D := (dC, dI)) (ci := 8) (v := .ref (ad 12)) (C := "EventGraphTextModel") (T := T_Model) (N := 26) hx hb hT hin_Model hown hK hP 0 mW_X rfl 13 (by decide) (hT _ wd_571) (fun _ h9 => h9) rfl d_Model_send_115 ?_
        refine lv_iload_n hx hb d_Model_send_118 rfl (lv_at hl 1 rfl) ?_
        obtain ⟨g5, hm⟩ := xg_some hm
        refine va_lald hx hb hK hP 12 1 mW_X_graph rfl g5 d_Model_send_119 ?_
        refine lv_lor hx hb d_Model_send_120 ?_
        obtain ⟨w121, hw121, hm⟩ := xlt_some hm
        refine va_last hx hb hK hP (hD _) hS 13 1 mW_X_thought rfl g4 d_Model_send_121 (fun H locs hP _ hS => ?_)
        replace hP : va_P (dC, dI) xCl (mW dT ad w121) H := xp_conv ((mW_s_X_thought).trans (congrArg (mW dT ad) hw121.symm)) hP
        refine lv_iload hx hb d_Model_send_122 (lv_at hl 4 rfl) ?_
        exact hret hm hP hS d_Model_send_124
      · replace hm := xi_pos h hm
        refine lv_sipush (v := (-1000 : Int32)) hx hb d_Model_send_75 (by decide) ?_
        exact hret hm hP hS d_Model_send_78
  have hs37 : ∀ (k37 : Int32 → Int32 → Int64 → Int32 → xS → Option (Int32 × xS)) (hk37 : ∀ (b1 : Int32) (b2 : Int32) (b3 : Int64) (b5 : Int32) (u : xS) (H : Heap) (locs : List Loc) (ls : Array Slot), lv_has ls 6 [(0, .ref (ad 0)), (1, .int b1), (2, .int b2), (3, .long b3), (5, .int b5)] → va_P (dC, dI) xCl (mW dT ad u) H → va_S (xA ad 23) s.heap H locs → k37 b1 b2 b3 b5 u = some (out, u1) → W p l e (xrm 2 41) s m args below meth c H locs 0 0 Q (F0 m 37 ls [])), ∀ (b1 : Int32) (b2 : Int32) (b3 : Int64) (b5 : Int32) (u : xS) (H : Heap) (locs : List Loc) (ls : Array Slot), lv_has ls 6 [(0, .ref (ad 0)), (1, .int b1), (2, .int b2), (3, .long b3), (5, .int b5)] → va_P (dC, dI) xCl (mW dT ad u) H → va_S (xA ad 23) s.heap H locs → m_Model_send_s37 k37 b1 b2 b3 b5 u = some (out, u1) → W p l e (xrm 2 41) s m args below meth c H locs 0 0 Q (F0 m 37 ls []) := by
    intro k37 hk37 b1 b2 b3 b5 u H locs ls hl hP hS hm
    unfold m_Model_send_s37 at hm
    refine lv_iload hx hb d_Model_send_37 (lv_at hl 4 rfl) ?_
    refine lv_bipush (v := (6 : Int32)) hx hb d_Model_send_39 (by decide) ?_
    refine lv_icmp_ge (tgt := 62) hx hb d_Model_send_41 rfl (fun h => ?_) (fun h => ?_)
    · replace hm := xi_pos h hm
      exact hb62 b1 b2 b3 b5 u _ _ _ (lv_sub hl [0, 1, 2, 3, 4] rfl) hP hS hm
    · replace hm := xi_neg h hm
      refine lv_aload_n hx hb d_Model_send_44 rfl (lv_at hl 0 rfl) ?_
      refine va_get (D := (dC, dI)) (ci := 8) (v := .ref (ad 14)) (C := "EventGraphTextModel") (T := T_Model) (N := 26) hx hb hT hin_Model hown hK hP 0 mW_X rfl 15 (by decide) (hT _ wd_573) (fun _ h9 => h9) rfl d_Model_send_45 ?_
      refine lv_iload hx hb d_Model_send_48 (lv_at hl 4 rfl) ?_
      obtain ⟨g6, hm⟩ := xg_some hm
      refine va_lald hx hb hK hP 14 1 mW_X_load rfl g6 d_Model_send_50 ?_
      refine lv_lconst (v := (0 : Int64)) hx hb d_Model_send_51 (by decide) ?_
      refine xl_cmp_eq (tgt := 62) hx hb d_Model_send_52 d_Model_send_53 rfl (fun h => ?_) (fun h => ?_)
      · replace hm := xi_pos h hm
        exact hb62 b1 b2 b3 b5 u _ _ _ (lv_sub hl [0, 1, 2, 3, 4] rfl) hP hS hm
      · replace hm := xi_neg h hm
        refine lv_iinc (k := 4) (v := (b5 + (1 : Int32))) (lv' := [(5, .int (b5 + (1 : Int32))), (0, .ref (ad 0)), (1, .int b1), (2, .int b2), (3, .long b3)]) hx hb d_Model_send_56 hl rfl rfl (Nat.le_of_ble_eq_true rfl) rfl (fun ls hl => ?_)
        refine lv_goto (tgt := 37) hx hb d_Model_send_59 rfl ?_
        exact hk37 b1 b2 b3 (b5 + (1 : Int32)) u _ _ _ (lv_sub hl [1, 2, 3, 4, 0] rfl) hP hS hm
  have hl37 : ∀ (fu : Nat), ∀ (b1 : Int32) (b2 : Int32) (b3 : Int64) (b5 : Int32) (u : xS) (H : Heap) (locs : List Loc) (ls : Array Slot), lv_has ls 6 [(0, .ref (ad 0)), (1, .int b1), (2, .int b2), (3, .long b3), (5, .int b5)] → va_P (dC, dI) xCl (mW dT ad u) H → va_S (xA ad 23) s.heap H locs → m_Model_send_l37 fu b1 b2 b3 b5 u = some (out, u1) → W p l e (xrm 2 41) s m args below meth c H locs 0 0 Q (F0 m 37 ls []) := by
    intro fu
    induction fu with
    | zero => intro b1 b2 b3 b5 u H locs ls hl hP hS hm; exact absurd hm (fun z => by cases z)
    | succ n ih => intro b1 b2 b3 b5 u H locs ls hl hP hS hm; exact hs37 (m_Model_send_l37 n) ih b1 b2 b3 b5 u H locs ls hl hP hS hm
  unfold m_Model_send at hm
  refine lv_iload_n hx hb d_Model_send_0 rfl (lv_at hl 1 rfl) ?_
  refine lv_iload_n hx hb d_Model_send_1 rfl (lv_at hl 2 rfl) ?_
  obtain ⟨r2, h2, hm⟩ := xb1_some hm
  refine xc_i (va_runS (As := [.int a1, .int a2]) (rest := []) ⟨hx, hb, hml, hown, hts⟩ (c_Model_wrongPair l a1 a2 r2 h2) (va_cwS 2 hts (xgS wd_704 wd_705 wd_9 wd_706) rfl rfl rfl pd_Model_wrongPair.2 ⟨Nat.le_of_ble_eq_true rfl, Nat.le_of_ble_eq_true rfl⟩) xpreS0 rfl rfl hl.1 rfl (lv_room (Nat.le_of_ble_eq_true rfl)) d_Model_send_2 ⟨Nat.le_of_ble_eq_true rfl, Nat.le_of_ble_eq_true rfl⟩) hP hS (fun H locs hP hS => ?_)
  refine lv_if_eq (tgt := 12) hx hb d_Model_send_5 rfl (fun h => ?_) (fun h => ?_)
  · replace hm := xi_pos h hm
    refine lv_aload_n hx hb d_Model_send_12 rfl (lv_at hl 0 rfl) ?_
    refine va_get (D := (dC, dI)) (ci := 8) (v := .ref (ad 12)) (C := "EventGraphTextModel") (T := T_Model) (N := 26) hx hb hT hin_Model hown hK hP 0 mW_X rfl 13 (by decide) (hT _ wd_571) (fun _ h9 => h9) rfl d_Model_send_13 ?_
    refine lv_iload_n hx hb d_Model_send_16 rfl (lv_at hl 1 rfl) ?_
    obtain ⟨g1, hm⟩ := xg_some hm
    refine va_lald hx hb hK hP 12 1 mW_X_graph rfl g1 d_Model_send_17 ?_
    refine lv_aload_n hx hb d_Model_send_18 rfl (lv_at hl 0 rfl) ?_
    refine va_get (D := (dC, dI)) (ci := 8) (v := .ref (ad 13)) (C := "EventGraphTextModel") (T := T_Model) (N := 26) hx hb hT hin_Model hown hK hP 0 mW_X rfl 14 (by decide) (hT _ wd_572) (fun _ h9 => h9) rfl d_Model_send_19 ?_
    refine lv_iconst (v := (3 : Int32)) hx hb d_Model_send_22 (by decide) ?_
    refine lv_iload_n hx hb d_Model_send_23 rfl (lv_at hl 1 rfl) ?_
    refine lv_imul hx hb d_Model_send_24 ?_
    refine lv_iload_n hx hb d_Model_send_25 rfl (lv_at hl 2 rfl) ?_
    refine lv_iadd hx hb d_Model_send_26 ?_
    obtain ⟨g2, hm⟩ := xg_some hm
    refine va_lald hx hb hK hP 13 1 mW_X_thought rfl g2 d_Model_send_27 ?_
    refine lv_ldc2 (v := (-1 : Int64)) hx hb hown (hT _ wd_678) d_Model_send_28 ?_
    refine lv_lxor hx hb d_Model_send_31 ?_
    refine lv_land hx hb d_Model_send_32 ?_
    refine lv_lstore_n (lv' := [(3, .long ((xs_L u 2 a1.toNatClampNeg) &&& ((xs_L u 3 (((3 : Int32) * a1) + a2).toNatClampNeg) ^^^ (-1 : Int64)))), (0, .ref (ad 0)), (1, .int a1), (2, .int a2)]) hx hb d_Model_send_33 rfl hl (Nat.le_of_ble_eq_true rfl) rfl (fun ls hl => ?_)
    refine lv_iconst (v := (0 : Int32)) hx hb d_Model_send_34 (by decide) ?_
    refine lv_istore (lv' := [(5, .int (0 : Int32)), (3, .long ((xs_L u 2 a1.toNatClampNeg) &&& ((xs_L u 3 (((3 : Int32) * a1) + a2).toNatClampNeg) ^^^ (-1 : Int64)))), (0, .ref (ad 0)), (1, .int a1), (2, .int a2)]) hx hb d_Model_send_35 hl (Nat.le_of_ble_eq_true rfl) rfl (fun ls hl => ?_)
    exact hl37 xFU a1 a2 ((xs_L u 2 a1.toNatClampNeg) &&& ((xs_L u 3 (((3 : Int32) * a1) + a2).toNatClampNeg) ^^^ (-1 : Int64))) (0 : Int32) u _ _ _ (lv_sub hl [2, 3, 4, 1, 0] rfl) hP hS hm
  · replace hm := xi_neg h hm
    refine lv_sipush (v := (-1000 : Int32)) hx hb d_Model_send_8 (by decide) ?_
    exact hret hm hP hS d_Model_send_11
set_option maxHeartbeats 4000000 in
set_option maxRecDepth 100000 in
theorem c_Model_none (l : Launch) (dC : Nat → ClassId) (dI : Nat → Nat → Nat) (dT : Nat → ClassId) (ad : Nat → Nat) (a1 : Int32) (u : xS) (out : Int32) (hm : m_Model_none a1 u = some out) : Met l y_Model_none (Cond.code y_Model_none b_Model_none 2 (some .boolean) :: xG) (xrm 0 0) (va_Pc [.ref (ad 0), .int a1] (xR (dC, dI) xCl (xT dT) (mW dT ad u))) (va_Qi (fun r9 (_ : Unit) => r9 = out) (fun _ _ => True) xN) 0 0 xN := by
  refine xm_roz (cc := b_Model_none) (maxL := 2) (by decide) rfl (Nat.le_of_ble_eq_true rfl) ?_
  intro p e s m args below meth c Q ls hx hb hml hts hown hK hN hP hl hret
  have hT : ∀ w ∈ xG, w.before args s = true := fun w h => hts w (List.mem_cons_of_mem _ h)
  have hown : s.vm.findClass "EventGraphTextModel" = some m.cls := hown
  have hl : lv_has ls 2 [(0, .ref (ad 0)), (1, .int a1)] := hl
  have hS : va_S xN s.heap s.heap [] := va_S.rf
  unfold m_Model_none at hm
  refine lv_iload_n hx hb d_Model_none_0 rfl (lv_at hl 1 rfl) ?_
  refine lv_if_lt (tgt := 20) hx hb d_Model_none_1 rfl (fun h => ?_) (fun h => ?_)
  · replace hm := xi_pos h hm
    refine lv_iconst (v := (1 : Int32)) hx hb d_Model_none_20 (by decide) ?_
    refine lv_goto (tgt := 25) hx hb d_Model_none_21 rfl ?_
    exact hret hm rfl hS d_Model_none_25
  · replace hm := xi_neg h hm
    refine lv_iload_n hx hb d_Model_none_4 rfl (lv_at hl 1 rfl) ?_
    refine lv_iconst (v := (5 : Int32)) hx hb d_Model_none_5 (by decide) ?_
    refine lv_icmp_gt (tgt := 20) hx hb d_Model_none_6 rfl (fun h => ?_) (fun h => ?_)
    · replace hm := xi_pos h hm
      refine lv_iconst (v := (1 : Int32)) hx hb d_Model_none_20 (by decide) ?_
      refine lv_goto (tgt := 25) hx hb d_Model_none_21 rfl ?_
      exact hret hm rfl hS d_Model_none_25
    · replace hm := xi_neg h hm
      refine lv_aload_n hx hb d_Model_none_9 rfl (lv_at hl 0 rfl) ?_
      refine va_get (D := (dC, dI)) (ci := 8) (v := .ref (ad 14)) (C := "EventGraphTextModel") (T := T_Model) (N := 26) hx hb hT hin_Model hown hK hP 0 mW_X rfl 15 (by decide) (hT _ wd_573) (fun _ h9 => h9) rfl d_Model_none_10 ?_
      refine lv_iload_n hx hb d_Model_none_13 rfl (lv_at hl 1 rfl) ?_
      obtain ⟨g1, hm⟩ := xg_some hm
      refine va_lald hx hb hK hP 14 1 mW_X_load rfl g1 d_Model_none_14 ?_
      refine lv_lconst (v := (0 : Int64)) hx hb d_Model_none_15 (by decide) ?_
      refine xl_cmp_ne (tgt := 24) hx hb d_Model_none_16 d_Model_none_17 rfl (fun h => ?_) (fun h => ?_)
      · replace hm := xi_neg h hm
        refine lv_iconst (v := (0 : Int32)) hx hb d_Model_none_24 (by decide) ?_
        exact hret hm rfl hS d_Model_none_25
      · replace hm := xi_pos h hm
        refine lv_iconst (v := (1 : Int32)) hx hb d_Model_none_20 (by decide) ?_
        refine lv_goto (tgt := 25) hx hb d_Model_none_21 rfl ?_
        exact hret hm rfl hS d_Model_none_25
set_option maxHeartbeats 4000000 in
set_option maxRecDepth 100000 in
theorem c_Model_discard (l : Launch) (dC : Nat → ClassId) (dI : Nat → Nat → Nat) (dT : Nat → ClassId) (ad : Nat → Nat) (hD : ∀ u, va_D (xA ad 23) (mW dT ad u)) (a1 : Int32) (u : xS) (out : Int32) (u1 : xS) (hm : m_Model_discard a1 u = some (out, u1)) : Met l y_Model_discard (Cond.code y_Model_discard b_Model_discard 2 (some .boolean) :: xG) (xrm 1 21) (va_Pc [.ref (ad 0), .int a1] (xR (dC, dI) xCl (xT dT) (mW dT ad u))) (va_Qi (fun r9 (u9 : xS) => r9 = out ∧ u9 = u1) (fun u9 t => va_P (dC, dI) xCl (mW dT ad u9) t.heap) (xA ad 23)) 0 0 (xA ad 23) := by
  refine xm_rwz (Wd := mW dT ad) (cc := b_Model_discard) (maxL := 2) (by decide) rfl (Nat.le_of_ble_eq_true rfl) ?_
  intro p e s m args below meth c Q ls hx hb hml hts hown hK hN hP hl hret
  have hT : ∀ w ∈ xG, w.before args s = true := fun w h => hts w (List.mem_cons_of_mem _ h)
  have hown : s.vm.findClass "EventGraphTextModel" = some m.cls := hown
  have hl : lv_has ls 2 [(0, .ref (ad 0)), (1, .int a1)] := hl
  have hS : va_S (xA ad 23) s.heap s.heap [] := va_S.rf
  unfold m_Model_discard at hm
  refine lv_aload_n hx hb d_Model_discard_0 rfl (lv_at hl 0 rfl) ?_
  refine lv_iload_n hx hb d_Model_discard_1 rfl (lv_at hl 1 rfl) ?_
  obtain ⟨r2, h2, hm⟩ := xb1_some hm
  refine xc_i (va_runV (C := "EventGraphTextModel") (As := [.int a1]) (rest := []) ⟨hx, hb, hml, hown, hts⟩ (c_Model_none l dC dI dT ad a1 u r2 h2) (cwV 1 hts (xgV wd_711 wd_713 wds_27 wd_9 wd_714) rfl rfl rfl pd_Model_none ⟨Nat.le_of_ble_eq_true rfl, Nat.le_of_ble_eq_true rfl⟩) (xpreV (C := "EventGraphTextModel") (T := T_Model) (N := 26) hP hK hN rfl mW_X) rfl rfl hl.1 rfl (lv_room (Nat.le_of_ble_eq_true rfl)) d_Model_discard_2 ⟨Nat.le_of_ble_eq_true rfl, Nat.le_of_ble_eq_true rfl⟩) hP hS (fun H locs hP hS => ?_)
  refine lv_if_eq (tgt := 10) hx hb d_Model_discard_5 rfl (fun h => ?_) (fun h => ?_)
  · replace hm := xi_pos h hm
    refine lv_aload_n hx hb d_Model_discard_10 rfl (lv_at hl 0 rfl) ?_
    refine va_get (D := (dC, dI)) (ci := 8) (v := .ref (ad 14)) (C := "EventGraphTextModel") (T := T_Model) (N := 26) hx hb hT hin_Model hown hK hP 0 mW_X rfl 15 (by decide) (hT _ wd_573) (fun _ h9 => h9) rfl d_Model_discard_11 ?_
    refine lv_iload_n hx hb d_Model_discard_14 rfl (lv_at hl 1 rfl) ?_
    refine lv_lconst (v := (0 : Int64)) hx hb d_Model_discard_15 (by decide) ?_
    obtain ⟨g1, hm⟩ := xg_some hm
    obtain ⟨w16, hw16, hm⟩ := xlt_some hm
    refine va_last hx hb hK hP (hD _) hS 14 1 mW_X_load rfl g1 d_Model_discard_16 (fun H locs hP _ hS => ?_)
    replace hP : va_P (dC, dI) xCl (mW dT ad w16) H := xp_conv ((mW_s_X_load).trans (congrArg (mW dT ad) hw16.symm)) hP
    refine lv_iconst (v := (1 : Int32)) hx hb d_Model_discard_17 (by decide) ?_
    exact hret hm rfl hP hS d_Model_discard_18
  · replace hm := xi_neg h hm
    refine lv_iconst (v := (0 : Int32)) hx hb d_Model_discard_8 (by decide) ?_
    exact hret hm rfl hP hS d_Model_discard_9
