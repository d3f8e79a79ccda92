set_option maxHeartbeats 4000000 in
set_option maxRecDepth 100000 in
theorem c_Model_whole (l : Launch) (dC : Nat → ClassId) (dI : Nat → Nat → Nat) (dT : Nat → ClassId) (ad : Nat → Nat) (a1 : Int64) (u : xS) (out : Int64) (hm : m_Model_whole a1 u = some out) : Met l y_Model_whole (Cond.code y_Model_whole b_Model_whole 6 (some .long) :: xG) (xrm 1 22) (va_Pc [.ref (ad 0), .long a1] (xR (dC, dI) xCl (xT dT) (mW dT ad u))) (va_Ql (fun r9 (_ : Unit) => r9 = out) (fun _ _ => True) xN) 0 0 xN := by
  refine xm_roj (cc := b_Model_whole) (maxL := 6) (by decide) rfl (Nat.le_of_ble_eq_true rfl) ?_
  intro p e s m args below meth c Q ls hx hb hml hts hown hK hN hP hl hret
  have hT : ∀ w ∈ xG, w.before args s = true := fun w h => hts w (List.mem_cons_of_mem _ h)
  have hown : s.vm.findClass "EventGraphTextModel" = some m.cls := hown
  have hl : lv_has ls 6 [(0, .ref (ad 0)), (1, .long a1)] := hl
  have hS : va_S xN s.heap s.heap [] := va_S.rf
  have hs5 : ∀ (k5 : Int64 → Int64 → Int32 → xS → Option Int64) (hk5 : ∀ (b1 : Int64) (b3 : Int64) (b5 : Int32) (H : Heap) (locs : List Loc) (ls : Array Slot), lv_has ls 6 [(0, .ref (ad 0)), (1, .long b1), (3, .long b3), (5, .int b5)] → va_P (dC, dI) xCl (mW dT ad u) H → va_S xN s.heap H locs → k5 b1 b3 b5 u = some out → W p l e (xrm 1 22) s m args below meth c H locs 0 0 Q (F0 m 5 ls [])), ∀ (b1 : Int64) (b3 : Int64) (b5 : Int32) (H : Heap) (locs : List Loc) (ls : Array Slot), lv_has ls 6 [(0, .ref (ad 0)), (1, .long b1), (3, .long b3), (5, .int b5)] → va_P (dC, dI) xCl (mW dT ad u) H → va_S xN s.heap H locs → m_Model_whole_s5 k5 b1 b3 b5 u = some out → W p l e (xrm 1 22) s m args below meth c H locs 0 0 Q (F0 m 5 ls []) := by
    intro k5 hk5 b1 b3 b5 H locs ls hl hP hS hm
    unfold m_Model_whole_s5 at hm
    refine lv_iload hx hb d_Model_whole_5 (lv_at hl 3 rfl) ?_
    refine lv_aload_n hx hb d_Model_whole_7 rfl (lv_at hl 0 rfl) ?_
    refine va_get (D := (dC, dI)) (ci := 8) (v := .int (xs_i u 0)) (C := "EventGraphTextModel") (T := T_Model) (N := 26) hx hb hT hin_Model hown hK hP 0 mW_X rfl 0 (by decide) (hT _ wd_558) (fun _ h9 => h9) rfl d_Model_whole_8 ?_
    refine lv_icmp_ge (tgt := 43) hx hb d_Model_whole_11 rfl (fun h => ?_) (fun h => ?_)
    · replace hm := xi_pos h hm
      refine lv_lload_n hx hb d_Model_whole_43 rfl (lv_at hl 2 rfl) ?_
      exact hret hm hS d_Model_whole_44
    · replace hm := xi_neg h hm
      refine lv_lload_n hx hb d_Model_whole_14 rfl (lv_at hl 2 rfl) ?_
      refine lv_lload_n hx hb d_Model_whole_15 rfl (lv_at hl 1 rfl) ?_
      refine lv_iload hx hb d_Model_whole_16 (lv_at hl 3 rfl) ?_
      obtain ⟨r18, h18, hm⟩ := xb1_some hm
      refine xc_i (va_runS (As := [.long b1, .int b5]) (rest := [.long b3]) ⟨hx, hb, hml, hown, hts⟩ (c_Model_in l b1 b5 r18 h18) (va_cwS 2 hts (xgS wd_656 wd_657 wd_9 wd_658) rfl rfl rfl pd_Model_in.2 ⟨Nat.le_of_ble_eq_true rfl, Nat.le_of_ble_eq_true rfl⟩) xpreS0 rfl rfl hl.1 rfl (lv_room (Nat.le_of_ble_eq_true rfl)) d_Model_whole_18 ⟨Nat.le_of_ble_eq_true rfl, Nat.le_of_ble_eq_true rfl⟩) hP hS (fun H locs hP hS => ?_)
      refine lv_if_eq (tgt := 34) hx hb d_Model_whole_21 rfl (fun h => ?_) (fun h => ?_)
      · replace hm := xi_pos h hm
        refine lv_lconst (v := (0 : Int64)) hx hb d_Model_whole_34 (by decide) ?_
        refine lv_lor hx hb d_Model_whole_35 ?_
        refine lv_lstore_n (lv' := [(3, .long (b3 ||| (0 : Int64))), (0, .ref (ad 0)), (1, .long b1), (5, .int b5)]) hx hb d_Model_whole_36 rfl hl (Nat.le_of_ble_eq_true rfl) rfl (fun ls hl => ?_)
        refine lv_iinc (k := 3) (v := (b5 + (1 : Int32))) (lv' := [(5, .int (b5 + (1 : Int32))), (3, .long (b3 ||| (0 : Int64))), (0, .ref (ad 0)), (1, .long b1)]) hx hb d_Model_whole_37 hl rfl rfl (Nat.le_of_ble_eq_true rfl) rfl (fun ls hl => ?_)
        refine lv_goto (tgt := 5) hx hb d_Model_whole_40 rfl ?_
        exact hk5 b1 (b3 ||| (0 : Int64)) (b5 + (1 : Int32)) _ _ _ (lv_sub hl [2, 3, 1, 0] rfl) hP hS hm
      · replace hm := xi_neg h hm
        refine lv_aload_n hx hb d_Model_whole_24 rfl (lv_at hl 0 rfl) ?_
        refine va_get (D := (dC, dI)) (ci := 8) (v := .ref (ad 6)) (C := "EventGraphTextModel") (T := T_Model) (N := 26) hx hb hT hin_Model hown hK hP 0 mW_X rfl 6 (by decide) (hT _ wd_564) (fun _ h9 => h9) rfl d_Model_whole_25 ?_
        refine lv_iload hx hb d_Model_whole_28 (lv_at hl 3 rfl) ?_
        obtain ⟨g1, hm⟩ := xg_some hm
        refine va_lald hx hb hK hP 6 1 mW_X_earlier rfl g1 d_Model_whole_30 ?_
        refine lv_goto (tgt := 35) hx hb d_Model_whole_31 rfl ?_
        refine lv_lor hx hb d_Model_whole_35 ?_
        refine lv_lstore_n (lv' := [(3, .long (b3 ||| (xs_L u 0 b5.toNatClampNeg))), (0, .ref (ad 0)), (1, .long b1), (5, .int b5)]) hx hb d_Model_whole_36 rfl hl (Nat.le_of_ble_eq_true rfl) rfl (fun ls hl => ?_)
        refine lv_iinc (k := 3) (v := (b5 + (1 : Int32))) (lv' := [(5, .int (b5 + (1 : Int32))), (3, .long (b3 ||| (xs_L u 0 b5.toNatClampNeg))), (0, .ref (ad 0)), (1, .long b1)]) hx hb d_Model_whole_37 hl rfl rfl (Nat.le_of_ble_eq_true rfl) rfl (fun ls hl => ?_)
        refine lv_goto (tgt := 5) hx hb d_Model_whole_40 rfl ?_
        exact hk5 b1 (b3 ||| (xs_L u 0 b5.toNatClampNeg)) (b5 + (1 : Int32)) _ _ _ (lv_sub hl [2, 3, 1, 0] rfl) hP hS hm
  have hl5 : ∀ (fu : Nat), ∀ (b1 : Int64) (b3 : Int64) (b5 : Int32) (H : Heap) (locs : List Loc) (ls : Array Slot), lv_has ls 6 [(0, .ref (ad 0)), (1, .long b1), (3, .long b3), (5, .int b5)] → va_P (dC, dI) xCl (mW dT ad u) H → va_S xN s.heap H locs → m_Model_whole_l5 fu b1 b3 b5 u = some out → W p l e (xrm 1 22) s m args below meth c H locs 0 0 Q (F0 m 5 ls []) := by
    intro fu
    induction fu with
    | zero => intro b1 b3 b5 H locs ls hl hP hS hm; exact absurd hm (fun z => by cases z)
    | succ n ih => intro b1 b3 b5 H locs ls hl hP hS hm; exact hs5 (m_Model_whole_l5 n) ih b1 b3 b5 H locs ls hl hP hS hm
  unfold m_Model_whole at hm
  refine lv_lload_n hx hb d_Model_whole_0 rfl (lv_at hl 1 rfl) ?_
  refine lv_lstore_n (lv' := [(3, .long a1), (0, .ref (ad 0)), (1, .long a1)]) hx hb d_Model_whole_1 rfl hl (Nat.le_of_ble_eq_true rfl) rfl (fun ls hl => ?_)
  refine lv_iconst (v := (0 : Int32)) hx hb d_Model_whole_2 (by decide) ?_
  refine lv_istore (lv' := [(5, .int (0 : Int32)), (3, .long a1), (0, .ref (ad 0)), (1, .long a1)]) hx hb d_Model_whole_3 hl (Nat.le_of_ble_eq_true rfl) rfl (fun ls hl => ?_)
  exact hl5 xFU a1 a1 (0 : Int32) _ _ _ (lv_sub hl [2, 3, 1, 0] rfl) hP hS hm
set_option maxHeartbeats 4000000 in
set_option maxRecDepth 100000 in
theorem c_Model_believed (l : Launch) (dC : Nat → ClassId) (dI : Nat → Nat → Nat) (dT : Nat → ClassId) (ad : Nat → Nat) (a1 : Int32) (a2 : Int32) (u : xS) (out : Int32) (hm : m_Model_believed a1 a2 u = some out) : Met l y_Model_believed (Cond.code y_Model_believed b_Model_believed 3 (some .int) :: xG) (xrm 2 45) (va_Pc [.ref (ad 0), .int a1, .int a2] (xR (dC, dI) xCl (xT dT) (mW dT ad u))) (va_Qi (fun r9 (_ : Unit) => r9 = out) (fun _ _ => True) xN) 0 0 xN := by
  refine xm_roi (cc := b_Model_believed) (maxL := 3) (by decide) rfl (Nat.le_of_ble_eq_true rfl) ?_
  intro p e s m args below meth c Q ls hx hb hml hts hown hK hN hP hl hret
  have hT : ∀ w ∈ xG, w.before args s = true := fun w h => hts w (List.mem_cons_of_mem _ h)
  have hown : s.vm.findClass "EventGraphTextModel" = some m.cls := hown
  have hl : lv_has ls 3 [(0, .ref (ad 0)), (1, .int a1), (2, .int a2)] := hl
  have hS : va_S xN s.heap s.heap [] := va_S.rf
  unfold m_Model_believed at hm
  refine lv_iload_n hx hb d_Model_believed_0 rfl (lv_at hl 1 rfl) ?_
  refine lv_iload_n hx hb d_Model_believed_1 rfl (lv_at hl 2 rfl) ?_
  obtain ⟨r2, h2, hm⟩ := xb1_some hm
  refine xc_i (va_runS (As := [.int a1, .int a2]) (rest := []) ⟨hx, hb, hml, hown, hts⟩ (c_Model_wrongPair l a1 a2 r2 h2) (va_cwS 2 hts (xgS wd_704 wd_705 wd_9 wd_706) rfl rfl rfl pd_Model_wrongPair.2 ⟨Nat.le_of_ble_eq_true rfl, Nat.le_of_ble_eq_true rfl⟩) xpreS0 rfl rfl hl.1 rfl (lv_room (Nat.le_of_ble_eq_true rfl)) d_Model_believed_2 ⟨Nat.le_of_ble_eq_true rfl, Nat.le_of_ble_eq_true rfl⟩) hP hS (fun H locs hP hS => ?_)
  refine lv_if_eq (tgt := 14) hx hb d_Model_believed_5 rfl (fun h => ?_) (fun h => ?_)
  · replace hm := xi_pos h hm
    refine lv_aload_n hx hb d_Model_believed_14 rfl (lv_at hl 0 rfl) ?_
    refine va_get (D := (dC, dI)) (ci := 8) (v := .ref (ad 13)) (C := "EventGraphTextModel") (T := T_Model) (N := 26) hx hb hT hin_Model hown hK hP 0 mW_X rfl 14 (by decide) (hT _ wd_572) (fun _ h9 => h9) rfl d_Model_believed_15 ?_
    refine lv_iconst (v := (3 : Int32)) hx hb d_Model_believed_18 (by decide) ?_
    refine lv_iload_n hx hb d_Model_believed_19 rfl (lv_at hl 1 rfl) ?_
    refine lv_imul hx hb d_Model_believed_20 ?_
    refine lv_iload_n hx hb d_Model_believed_21 rfl (lv_at hl 2 rfl) ?_
    refine lv_iadd hx hb d_Model_believed_22 ?_
    obtain ⟨g1, hm⟩ := xg_some hm
    refine va_lald hx hb hK hP 13 1 mW_X_thought rfl g1 d_Model_believed_23 ?_
    obtain ⟨r24, h24, hm⟩ := xb1_some hm
    refine xc_i (va_runS (As := [.long (xs_L u 3 (((3 : Int32) * a1) + a2).toNatClampNeg)]) (rest := []) ⟨hx, hb, hml, hown, hts⟩ (c_Model_many l (xs_L u 3 (((3 : Int32) * a1) + a2).toNatClampNeg) r24 h24) (va_cwS 1 hts (xgS wd_727 wd_728 wd_9 wd_729) rfl rfl rfl pd_Model_many.2 ⟨Nat.le_of_ble_eq_true rfl, Nat.le_of_ble_eq_true rfl⟩) xpreS0 rfl rfl hl.1 rfl (lv_room (Nat.le_of_ble_eq_true rfl)) d_Model_believed_24 ⟨Nat.le_of_ble_eq_true rfl, Nat.le_of_ble_eq_true rfl⟩) hP hS (fun H locs hP hS => ?_)
    exact hret hm hS d_Model_believed_27
  · replace hm := xi_neg h hm
    refine lv_sipush (v := (-1000 : Int32)) hx hb d_Model_believed_8 (by decide) ?_
    refine lv_goto (tgt := 27) hx hb d_Model_believed_11 rfl ?_
    exact hret hm hS d_Model_believed_27
set_option maxHeartbeats 4000000 in
set_option maxRecDepth 100000 in
theorem c_Model_hear (l : Launch) (dC : Nat → ClassId) (dI : Nat → Nat → Nat) (dT : Nat → ClassId) (ad : Nat → Nat) (hD : ∀ u, va_D (xA ad 23) (mW dT ad u)) (a1 : Int32) (a2 : Int32) (u : xS) (out : Int32) (u1 : xS) (hm : m_Model_hear a1 a2 u = some (out, u1)) : Met l y_Model_hear (Cond.code y_Model_hear b_Model_hear 5 (some .int) :: xG) (xrm 3 67) (va_Pc [.ref (ad 0), .int a1, .int a2] (xR (dC, dI) xCl (xT dT) (mW dT ad u))) (va_Qi (fun r9 (u9 : xS) => r9 = out ∧ u9 = u1) (fun u9 t => va_P (dC, dI) xCl (mW dT ad u9) t.heap) (xA ad 23)) 0 0 (xA ad 23) := by
  refine xm_rwi (Wd := mW dT ad) (cc := b_Model_hear) (maxL := 5) (by decide) rfl (Nat.le_of_ble_eq_true rfl) ?_
  intro p e s m args below meth c Q ls hx hb hml hts hown hK hN hP hl hret
  have hT : ∀ w ∈ xG, w.before args s = true := fun w h => hts w (List.mem_cons_of_mem _ h)
  have hown : s.vm.findClass "EventGraphTextModel" = some m.cls := hown
  have hl : lv_has ls 5 [(0, .ref (ad 0)), (1, .int a1), (2, .int a2)] := hl
  have hS : va_S (xA ad 23) s.heap s.heap [] := va_S.rf
  unfold m_Model_hear at hm
  refine lv_iload_n hx hb d_Model_hear_0 rfl (lv_at hl 1 rfl) ?_
  refine lv_iload_n hx hb d_Model_hear_1 rfl (lv_at hl 2 rfl) ?_
  obtain ⟨r2, h2, hm⟩ := xb1_some hm
  refine xc_i (va_runS (As := [.int a1, .int a2]) (rest := []) ⟨hx, hb, hml, hown, hts⟩ (c_Model_wrongPair l a1 a2 r2 h2) (va_cwS 2 hts (xgS wd_704 wd_705 wd_9 wd_706) rfl rfl rfl pd_Model_wrongPair.2 ⟨Nat.le_of_ble_eq_true rfl, Nat.le_of_ble_eq_true rfl⟩) xpreS0 rfl rfl hl.1 rfl (lv_room (Nat.le_of_ble_eq_true rfl)) d_Model_hear_2 ⟨Nat.le_of_ble_eq_true rfl, Nat.le_of_ble_eq_true rfl⟩) hP hS (fun H locs hP hS => ?_)
  refine lv_if_eq (tgt := 12) hx hb d_Model_hear_5 rfl (fun h => ?_) (fun h => ?_)
  · replace hm := xi_pos h hm
    refine lv_aload_n hx hb d_Model_hear_12 rfl (lv_at hl 0 rfl) ?_
    refine lv_aload_n hx hb d_Model_hear_13 rfl (lv_at hl 0 rfl) ?_
    refine va_get (D := (dC, dI)) (ci := 8) (v := .ref (ad 12)) (C := "EventGraphTextModel") (T := T_Model) (N := 26) hx hb hT hin_Model hown hK hP 0 mW_X rfl 13 (by decide) (hT _ wd_571) (fun _ h9 => h9) rfl d_Model_hear_14 ?_
    refine lv_iload_n hx hb d_Model_hear_17 rfl (lv_at hl 2 rfl) ?_
    obtain ⟨g1, hm⟩ := xg_some hm
    refine va_lald hx hb hK hP 12 1 mW_X_graph rfl g1 d_Model_hear_18 ?_
    obtain ⟨r19, h19, hm⟩ := xb1_some hm
    refine xc_l (va_runV (C := "EventGraphTextModel") (As := [.long (xs_L u 2 a2.toNatClampNeg)]) (rest := []) ⟨hx, hb, hml, hown, hts⟩ (c_Model_tips l dC dI dT ad (xs_L u 2 a2.toNatClampNeg) u r19 h19) (cwV 1 hts (xgV wd_674 wd_676 wds_19 wd_9 wd_677) rfl rfl rfl pd_Model_tips ⟨Nat.le_of_ble_eq_true rfl, Nat.le_of_ble_eq_true rfl⟩) (xpreV (C := "EventGraphTextModel") (T := T_Model) (N := 26) hP hK hN rfl mW_X) rfl rfl hl.1 rfl (lv_room (Nat.le_of_ble_eq_true rfl)) d_Model_hear_19 ⟨Nat.le_of_ble_eq_true rfl, Nat.le_of_ble_eq_true rfl⟩) hP hS (fun H locs hP hS => ?_)
    refine lv_aload_n hx hb d_Model_hear_22 rfl (lv_at hl 0 rfl) ?_
    refine va_get (D := (dC, dI)) (ci := 8) (v := .ref (ad 12)) (C := "EventGraphTextModel") (T := T_Model) (N := 26) hx hb hT hin_Model hown hK hP 0 mW_X rfl 13 (by decide) (hT _ wd_571) (fun _ h9 => h9) rfl d_Model_hear_23 ?_
    refine lv_iload_n hx hb d_Model_hear_26 rfl (lv_at hl 1 rfl) ?_
    obtain ⟨g2, hm⟩ := xg_some hm
    refine va_lald hx hb hK hP 12 1 mW_X_graph rfl g2 d_Model_hear_27 ?_
    refine lv_land hx hb d_Model_hear_28 ?_
    refine lv_lstore_n (lv' := [(3, .long (r19 &&& (xs_L u 2 a1.toNatClampNeg))), (0, .ref (ad 0)), (1, .int a1), (2, .int a2)]) hx hb d_Model_hear_29 rfl hl (Nat.le_of_ble_eq_true rfl) rfl (fun ls hl => ?_)
    refine lv_aload_n hx hb d_Model_hear_30 rfl (lv_at hl 1 rfl) ?_
    refine va_get (D := (dC, dI)) (ci := 8) (v := .ref (ad 13)) (C := "EventGraphTextModel") (T := T_Model) (N := 26) hx hb hT hin_Model hown hK hP 0 mW_X rfl 14 (by decide) (hT _ wd_572) (fun _ h9 => h9) rfl d_Model_hear_31 ?_
    refine lv_iconst (v := (3 : Int32)) hx hb d_Model_hear_34 (by decide) ?_
    refine lv_iload_n hx hb d_Model_hear_35 rfl (lv_at hl 2 rfl) ?_
    refine lv_imul hx hb d_Model_hear_36 ?_
    refine lv_iload_n hx hb d_Model_hear_37 rfl (lv_at hl 3 rfl) ?_
    refine lv_iadd hx hb d_Model_hear_38 ?_
    refine lv_aload_n hx hb d_Model_hear_39 rfl (lv_at hl 1 rfl) ?_
    refine lv_lload_n hx hb d_Model_hear_40 rfl (lv_at hl 0 rfl) ?_
    obtain ⟨r41, h41, hm⟩ := xb1_some hm
    refine xc_l (va_runV (C := "EventGraphTextModel") (As := [.long (r19 &&& (xs_L u 2 a1.toNatClampNeg))]) (rest := [.int (((3 : Int32) * a1) + a2), .ref (ad 13)]) ⟨hx, hb, hml, hown, hts⟩ (c_Model_whole l dC dI dT ad (r19 &&& (xs_L u 2 a1.toNatClampNeg)) u r41 h41) (cwV 1 hts (xgV wd_719 wd_721 wds_28 wd_9 wd_722) rfl rfl rfl pd_Model_whole ⟨Nat.le_of_ble_eq_true rfl, Nat.le_of_ble_eq_true rfl⟩) (xpreV (C := "EventGraphTextModel") (T := T_Model) (N := 26) hP hK hN rfl mW_X) rfl rfl hl.1 rfl (lv_room (Nat.le_of_ble_eq_true rfl)) d_Model_hear_41 ⟨Nat.le_of_ble_eq_true rfl, Nat.le_of_ble_eq_true rfl⟩) hP hS (fun H locs hP hS => ?_)
    obtain ⟨g3, hm⟩ := xg_some hm
    obtain ⟨w44, hw44, hm⟩ := xlt_some hm
    refine va_last hx hb hK hP (hD _) hS 13 1 mW_X_thought rfl g3 d_Model_hear_44 (fun H locs hP _ hS => ?_)
    replace hP : va_P (dC, dI) xCl (mW dT ad w44) H := xp_conv ((mW_s_X_thought).trans (congrArg (mW dT ad) hw44.symm)) hP
    refine lv_aload_n hx hb d_Model_hear_45 rfl (lv_at hl 1 rfl) ?_
    refine lv_iload_n hx hb d_Model_hear_46 rfl (lv_at hl 2 rfl) ?_
    refine lv_iload_n hx hb d_Model_hear_47 rfl (lv_at hl 3 rfl) ?_
    obtain ⟨r48, h48, hm⟩ := xb1_some hm
    refine xc_i (va_runV (C := "EventGraphTextModel") (As := [.int a1, .int a2]) (rest := []) ⟨hx, hb, hml, hown, hts⟩ (c_Model_believed l dC dI dT ad a1 a2 w44 r48 h48) (cwV 2 hts (xgV wd_723 wd_724 wd_725 wd_9 wd_726) rfl rfl rfl pd_Model_believed ⟨Nat.le_of_ble_eq_true rfl, Nat.le_of_ble_eq_true rfl⟩) (xpreV (C := "EventGraphTextModel") (T := T_Model) (N := 26) hP hK hN rfl mW_X) rfl rfl hl.1 rfl (lv_room (Nat.le_of_ble_eq_true rfl)) d_Model_hear_48 ⟨Nat.le_of_ble_eq_true rfl, Nat.le_of_ble_eq_true rfl⟩) hP hS (fun H locs hP hS => ?_)
    exact hret hm hP hS d_Model_hear_51
  · replace hm := xi_neg h hm
    refine lv_sipush (v := (-1000 : Int32)) hx hb d_Model_hear_8 (by decide) ?_
    exact hret hm hP hS d_Model_hear_11
set_option maxHeartbeats 4000000 in
set_option maxRecDepth 100000 in
theorem c_Model_isCritical (l : Launch) (dC : Nat → ClassId) (dI : Nat → Nat → Nat) (dT : Nat → ClassId) (ad : Nat → Nat) (a1 : Int64) (a3 : Int32) (u : xS) (out : Int32) (hm : m_Model_isCritical a1 a3 u = some out) : Met l y_Model_isCritical (Cond.code y_Model_isCritical b_Model_isCritical 5 (some .boolean) :: xG) (xrm 1 22) (va_Pc [.ref (ad 0), .long a1, .int a3] (xR (dC, dI) xCl (xT dT) (mW dT ad u))) (va_Qi (fun r9 (_ : Unit) => r9 = out) (fun _ _ => True) xN) 0 0 xN := by
  refine xm_roz (cc := b_Model_isCritical) (maxL := 5) (by decide) rfl (Nat.le_of_ble_eq_true rfl) ?_
  intro p e s m args below meth c Q ls hx hb hml hts hown hK hN hP hl hret
  have hT : ∀ w ∈ xG, w.before args s = true := fun w h => hts w (List.mem_cons_of_mem _ h)
  have hown : s.vm.findClass "EventGraphTextModel" = some m.cls := hown
  have hl : lv_has ls 5 [(0, .ref (ad 0)), (1, .long a1), (3, .int a3)] := hl
  have hS : va_S xN s.heap s.heap [] := va_S.rf
  have hs3 : ∀ (k3 : Int64 → Int32 → Int32 → xS → Option Int32) (hk3 : ∀ (b1 : Int64) (b3 : Int32) (b4 : Int32) (H : Heap) (locs : List Loc) (ls : Array Slot), lv_has ls 5 [(0, .ref (ad 0)), (1, .long b1), (3, .int b3), (4, .int b4)] → va_P (dC, dI) xCl (mW dT ad u) H → va_S xN s.heap H locs → k3 b1 b3 b4 u = some out → W p l e (xrm 1 22) s m args below meth c H locs 0 0 Q (F0 m 3 ls [])), ∀ (b1 : Int64) (b3 : Int32) (b4 : Int32) (H : Heap) (locs : List Loc) (ls : Array Slot), lv_has ls 5 [(0, .ref (ad 0)), (1, .long b1), (3, .int b3), (4, .int b4)] → va_P (dC, dI) xCl (mW dT ad u) H → va_S xN s.heap H locs → m_Model_isCritical_s3 k3 b1 b3 b4 u = some out → W p l e (xrm 1 22) s m args below meth c H locs 0 0 Q (F0 m 3 ls []) := by
    intro k3 hk3 b1 b3 b4 H locs ls hl hP hS hm
    unfold m_Model_isCritical_s3 at hm
    refine lv_iload hx hb d_Model_isCritical_3 (lv_at hl 3 rfl) ?_
    refine lv_aload_n hx hb d_Model_isCritical_5 rfl (lv_at hl 0 rfl) ?_
    refine va_get (D := (dC, dI)) (ci := 8) (v := .int (xs_i u 0)) (C := "EventGraphTextModel") (T := T_Model) (N := 26) hx hb hT hin_Model hown hK hP 0 mW_X rfl 0 (by decide) (hT _ wd_558) (fun _ h9 => h9) rfl d_Model_isCritical_6 ?_
    refine lv_icmp_ge (tgt := 63) hx hb d_Model_isCritical_9 rfl (fun h => ?_) (fun h => ?_)
    · replace hm := xi_pos h hm
      refine lv_iconst (v := (1 : Int32)) hx hb d_Model_isCritical_63 (by decide) ?_
      exact hret hm rfl hS d_Model_isCritical_64
    · replace hm := xi_neg h hm
      refine lv_lload_n hx hb d_Model_isCritical_12 rfl (lv_at hl 1 rfl) ?_
      refine lv_iload hx hb d_Model_isCritical_13 (lv_at hl 3 rfl) ?_
      obtain ⟨r15, h15, hm⟩ := xb1_some hm
      refine xc_i (va_runS (As := [.long b1, .int b4]) (rest := []) ⟨hx, hb, hml, hown, hts⟩ (c_Model_in l b1 b4 r15 h15) (va_cwS 2 hts (xgS wd_656 wd_657 wd_9 wd_658) rfl rfl rfl pd_Model_in.2 ⟨Nat.le_of_ble_eq_true rfl, Nat.le_of_ble_eq_true rfl⟩) xpreS0 rfl rfl hl.1 rfl (lv_room (Nat.le_of_ble_eq_true rfl)) d_Model_isCritical_15 ⟨Nat.le_of_ble_eq_true rfl, Nat.le_of_ble_eq_true rfl⟩) hP hS (fun H locs hP hS => ?_)
      refine lv_if_eq (tgt := 57) hx hb d_Model_isCritical_18 rfl (fun h => ?_) (fun h => ?_)
      · replace hm := xi_pos h hm
        refine lv_iinc (k := 3) (v := (b4 + (1 : Int32))) (lv' := [(4, .int (b4 + (1 : Int32))), (0, .ref (ad 0)), (1, .long b1), (3, .int b3)]) hx hb d_Model_isCritical_57 hl rfl rfl (Nat.le_of_ble_eq_true rfl) rfl (fun ls hl => ?_)
        refine lv_goto (tgt := 3) hx hb d_Model_isCritical_60 rfl ?_
        exact hk3 b1 b3 (b4 + (1 : Int32)) _ _ _ (lv_sub hl [1, 2, 3, 0] rfl) hP hS hm
      · replace hm := xi_neg h hm
        refine lv_iload hx hb d_Model_isCritical_21 (lv_at hl 3 rfl) ?_
        refine lv_iload_n hx hb d_Model_isCritical_23 rfl (lv_at hl 2 rfl) ?_
        refine lv_icmp_eq (tgt := 57) hx hb d_Model_isCritical_24 rfl (fun h => ?_) (fun h => ?_)
        · replace hm := xi_pos h hm
          refine lv_iinc (k := 3) (v := (b4 + (1 : Int32))) (lv' := [(4, .int (b4 + (1 : Int32))), (0, .ref (ad 0)), (1, .long b1), (3, .int b3)]) hx hb d_Model_isCritical_57 hl rfl rfl (Nat.le_of_ble_eq_true rfl) rfl (fun ls hl => ?_)
          refine lv_goto (tgt := 3) hx hb d_Model_isCritical_60 rfl ?_
          exact hk3 b1 b3 (b4 + (1 : Int32)) _ _ _ (lv_sub hl [1, 2, 3, 0] rfl) hP hS hm
        · replace hm := xi_neg h hm
          refine lv_aload_n hx hb d_Model_isCritical_27 rfl (lv_at hl 0 rfl) ?_
          refine va_get (D := (dC, dI)) (ci := 8) (v := .ref (ad 6)) (C := "EventGraphTextModel") (T := T_Model) (N := 26) hx hb hT hin_Model hown hK hP 0 mW_X rfl 6 (by decide) (hT _ wd_564) (fun _ h9 => h9) rfl d_Model_isCritical_28 ?_
          refine lv_iload_n hx hb d_Model_isCritical_31 rfl (lv_at hl 2 rfl) ?_
          obtain ⟨g1, hm⟩ := xg_some hm
          refine va_lald hx hb hK hP 6 1 mW_X_earlier rfl g1 d_Model_isCritical_32 ?_
          refine lv_iload hx hb d_Model_isCritical_33 (lv_at hl 3 rfl) ?_
          obtain ⟨r35, h35, hm⟩ := xb1_some hm
          refine xc_i (va_runS (As := [.long (xs_L u 0 b3.toNatClampNeg), .int b4]) (rest := []) ⟨hx, hb, hml, hown, hts⟩ (c_Model_in l (xs_L u 0 b3.toNatClampNeg) b4 r35 h35) (va_cwS 2 hts (xgS wd_656 wd_657 wd_9 wd_658) rfl rfl rfl pd_Model_in.2 ⟨Nat.le_of_ble_eq_true rfl, Nat.le_of_ble_eq_true rfl⟩) xpreS0 rfl rfl hl.1 rfl (lv_room (Nat.le_of_ble_eq_true rfl)) d_Model_isCritical_35 ⟨Nat.le_of_ble_eq_true rfl, Nat.le_of_ble_eq_true rfl⟩) hP hS (fun H locs hP hS => ?_)
          refine lv_if_ne (tgt := 57) hx hb d_Model_isCritical_38 rfl (fun h => ?_) (fun h => ?_)
          · replace hm := xi_neg h hm
            refine lv_iinc (k := 3) (v := (b4 + (1 : Int32))) (lv' := [(4, .int (b4 + (1 : Int32))), (0, .ref (ad 0)), (1, .long b1), (3, .int b3)]) hx hb d_Model_isCritical_57 hl rfl rfl (Nat.le_of_ble_eq_true rfl) rfl (fun ls hl => ?_)
            refine lv_goto (tgt := 3) hx hb d_Model_isCritical_60 rfl ?_
            exact hk3 b1 b3 (b4 + (1 : Int32)) _ _ _ (lv_sub hl [1, 2, 3, 0] rfl) hP hS hm
          · replace hm := xi_pos h hm
            refine lv_aload_n hx hb d_Model_isCritical_41 rfl (lv_at hl 0 rfl) ?_
            refine va_get (D := (dC, dI)) (ci := 8) (v := .ref (ad 6)) (C := "EventGraphTextModel") (T := T_Model) (N := 26) hx hb hT hin_Model hown hK hP 0 mW_X rfl 6 (by decide) (hT _ wd_564) (fun _ h9 => h9) rfl d_Model_isCritical_42 ?_
            refine lv_iload hx hb d_Model_isCritical_45 (lv_at hl 3 rfl) ?_
            obtain ⟨g2, hm⟩ := xg_some hm
            refine va_lald hx hb hK hP 6 1 mW_X_earlier rfl g2 d_Model_isCritical_47 ?_
            refine lv_iload_n hx hb d_Model_isCritical_48 rfl (lv_at hl 2 rfl) ?_
            obtain ⟨r49, h49, hm⟩ := xb1_some hm
            refine xc_i (va_runS (As := [.long (xs_L u 0 b4.toNatClampNeg), .int b3]) (rest := []) ⟨hx, hb, hml, hown, hts⟩ (c_Model_in l (xs_L u 0 b4.toNatClampNeg) b3 r49 h49) (va_cwS 2 hts (xgS wd_656 wd_657 wd_9 wd_658) rfl rfl rfl pd_Model_in.2 ⟨Nat.le_of_ble_eq_true rfl, Nat.le_of_ble_eq_true rfl⟩) xpreS0 rfl rfl hl.1 rfl (lv_room (Nat.le_of_ble_eq_true rfl)) d_Model_isCritical_49 ⟨Nat.le_of_ble_eq_true rfl, Nat.le_of_ble_eq_true rfl⟩) hP hS (fun H locs hP hS => ?_)
            refine lv_if_ne (tgt := 57) hx hb d_Model_isCritical_52 rfl (fun h => ?_) (fun h => ?_)
            · replace hm := xi_neg h hm
              refine lv_iinc (k := 3) (v := (b4 + (1 : Int32))) (lv' := [(4, .int (b4 + (1 : Int32))), (0, .ref (ad 0)), (1, .long b1), (3, .int b3)]) hx hb d_Model_isCritical_57 hl rfl rfl (Nat.le_of_ble_eq_true rfl) rfl (fun ls hl => ?_)
              refine lv_goto (tgt := 3) hx hb d_Model_isCritical_60 rfl ?_
              exact hk3 b1 b3 (b4 + (1 : Int32)) _ _ _ (lv_sub hl [1, 2, 3, 0] rfl) hP hS hm
            · replace hm := xi_pos h hm
              refine lv_iconst (v := (0 : Int32)) hx hb d_Model_isCritical_55 (by decide) ?_
              exact hret hm rfl hS d_Model_isCritical_56
  have hl3 : ∀ (fu : Nat), ∀ (b1 : Int64) (b3 : Int32) (b4 : Int32) (H : Heap) (locs : List Loc) (ls : Array Slot), lv_has ls 5 [(0, .ref (ad 0)), (1, .long b1), (3, .int b3), (4, .int b4)] → va_P (dC, dI) xCl (mW dT ad u) H → va_S xN s.heap H locs → m_Model_isCritical_l3 fu b1 b3 b4 u = some out → W p l e (xrm 1 22) s m args below meth c H locs 0 0 Q (F0 m 3 ls []) := by
    intro fu
    induction fu with
    | zero => intro b1 b3 b4 H locs ls hl hP hS hm; exact absurd hm (fun z => by cases z)
    | succ n ih => intro b1 b3 b4 H locs ls hl hP hS hm; exact hs3 (m_Model_isCritical_l3 n) ih b1 b3 b4 H locs ls hl hP hS hm
  unfold m_Model_isCritical at hm
  refine lv_iconst (v := (0 : Int32)) hx hb d_Model_isCritical_0 (by decide) ?_
  refine lv_istore (lv' := [(4, .int (0 : Int32)), (0, .ref (ad 0)), (1, .long a1), (3, .int a3)]) hx hb d_Model_isCritical_1 hl (Nat.le_of_ble_eq_true rfl) rfl (fun ls hl => ?_)
  exact hl3 xFU a1 a3 (0 : Int32) _ _ _ (lv_sub hl [1, 2, 3, 0] rfl) hP hS hm
set_option maxHeartbeats 4000000 in
set_option maxRecDepth 100000 in
theorem c_Model_top (l : Launch) (dC : Nat → ClassId) (dI : Nat → Nat → Nat) (dT : Nat → ClassId) (ad : Nat → Nat) (a1 : Int64) (a3 : Int64) (u : xS) (out : Int32) (hm : m_Model_top a1 a3 u = some out) : Met l y_Model_top (Cond.code y_Model_top b_Model_top 7 (some .int) :: xG) (xrm 2 46) (va_Pc [.ref (ad 0), .long a1, .long a3] (xR (dC, dI) xCl (xT dT) (mW dT ad u))) (va_Qi (fun r9 (_ : Unit) => r9 = out) (fun _ _ => True) xN) 0 0 xN := by
  refine xm_roi (cc := b_Model_top) (maxL := 7) (by decide) rfl (Nat.le_of_ble_eq_true rfl) ?_
  intro p e s m args below meth c Q ls hx hb hml hts hown hK hN hP hl hret
  have hT : ∀ w ∈ xG, w.before args s = true := fun w h => hts w (List.mem_cons_of_mem _ h)
  have hown : s.vm.findClass "EventGraphTextModel" = some m.cls := hown
  have hl : lv_has ls 7 [(0, .ref (ad 0)), (1, .long a1), (3, .long a3)] := hl
  have hS : va_S xN s.heap s.heap [] := va_S.rf
  have hs6 : ∀ (k6 : Int64 → Int64 → Int32 → Int32 → xS → Option Int32) (hk6 : ∀ (b1 : Int64) (b3 : Int64) (b5 : Int32) (b6 : Int32) (H : Heap) (locs : List Loc) (ls : Array Slot), lv_has ls 7 [(0, .ref (ad 0)), (1, .long b1), (3, .long b3), (5, .int b5), (6, .int b6)] → va_P (dC, dI) xCl (mW dT ad u) H → va_S xN s.heap H locs → k6 b1 b3 b5 b6 u = some out → W p l e (xrm 2 46) s m args below meth c H locs 0 0 Q (F0 m 6 ls [])), ∀ (b1 : Int64) (b3 : Int64) (b5 : Int32) (b6 : Int32) (H : Heap) (locs : List Loc) (ls : Array Slot), lv_has ls 7 [(0, .ref (ad 0)), (1, .long b1), (3, .long b3), (5, .int b5), (6, .int b6)] → va_P (dC, dI) xCl (mW dT ad u) H → va_S xN s.heap H locs → m_Model_top_s6 k6 b1 b3 b5 b6 u = some out → W p l e (xrm 2 46) s m args below meth c H locs 0 0 Q (F0 m 6 ls []) := by
    intro k6 hk6 b1 b3 b5 b6 H locs ls hl hP hS hm
    unfold m_Model_top_s6 at hm
    refine lv_iload hx hb d_Model_top_6 (lv_at hl 4 rfl) ?_
    refine lv_aload_n hx hb d_Model_top_8 rfl (lv_at hl 0 rfl) ?_
    refine va_get (D := (dC, dI)) (ci := 8) (v := .int (xs_i u 0)) (C := "EventGraphTextModel") (T := T_Model) (N := 26) hx hb hT hin_Model hown hK hP 0 mW_X rfl 0 (by decide) (hT _ wd_558) (fun _ h9 => h9) rfl d_Model_top_9 ?_
    refine lv_icmp_ge (tgt := 72) hx hb d_Model_top_12 rfl (fun h => ?_) (fun h => ?_)
    · replace hm := xi_pos h hm
      refine lv_iload hx hb d_Model_top_72 (lv_at hl 3 rfl) ?_
      exact hret hm hS d_Model_top_74
    · replace hm := xi_neg h hm
      refine lv_lload_n hx hb d_Model_top_15 rfl (lv_at hl 2 rfl) ?_
      refine lv_iload hx hb d_Model_top_16 (lv_at hl 4 rfl) ?_
      obtain ⟨r18, h18, hm⟩ := xb1_some hm
      refine xc_i (va_runS (As := [.long b3, .int b6]) (rest := []) ⟨hx, hb, hml, hown, hts⟩ (c_Model_in l b3 b6 r18 h18) (va_cwS 2 hts (xgS wd_656 wd_657 wd_9 wd_658) rfl rfl rfl pd_Model_in.2 ⟨Nat.le_of_ble_eq_true rfl, Nat.le_of_ble_eq_true rfl⟩) xpreS0 rfl rfl hl.1 rfl (lv_room (Nat.le_of_ble_eq_true rfl)) d_Model_top_18 ⟨Nat.le_of_ble_eq_true rfl, Nat.le_of_ble_eq_true rfl⟩) hP hS (fun H locs hP hS => ?_)
      refine lv_if_eq (tgt := 66) hx hb d_Model_top_21 rfl (fun h => ?_) (fun h => ?_)
      · replace hm := xi_pos h hm
        refine lv_iinc (k := 4) (v := (b6 + (1 : Int32))) (lv' := [(6, .int (b6 + (1 : Int32))), (0, .ref (ad 0)), (1, .long b1), (3, .long b3), (5, .int b5)]) hx hb d_Model_top_66 hl rfl rfl (Nat.le_of_ble_eq_true rfl) rfl (fun ls hl => ?_)
        refine lv_goto (tgt := 6) hx hb d_Model_top_69 rfl ?_
        exact hk6 b1 b3 b5 (b6 + (1 : Int32)) _ _ _ (lv_sub hl [1, 2, 3, 4, 0] rfl) hP hS hm
      · replace hm := xi_neg h hm
        refine lv_aload_n hx hb d_Model_top_24 rfl (lv_at hl 0 rfl) ?_
        refine lv_lload_n hx hb d_Model_top_25 rfl (lv_at hl 1 rfl) ?_
        refine lv_iload hx hb d_Model_top_26 (lv_at hl 4 rfl) ?_
        obtain ⟨r28, h28, hm⟩ := xb1_some hm
        refine xc_i (va_runV (C := "EventGraphTextModel") (As := [.long b1, .int b6]) (rest := []) ⟨hx, hb, hml, hown, hts⟩ (c_Model_isCritical l dC dI dT ad b1 b6 u r28 h28) (cwV 2 hts (xgV wd_743 wd_745 wds_29 wd_9 wd_746) rfl rfl rfl pd_Model_isCritical ⟨Nat.le_of_ble_eq_true rfl, Nat.le_of_ble_eq_true rfl⟩) (xpreV (C := "EventGraphTextModel") (T := T_Model) (N := 26) hP hK hN rfl mW_X) rfl rfl hl.1 rfl (lv_room (Nat.le_of_ble_eq_true rfl)) d_Model_top_28 ⟨Nat.le_of_ble_eq_true rfl, Nat.le_of_ble_eq_true rfl⟩) hP hS (fun H locs hP hS => ?_)
        refine lv_if_eq (tgt := 66) hx hb d_Model_top_31 rfl (fun h => ?_) (fun h => ?_)
        · replace hm := xi_pos h hm
          refine lv_iinc (k := 4) (v := (b6 + (1 : Int32))) (lv' := [(6, .int (b6 + (1 : Int32))), (0, .ref (ad 0)), (1, .long b1), (3, .long b3), (5, .int b5)]) hx hb d_Model_top_66 hl rfl rfl (Nat.le_of_ble_eq_true rfl) rfl (fun ls hl => ?_)
          refine lv_goto (tgt := 6) hx hb d_Model_top_69 rfl ?_
          exact hk6 b1 b3 b5 (b6 + (1 : Int32)) _ _ _ (lv_sub hl [1, 2, 3, 4, 0] rfl) hP hS hm
        · replace hm := xi_neg h hm
          refine lv_iload hx hb d_Model_top_34 (lv_at hl 3 rfl) ?_
          refine lv_if_lt (tgt := 62) hx hb d_Model_top_36 rfl (fun h => ?_) (fun h => ?_)
          · replace hm := xi_pos h hm
            refine lv_iload hx hb d_Model_top_62 (lv_at hl 4 rfl) ?_
            refine lv_istore (lv' := [(5, .int b6), (0, .ref (ad 0)), (1, .long b1), (3, .long b3), (6, .int b6)]) hx hb d_Model_top_64 hl (Nat.le_of_ble_eq_true rfl) rfl (fun ls hl => ?_)
            refine lv_iinc (k := 4) (v := (b6 + (1 : Int32))) (lv' := [(6, .int (b6 + (1 : Int32))), (5, .int b6), (0, .ref (ad 0)), (1, .long b1), (3, .long b3)]) hx hb d_Model_top_66 hl rfl rfl (Nat.le_of_ble_eq_true rfl) rfl (fun ls hl => ?_)
            refine lv_goto (tgt := 6) hx hb d_Model_top_69 rfl ?_
            exact hk6 b1 b3 b6 (b6 + (1 : Int32)) _ _ _ (lv_sub hl [2, 3, 4, 1, 0] rfl) hP hS hm
          · replace hm := xi_neg h hm
            refine lv_aload_n hx hb d_Model_top_39 rfl (lv_at hl 0 rfl) ?_
            refine va_get (D := (dC, dI)) (ci := 8) (v := .ref (ad 6)) (C := "EventGraphTextModel") (T := T_Model) (N := 26) hx hb hT hin_Model hown hK hP 0 mW_X rfl 6 (by decide) (hT _ wd_564) (fun _ h9 => h9) rfl d_Model_top_40 ?_
            refine lv_iload hx hb d_Model_top_43 (lv_at hl 4 rfl) ?_
            obtain ⟨g1, hm⟩ := xg_some hm
            refine va_lald hx hb hK hP 6 1 mW_X_earlier rfl g1 d_Model_top_45 ?_
            obtain ⟨r46, h46, hm⟩ := xb1_some hm
            refine xc_i (va_runS (As := [.long (xs_L u 0 b6.toNatClampNeg)]) (rest := []) ⟨hx, hb, hml, hown, hts⟩ (c_Model_many l (xs_L u 0 b6.toNatClampNeg) r46 h46) (va_cwS 1 hts (xgS wd_727 wd_728 wd_9 wd_729) rfl rfl rfl pd_Model_many.2 ⟨Nat.le_of_ble_eq_true rfl, Nat.le_of_ble_eq_true rfl⟩) xpreS0 rfl rfl hl.1 rfl (lv_room (Nat.le_of_ble_eq_true rfl)) d_Model_top_46 ⟨Nat.le_of_ble_eq_true rfl, Nat.le_of_ble_eq_true rfl⟩) hP hS (fun H locs hP hS => ?_)
            refine lv_aload_n hx hb d_Model_top_49 rfl (lv_at hl 0 rfl) ?_
            refine va_get (D := (dC, dI)) (ci := 8) (v := .ref (ad 6)) (C := "EventGraphTextModel") (T := T_Model) (N := 26) hx hb hT hin_Model hown hK hP 0 mW_X rfl 6 (by decide) (hT _ wd_564) (fun _ h9 => h9) rfl d_Model_top_50 ?_
            refine lv_iload hx hb d_Model_top_53 (lv_at hl 3 rfl) ?_
            obtain ⟨g2, hm⟩ := xg_some hm
            refine va_lald hx hb hK hP 6 1 mW_X_earlier rfl g2 d_Model_top_55 ?_
            obtain ⟨r56, h56, hm⟩ := xb1_some hm
            refine xc_i (va_runS (As := [.long (xs_L u 0 b5.toNatClampNeg)]) (rest := [.int r46]) ⟨hx, hb, hml, hown, hts⟩ (c_Model_many l (xs_L u 0 b5.toNatClampNeg) r56 h56) (va_cwS 1 hts (xgS wd_727 wd_728 wd_9 wd_729) rfl rfl rfl pd_Model_many.2 ⟨Nat.le_of_ble_eq_true rfl, Nat.le_of_ble_eq_true rfl⟩) xpreS0 rfl rfl hl.1 rfl (lv_room (Nat.le_of_ble_eq_true rfl)) d_Model_top_56 ⟨Nat.le_of_ble_eq_true rfl, Nat.le_of_ble_eq_true rfl⟩) hP hS (fun H locs hP hS => ?_)
            refine lv_icmp_le (tgt := 66) hx hb d_Model_top_59 rfl (fun h => ?_) (fun h => ?_)
            · replace hm := xi_pos h hm
              refine lv_iinc (k := 4) (v := (b6 + (1 : Int32))) (lv' := [(6, .int (b6 + (1 : Int32))), (0, .ref (ad 0)), (1, .long b1), (3, .long b3), (5, .int b5)]) hx hb d_Model_top_66 hl rfl rfl (Nat.le_of_ble_eq_true rfl) rfl (fun ls hl => ?_)
              refine lv_goto (tgt := 6) hx hb d_Model_top_69 rfl ?_
              exact hk6 b1 b3 b5 (b6 + (1 : Int32)) _ _ _ (lv_sub hl [1, 2, 3, 4, 0] rfl) hP hS hm
            · replace hm := xi_neg h hm
              refine lv_iload hx hb d_Model_top_62 (lv_at hl 4 rfl) ?_
              refine lv_istore (lv' := [(5, .int b6), (0, .ref (ad 0)), (1, .long b1), (3, .long b3), (6, .int b6)]) hx hb d_Model_top_64 hl (Nat.le_of_ble_eq_true rfl) rfl (fun ls hl => ?_)
              refine lv_iinc (k := 4) (v := (b6 + (1 : Int32))) (lv' := [(6, .int (b6 + (1 : Int32))), (5, .int b6), (0, .ref (ad 0)), (1, .long b1), (3, .long b3)]) hx hb d_Model_top_66 hl rfl rfl (Nat.le_of_ble_eq_true rfl) rfl (fun ls hl => ?_)
              refine lv_goto (tgt := 6) hx hb d_Model_top_69 rfl ?_
              exact hk6 b1 b3 b6 (b6 + (1 : Int32)) _ _ _ (lv_sub hl [2, 3, 4, 1, 0] rfl) hP hS hm
  have hl6 : ∀ (fu : Nat), ∀ (b1 : Int64) (b3 : Int64) (b5 : Int32) (b6 : Int32) (H : Heap) (locs : List Loc) (ls : Array Slot), lv_has ls 7 [(0, .ref (ad 0)), (1, .long b1), (3, .long b3), (5, .int b5), (6, .int b6)] → va_P (dC, dI) xCl (mW dT ad u) H → va_S xN s.heap H locs → m_Model_top_l6 fu b1 b3 b5 b6 u = some out → W p l e (xrm 2 46) s m args below meth c H locs 0 0 Q (F0 m 6 ls []) := by
    intro fu
    induction fu with
    | zero => intro b1 b3 b5 b6 H locs ls hl hP hS hm; exact absurd hm (fun z => by cases z)
    | succ n ih => intro b1 b3 b5 b6 H locs ls hl hP hS hm; exact hs6 (m_Model_top_l6 n) ih b1 b3 b5 b6 H locs ls hl hP hS hm
  unfold m_Model_top at hm
  refine lv_iconst (v := (-1 : Int32)) hx hb d_Model_top_0 (by decide) ?_
  refine lv_istore (lv' := [(5, .int (-1 : Int32)), (0, .ref (ad 0)), (1, .long a1), (3, .long a3)]) hx hb d_Model_top_1 hl (Nat.le_of_ble_eq_true rfl) rfl (fun ls hl => ?_)
  refine lv_iconst (v := (0 : Int32)) hx hb d_Model_top_3 (by decide) ?_
  refine lv_istore (lv' := [(6, .int (0 : Int32)), (5, .int (-1 : Int32)), (0, .ref (ad 0)), (1, .long a1), (3, .long a3)]) hx hb d_Model_top_4 hl (Nat.le_of_ble_eq_true rfl) rfl (fun ls hl => ?_)
  exact hl6 xFU a1 a3 (-1 : Int32) (0 : Int32) _ _ _ (lv_sub hl [2, 3, 4, 1, 0] rfl) hP hS hm
set_option maxHeartbeats 4000000 in
set_option maxRecDepth 100000 in
theorem c_Model_effect (l : Launch) (dC : Nat → ClassId) (dI : Nat → Nat → Nat) (dT : Nat → ClassId) (ad : Nat → Nat) (a1 : Int64) (a3 : Int32) (u : xS) (out : Int32) (hm : m_Model_effect a1 a3 u = some out) : Met l y_Model_effect (Cond.code y_Model_effect b_Model_effect 7 (some .int) :: xG) (xrm 3 75) (va_Pc [.ref (ad 0), .long a1, .int a3] (xR (dC, dI) xCl (xT dT) (mW dT ad u))) (va_Qi (fun r9 (_ : Unit) => r9 = out) (fun _ _ => True) xN) 0 0 xN := by
  refine xm_roi (cc := b_Model_effect) (maxL := 7) (by decide) rfl (Nat.le_of_ble_eq_true rfl) ?_
  intro p e s m args below meth c Q ls hx hb hml hts hown hK hN hP hl hret
  have hT : ∀ w ∈ xG, w.before args s = true := fun w h => hts w (List.mem_cons_of_mem _ h)
  have hown : s.vm.findClass "EventGraphTextModel" = some m.cls := hown
  have hl : lv_has ls 7 [(0, .ref (ad 0)), (1, .long a1), (3, .int a3)] := hl
  have hS : va_S xN s.heap s.heap [] := va_S.rf
  unfold m_Model_effect at hm
  refine lv_aload_n hx hb d_Model_effect_0 rfl (lv_at hl 0 rfl) ?_
  refine va_get (D := (dC, dI)) (ci := 8) (v := .ref (ad 3)) (C := "EventGraphTextModel") (T := T_Model) (N := 26) hx hb hT hin_Model hown hK hP 0 mW_X rfl 3 (by decide) (hT _ wd_561) (fun _ h9 => h9) rfl d_Model_effect_1 ?_
  refine lv_iload_n hx hb d_Model_effect_4 rfl (lv_at hl 2 rfl) ?_
  obtain ⟨g1, hm⟩ := xg_some hm
  refine va_zald hx hb hK hP 3 2 mW_X_inserts rfl g1 d_Model_effect_5 ?_
  refine lv_if_eq (tgt := 16) hx hb d_Model_effect_6 rfl (fun h => ?_) (fun h => ?_)
  · replace hm := xi_pos h hm
    refine lv_aload_n hx hb d_Model_effect_16 rfl (lv_at hl 0 rfl) ?_
    refine va_get (D := (dC, dI)) (ci := 8) (v := .ref (ad 8)) (C := "EventGraphTextModel") (T := T_Model) (N := 26) hx hb hT hin_Model hown hK hP 0 mW_X rfl 8 (by decide) (hT _ wd_566) (fun _ h9 => h9) rfl d_Model_effect_17 ?_
    refine lv_iload_n hx hb d_Model_effect_20 rfl (lv_at hl 2 rfl) ?_
    obtain ⟨g2, hm⟩ := xg_some hm
    refine va_iald hx hb hK hP 8 0 mW_X_place rfl g2 d_Model_effect_21 ?_
    refine lv_istore (lv' := [(4, .int (xs_I u 5 a3.toNatClampNeg)), (0, .ref (ad 0)), (1, .long a1), (3, .int a3)]) hx hb d_Model_effect_22 hl (Nat.le_of_ble_eq_true rfl) rfl (fun ls hl => ?_)
    refine lv_aload_n hx hb d_Model_effect_24 rfl (lv_at hl 1 rfl) ?_
    refine lv_lload_n hx hb d_Model_effect_25 rfl (lv_at hl 2 rfl) ?_
    obtain ⟨r26, h26, hm⟩ := xb1_some hm
    refine xc_l (va_runV (C := "EventGraphTextModel") (As := [.long a1]) (rest := []) ⟨hx, hb, hml, hown, hts⟩ (c_Model_hidden l dC dI dT ad a1 u r26 h26) (cwV 1 hts (xgV wd_652 wd_654 wds_16 wd_9 wd_655) rfl rfl rfl pd_Model_hidden ⟨Nat.le_of_ble_eq_true rfl, Nat.le_of_ble_eq_true rfl⟩) (xpreV (C := "EventGraphTextModel") (T := T_Model) (N := 26) hP hK hN rfl mW_X) rfl rfl hl.1 rfl (lv_room (Nat.le_of_ble_eq_true rfl)) d_Model_effect_26 ⟨Nat.le_of_ble_eq_true rfl, Nat.le_of_ble_eq_true rfl⟩) hP hS (fun H locs hP hS => ?_)
    refine lv_lstore (lv' := [(5, .long r26), (4, .int (xs_I u 5 a3.toNatClampNeg)), (0, .ref (ad 0)), (1, .long a1), (3, .int a3)]) hx hb d_Model_effect_29 hl (Nat.le_of_ble_eq_true rfl) rfl (fun ls hl => ?_)
    refine lv_lload hx hb d_Model_effect_31 (lv_at hl 0 rfl) ?_
    refine lv_iload hx hb d_Model_effect_33 (lv_at hl 1 rfl) ?_
    obtain ⟨r35, h35, hm⟩ := xb1_some hm
    refine xc_i (va_runS (As := [.long r26, .int (xs_I u 5 a3.toNatClampNeg)]) (rest := []) ⟨hx, hb, hml, hown, hts⟩ (c_Model_in l r26 (xs_I u 5 a3.toNatClampNeg) r35 h35) (va_cwS 2 hts (xgS wd_656 wd_657 wd_9 wd_658) rfl rfl rfl pd_Model_in.2 ⟨Nat.le_of_ble_eq_true rfl, Nat.le_of_ble_eq_true rfl⟩) xpreS0 rfl rfl hl.1 rfl (lv_room (Nat.le_of_ble_eq_true rfl)) d_Model_effect_35 ⟨Nat.le_of_ble_eq_true rfl, Nat.le_of_ble_eq_true rfl⟩) hP hS (fun H locs hP hS => ?_)
    refine lv_if_eq (tgt := 47) hx hb d_Model_effect_38 rfl (fun h => ?_) (fun h => ?_)
    · replace hm := xi_pos h hm
      refine lv_iconst (v := (-1 : Int32)) hx hb d_Model_effect_47 (by decide) ?_
      refine lv_aload_n hx hb d_Model_effect_48 rfl (lv_at hl 2 rfl) ?_
      refine lv_lload_n hx hb d_Model_effect_49 rfl (lv_at hl 3 rfl) ?_
      refine lv_iload hx hb d_Model_effect_50 (lv_at hl 1 rfl) ?_
      obtain ⟨r52, h52, hm⟩ := xb1_some hm
      refine xc_i (va_runV (C := "EventGraphTextModel") (As := [.long a1, .int (xs_I u 5 a3.toNatClampNeg)]) (rest := [.int (-1 : Int32)]) ⟨hx, hb, hml, hown, hts⟩ (c_Model_shownBefore l dC dI dT ad a1 (xs_I u 5 a3.toNatClampNeg) u r52 h52) (cwV 2 hts (xgV wd_648 wd_650 wds_20 wd_9 wd_651) rfl rfl rfl pd_Model_shownBefore ⟨Nat.le_of_ble_eq_true rfl, Nat.le_of_ble_eq_true rfl⟩) (xpreV (C := "EventGraphTextModel") (T := T_Model) (N := 26) hP hK hN rfl mW_X) rfl rfl hl.1 rfl (lv_room (Nat.le_of_ble_eq_true rfl)) d_Model_effect_52 ⟨Nat.le_of_ble_eq_true rfl, Nat.le_of_ble_eq_true rfl⟩) hP hS (fun H locs hP hS => ?_)
      refine lv_isub hx hb d_Model_effect_55 ?_
      exact hret hm hS d_Model_effect_56
    · replace hm := xi_neg h hm
      refine lv_sipush (v := (1000 : Int32)) hx hb d_Model_effect_41 (by decide) ?_
      refine lv_goto (tgt := 56) hx hb d_Model_effect_44 rfl ?_
      exact hret hm hS d_Model_effect_56
  · replace hm := xi_neg h hm
    refine lv_aload_n hx hb d_Model_effect_9 rfl (lv_at hl 0 rfl) ?_
    refine lv_lload_n hx hb d_Model_effect_10 rfl (lv_at hl 1 rfl) ?_
    refine lv_iload_n hx hb d_Model_effect_11 rfl (lv_at hl 2 rfl) ?_
    obtain ⟨r12, h12, hm⟩ := xb1_some hm
    refine xc_i (va_runV (C := "EventGraphTextModel") (As := [.long a1, .int a3]) (rest := []) ⟨hx, hb, hml, hown, hts⟩ (c_Model_shownBefore l dC dI dT ad a1 a3 u r12 h12) (cwV 2 hts (xgV wd_648 wd_650 wds_20 wd_9 wd_651) rfl rfl rfl pd_Model_shownBefore ⟨Nat.le_of_ble_eq_true rfl, Nat.le_of_ble_eq_true rfl⟩) (xpreV (C := "EventGraphTextModel") (T := T_Model) (N := 26) hP hK hN rfl mW_X) rfl rfl hl.1 rfl (lv_room (Nat.le_of_ble_eq_true rfl)) d_Model_effect_12 ⟨Nat.le_of_ble_eq_true rfl, Nat.le_of_ble_eq_true rfl⟩) hP hS (fun H locs hP hS => ?_)
    exact hret hm hS d_Model_effect_15
set_option maxHeartbeats 4000000 in
set_option maxRecDepth 100000 in
theorem c_Model_merge (l : Launch) (dC : Nat → ClassId) (dI : Nat → Nat → Nat) (dT : Nat → ClassId) (ad : Nat → Nat) (hD : ∀ u, va_D (xA ad 23) (mW dT ad u)) (a1 : Int32) (a2 : Int64) (u : xS) (u1 : xS) (hm : m_Model_merge a1 a2 u = some u1) : Met l y_Model_merge (Cond.code y_Model_merge b_Model_merge 16 none :: xG) (xrm 4 101) (va_Pc [.ref (ad 0), .int a1, .long a2] (xR (dC, dI) xCl (xT dT) (mW dT ad u))) (va_Qv (fun (u9 : xS) => u9 = u1) (fun u9 t => va_P (dC, dI) xCl (mW dT ad u9) t.heap) (xA ad 23)) 0 0 (xA ad 23) := by
  refine xm_rwv (Wd := mW dT ad) (cc := b_Model_merge) (maxL := 16) (by decide) rfl (Nat.le_of_ble_eq_true rfl) ?_
  intro p e s m args below meth c Q ls hx hb hml hts hown hK hN hP hl hret
  have hT : ∀ w ∈ xG, w.before args s = true := fun w h => hts w (List.mem_cons_of_mem _ h)
  have hown : s.vm.findClass "EventGraphTextModel" = some m.cls := hown
  have hl : lv_has ls 16 [(0, .ref (ad 0)), (1, .int a1), (2, .long a2)] := hl
  have hS : va_S (xA ad 23) s.heap s.heap [] := va_S.rf
  have hs146 : ∀ (k146 : Int32 → Int32 → Int64 → Int64 → Int32 → xS → Option xS) (hk146 : ∀ (b1 : Int32) (b9 : Int32) (b10 : Int64) (b12 : Int64) (b14 : Int32) (u : xS) (H : Heap) (locs : List Loc) (ls : Array Slot), lv_has ls 16 [(0, .ref (ad 0)), (1, .int b1), (9, .int b9), (10, .long b10), (12, .long b12), (14, .int b14)] → va_P (dC, dI) xCl (mW dT ad u) H → va_S (xA ad 23) s.heap H locs → k146 b1 b9 b10 b12 b14 u = some u1 → W p l e (xrm 4 101) s m args below meth c H locs 0 0 Q (F0 m 146 ls [])), ∀ (b1 : Int32) (b9 : Int32) (b10 : Int64) (b12 : Int64) (b14 : Int32) (u : xS) (H : Heap) (locs : List Loc) (ls : Array Slot), lv_has ls 16 [(0, .ref (ad 0)), (1, .int b1), (9, .int b9), (10, .long b10), (12, .long b12), (14, .int b14)] → va_P (dC, dI) xCl (mW dT ad u) H → va_S (xA ad 23) s.heap H locs → m_Model_merge_s146 k146 b1 b9 b10 b12 b14 u = some u1 → W p l e (xrm 4 101) s m args below meth c H locs 0 0 Q (F0 m 146 ls []) := by
    intro k146 hk146 b1 b9 b10 b12 b14 u H locs ls hl hP hS hm
    unfold m_Model_merge_s146 at hm
    refine lv_iload hx hb d_Model_merge_146 (lv_at hl 5 rfl) ?_
    refine lv_aload_n hx hb d_Model_merge_148 rfl (lv_at hl 0 rfl) ?_
    refine va_get (D := (dC, dI)) (ci := 8) (v := .int (xs_i u 2)) (C := "EventGraphTextModel") (T := T_Model) (N := 26) hx hb hT hin_Model hown hK hP 0 mW_X rfl 23 (by decide) (hT _ wd_581) (fun _ h9 => h9) rfl d_Model_merge_149 ?_
    refine lv_icmp_ge (tgt := 233) hx hb d_Model_merge_152 rfl (fun h => ?_) (fun h => ?_)
    · replace hm := xi_pos h hm
      refine lv_aload_n hx hb d_Model_merge_233 rfl (lv_at hl 0 rfl) ?_
      refine va_get (D := (dC, dI)) (ci := 8) (v := .ref (ad 18)) (C := "EventGraphTextModel") (T := T_Model) (N := 26) hx hb hT hin_Model hown hK hP 0 mW_X rfl 19 (by decide) (hT _ wd_577) (fun _ h9 => h9) rfl d_Model_merge_234 ?_
      refine lv_iload_n hx hb d_Model_merge_237 rfl (lv_at hl 1 rfl) ?_
      refine lv_iload hx hb d_Model_merge_238 (lv_at hl 2 rfl) ?_
      obtain ⟨g4, hm⟩ := xg_some hm
      obtain ⟨w240, hw240, hm⟩ := xlt_some hm
      refine va_iast hx hb hK hP (hD _) hS 18 0 mW_X_shifts rfl g4 d_Model_merge_240 (fun H locs hP _ hS => ?_)
      replace hP : va_P (dC, dI) xCl (mW dT ad w240) H := xp_conv ((mW_s_X_shifts).trans (congrArg (mW dT ad) hw240.symm)) hP
      refine lv_aload_n hx hb d_Model_merge_241 rfl (lv_at hl 0 rfl) ?_
      refine va_get (D := (dC, dI)) (ci := 8) (v := .ref (ad 19)) (C := "EventGraphTextModel") (T := T_Model) (N := 26) hx hb hT hin_Model hown hK hP 0 mW_X rfl 20 (by decide) (hT _ wd_578) (fun _ h9 => h9) rfl d_Model_merge_242 ?_
      refine lv_iload_n hx hb d_Model_merge_245 rfl (lv_at hl 1 rfl) ?_
      refine lv_aload_n hx hb d_Model_merge_246 rfl (lv_at hl 0 rfl) ?_
      refine va_get (D := (dC, dI)) (ci := 8) (v := .int (xs_i w240 2)) (C := "EventGraphTextModel") (T := T_Model) (N := 26) hx hb hT hin_Model hown hK hP 0 mW_X rfl 23 (by decide) (hT _ wd_581) (fun _ h9 => h9) rfl d_Model_merge_247 ?_
      obtain ⟨w250, hw250, hm⟩ := xlt_some hm
      refine va_iast hx hb hK hP (hD _) hS 19 0 mW_X_dones rfl g4 d_Model_merge_250 (fun H locs hP _ hS => ?_)
      replace hP : va_P (dC, dI) xCl (mW dT ad w250) H := xp_conv ((mW_s_X_dones).trans (congrArg (mW dT ad) hw250.symm)) hP
      refine lv_aload_n hx hb d_Model_merge_251 rfl (lv_at hl 0 rfl) ?_
      refine va_get (D := (dC, dI)) (ci := 8) (v := .ref (ad 12)) (C := "EventGraphTextModel") (T := T_Model) (N := 26) hx hb hT hin_Model hown hK hP 0 mW_X rfl 13 (by decide) (hT _ wd_571) (fun _ h9 => h9) rfl d_Model_merge_252 ?_
      refine lv_iload_n hx hb d_Model_merge_255 rfl (lv_at hl 1 rfl) ?_
      refine lv_lload hx hb d_Model_merge_256 (lv_at hl 4 rfl) ?_
      obtain ⟨w258, hw258, hm⟩ := xlt_some hm
      refine va_last hx hb hK hP (hD _) hS 12 1 mW_X_graph rfl g4 d_Model_merge_258 (fun H locs hP _ hS => ?_)
      replace hP : va_P (dC, dI) xCl (mW dT ad w258) H := xp_conv ((mW_s_X_graph).trans (congrArg (mW dT ad) hw258.symm)) hP
      exact hret hm hP hS d_Model_merge_259
    · replace hm := xi_neg h hm
      refine lv_aload_n hx hb d_Model_merge_155 rfl (lv_at hl 0 rfl) ?_
      refine va_get (D := (dC, dI)) (ci := 8) (v := .ref (ad 21)) (C := "EventGraphTextModel") (T := T_Model) (N := 26) hx hb hT hin_Model hown hK hP 0 mW_X rfl 22 (by decide) (hT _ wd_580) (fun _ h9 => h9) rfl d_Model_merge_156 ?_
      refine lv_iload hx hb d_Model_merge_159 (lv_at hl 5 rfl) ?_
      obtain ⟨g5, hm⟩ := xg_some hm
      refine va_iald hx hb hK hP 21 0 mW_X_turn rfl g5 d_Model_merge_161 ?_
      refine lv_istore (lv' := [(15, .int (xs_I u 15 b14.toNatClampNeg)), (0, .ref (ad 0)), (1, .int b1), (9, .int b9), (10, .long b10), (12, .long b12), (14, .int b14)]) hx hb d_Model_merge_162 hl (Nat.le_of_ble_eq_true rfl) rfl (fun ls hl => ?_)
      refine lv_iload hx hb d_Model_merge_164 (lv_at hl 3 rfl) ?_
      refine lv_lload hx hb d_Model_merge_166 (lv_at hl 4 rfl) ?_
      refine lv_aload_n hx hb d_Model_merge_168 rfl (lv_at hl 1 rfl) ?_
      refine va_get (D := (dC, dI)) (ci := 8) (v := .ref (ad 6)) (C := "EventGraphTextModel") (T := T_Model) (N := 26) hx hb hT hin_Model hown hK hP 0 mW_X rfl 6 (by decide) (hT _ wd_564) (fun _ h9 => h9) rfl d_Model_merge_169 ?_
      refine lv_iload hx hb d_Model_merge_172 (lv_at hl 0 rfl) ?_
      obtain ⟨g6, hm⟩ := xg_some hm
      refine va_lald hx hb hK hP 6 1 mW_X_earlier rfl g6 d_Model_merge_174 ?_
      refine lv_lxor hx hb d_Model_merge_175 ?_
      obtain ⟨r176, h176, hm⟩ := xb1_some hm
      refine xc_i (va_runS (As := [.long (b10 ^^^ (xs_L u 0 (xs_I u 15 b14.toNatClampNeg).toNatClampNeg))]) (rest := [.int b9]) ⟨hx, hb, hml, hown, hts⟩ (c_Model_many l (b10 ^^^ (xs_L u 0 (xs_I u 15 b14.toNatClampNeg).toNatClampNeg)) r176 h176) (va_cwS 1 hts (xgS wd_727 wd_728 wd_9 wd_729) rfl rfl rfl pd_Model_many.2 ⟨Nat.le_of_ble_eq_true rfl, Nat.le_of_ble_eq_true rfl⟩) xpreS0 rfl rfl hl.1 rfl (lv_room (Nat.le_of_ble_eq_true rfl)) d_Model_merge_176 ⟨Nat.le_of_ble_eq_true rfl, Nat.le_of_ble_eq_true rfl⟩) hP hS (fun H locs hP hS => ?_)
      refine lv_iadd hx hb d_Model_merge_179 ?_
      refine lv_istore (lv' := [(9, .int (b9 + r176)), (15, .int (xs_I u 15 b14.toNatClampNeg)), (0, .ref (ad 0)), (1, .int b1), (10, .long b10), (12, .long b12), (14, .int b14)]) hx hb d_Model_merge_180 hl (Nat.le_of_ble_eq_true rfl) rfl (fun ls hl => ?_)
      refine lv_aload_n hx hb d_Model_merge_182 rfl (lv_at hl 2 rfl) ?_
      refine va_get (D := (dC, dI)) (ci := 8) (v := .ref (ad 6)) (C := "EventGraphTextModel") (T := T_Model) (N := 26) hx hb hT hin_Model hown hK hP 0 mW_X rfl 6 (by decide) (hT _ wd_564) (fun _ h9 => h9) rfl d_Model_merge_183 ?_
      refine lv_iload hx hb d_Model_merge_186 (lv_at hl 1 rfl) ?_
      refine va_lald hx hb hK hP 6 1 mW_X_earlier rfl g6 d_Model_merge_188 ?_
      refine lv_iload hx hb d_Model_merge_189 (lv_at hl 1 rfl) ?_
      obtain ⟨r191, h191, hm⟩ := xb1_some hm
      refine xc_l (va_runS (As := [.int (xs_I u 15 b14.toNatClampNeg)]) (rest := [.long (xs_L u 0 (xs_I u 15 b14.toNatClampNeg).toNatClampNeg)]) ⟨hx, hb, hml, hown, hts⟩ (c_Model_one l (xs_I u 15 b14.toNatClampNeg) r191 h191) (va_cwS 1 hts (xgS wd_659 wd_660 wd_9 wd_661) rfl rfl rfl pd_Model_one.2 ⟨Nat.le_of_ble_eq_true rfl, Nat.le_of_ble_eq_true rfl⟩) xpreS0 rfl rfl hl.1 rfl (lv_room (Nat.le_of_ble_eq_true rfl)) d_Model_merge_191 ⟨Nat.le_of_ble_eq_true rfl, Nat.le_of_ble_eq_true rfl⟩) hP hS (fun H locs hP hS => ?_)
      refine lv_lor hx hb d_Model_merge_194 ?_
      refine lv_lstore (lv' := [(10, .long ((xs_L u 0 (xs_I u 15 b14.toNatClampNeg).toNatClampNeg) ||| r191)), (9, .int (b9 + r176)), (15, .int (xs_I u 15 b14.toNatClampNeg)), (0, .ref (ad 0)), (1, .int b1), (12, .long b12), (14, .int b14)]) hx hb d_Model_merge_195 hl (Nat.le_of_ble_eq_true rfl) rfl (fun ls hl => ?_)
      refine lv_aload_n hx hb d_Model_merge_197 rfl (lv_at hl 3 rfl) ?_
      refine va_get (D := (dC, dI)) (ci := 8) (v := .ref (ad 20)) (C := "EventGraphTextModel") (T := T_Model) (N := 26) hx hb hT hin_Model hown hK hP 0 mW_X rfl 21 (by decide) (hT _ wd_579) (fun _ h9 => h9) rfl d_Model_merge_198 ?_
      refine lv_bipush (v := (40 : Int32)) hx hb d_Model_merge_201 (by decide) ?_
      refine lv_iload_n hx hb d_Model_merge_203 rfl (lv_at hl 4 rfl) ?_
      refine lv_imul hx hb d_Model_merge_204 ?_
      refine lv_iload hx hb d_Model_merge_205 (lv_at hl 6 rfl) ?_
      refine lv_iadd hx hb d_Model_merge_207 ?_
      refine lv_aload_n hx hb d_Model_merge_208 rfl (lv_at hl 3 rfl) ?_
      refine lv_lload hx hb d_Model_merge_209 (lv_at hl 5 rfl) ?_
      refine lv_iload hx hb d_Model_merge_211 (lv_at hl 2 rfl) ?_
      obtain ⟨r213, h213, hm⟩ := xb1_some hm
      refine xc_i (va_runV (C := "EventGraphTextModel") (As := [.long b12, .int (xs_I u 15 b14.toNatClampNeg)]) (rest := [.int (((40 : Int32) * b1) + b14), .ref (ad 20)]) ⟨hx, hb, hml, hown, hts⟩ (c_Model_effect l dC dI dT ad b12 (xs_I u 15 b14.toNatClampNeg) u r213 h213) (cwV 2 hts (xgV wd_759 wd_761 wds_32 wd_9 wd_762) rfl rfl rfl pd_Model_effect ⟨Nat.le_of_ble_eq_true rfl, Nat.le_of_ble_eq_true rfl⟩) (xpreV (C := "EventGraphTextModel") (T := T_Model) (N := 26) hP hK hN rfl mW_X) rfl rfl hl.1 rfl (lv_room (Nat.le_of_ble_eq_true rfl)) d_Model_merge_213 ⟨Nat.le_of_ble_eq_true rfl, Nat.le_of_ble_eq_true rfl⟩) hP hS (fun H locs hP hS => ?_)
      obtain ⟨g7, hm⟩ := xg_some hm
      obtain ⟨w216, hw216, hm⟩ := xlt_some hm
      refine va_iast hx hb hK hP (hD _) hS 20 0 mW_X_did rfl g7 d_Model_merge_216 (fun H locs hP _ hS => ?_)
      replace hP : va_P (dC, dI) xCl (mW dT ad w216) H := xp_conv ((mW_s_X_did).trans (congrArg (mW dT ad) hw216.symm)) hP
      refine lv_lload hx hb d_Model_merge_217 (lv_at hl 5 rfl) ?_
      refine lv_iload hx hb d_Model_merge_219 (lv_at hl 2 rfl) ?_
      obtain ⟨r221, h221, hm⟩ := xb1_some hm
      refine xc_l (va_runS (As := [.int (xs_I u 15 b14.toNatClampNeg)]) (rest := [.long b12]) ⟨hx, hb, hml, hown, hts⟩ (c_Model_one l (xs_I u 15 b14.toNatClampNeg) r221 h221) (va_cwS 1 hts (xgS wd_659 wd_660 wd_9 wd_661) rfl rfl rfl pd_Model_one.2 ⟨Nat.le_of_ble_eq_true rfl, Nat.le_of_ble_eq_true rfl⟩) xpreS0 rfl rfl hl.1 rfl (lv_room (Nat.le_of_ble_eq_true rfl)) d_Model_merge_221 ⟨Nat.le_of_ble_eq_true rfl, Nat.le_of_ble_eq_true rfl⟩) hP hS (fun H locs hP hS => ?_)
      refine lv_lor hx hb d_Model_merge_224 ?_
      refine lv_lstore (lv' := [(12, .long (b12 ||| r221)), (10, .long ((xs_L u 0 (xs_I u 15 b14.toNatClampNeg).toNatClampNeg) ||| r191)), (9, .int (b9 + r176)), (15, .int (xs_I u 15 b14.toNatClampNeg)), (0, .ref (ad 0)), (1, .int b1), (14, .int b14)]) hx hb d_Model_merge_225 hl (Nat.le_of_ble_eq_true rfl) rfl (fun ls hl => ?_)
      refine lv_iinc (k := 6) (v := (b14 + (1 : Int32))) (lv' := [(14, .int (b14 + (1 : Int32))), (12, .long (b12 ||| r221)), (10, .long ((xs_L u 0 (xs_I u 15 b14.toNatClampNeg).toNatClampNeg) ||| r191)), (9, .int (b9 + r176)), (15, .int (xs_I u 15 b14.toNatClampNeg)), (0, .ref (ad 0)), (1, .int b1)]) hx hb d_Model_merge_227 hl rfl rfl (Nat.le_of_ble_eq_true rfl) rfl (fun ls hl => ?_)
      refine lv_goto (tgt := 146) hx hb d_Model_merge_230 rfl ?_
      exact hk146 b1 (b9 + r176) ((xs_L u 0 (xs_I u 15 b14.toNatClampNeg).toNatClampNeg) ||| r191) (b12 ||| r221) (b14 + (1 : Int32)) w216 _ _ _ (lv_sub hl [5, 6, 3, 2, 1, 0] rfl) hP hS hm
  have hl146 : ∀ (fu : Nat), ∀ (b1 : Int32) (b9 : Int32) (b10 : Int64) (b12 : Int64) (b14 : Int32) (u : xS) (H : Heap) (locs : List Loc) (ls : Array Slot), lv_has ls 16 [(0, .ref (ad 0)), (1, .int b1), (9, .int b9), (10, .long b10), (12, .long b12), (14, .int b14)] → va_P (dC, dI) xCl (mW dT ad u) H → va_S (xA ad 23) s.heap H locs → m_Model_merge_l146 fu b1 b9 b10 b12 b14 u = some u1 → W p l e (xrm 4 101) s m args below meth c H locs 0 0 Q (F0 m 146 ls []) := by
    intro fu
    induction fu with
    | zero => intro b1 b9 b10 b12 b14 u H locs ls hl hP hS hm; exact absurd hm (fun z => by cases z)
    | succ n ih => intro b1 b9 b10 b12 b14 u H locs ls hl hP hS hm; exact hs146 (m_Model_merge_l146 n) ih b1 b9 b10 b12 b14 u H locs ls hl hP hS hm
  have hs77 : ∀ (k77 : Int32 → Int64 → Int64 → Int32 → Int64 → Int32 → xS → Option xS) (hk77 : ∀ (b1 : Int32) (b2 : Int64) (b4 : Int64) (b9 : Int32) (b10 : Int64) (b12 : Int32) (u : xS) (H : Heap) (locs : List Loc) (ls : Array Slot), lv_has ls 16 [(0, .ref (ad 0)), (1, .int b1), (2, .long b2), (4, .long b4), (9, .int b9), (10, .long b10), (12, .int b12)] → va_P (dC, dI) xCl (mW dT ad u) H → va_S (xA ad 23) s.heap H locs → k77 b1 b2 b4 b9 b10 b12 u = some u1 → W p l e (xrm 4 101) s m args below meth c H locs 0 0 Q (F0 m 77 ls [])), ∀ (b1 : Int32) (b2 : Int64) (b4 : Int64) (b9 : Int32) (b10 : Int64) (b12 : Int32) (u : xS) (H : Heap) (locs : List Loc) (ls : Array Slot), lv_has ls 16 [(0, .ref (ad 0)), (1, .int b1), (2, .long b2), (4, .long b4), (9, .int b9), (10, .long b10), (12, .int b12)] → va_P (dC, dI) xCl (mW dT ad u) H → va_S (xA ad 23) s.heap H locs → m_Model_merge_s77 k77 b1 b2 b4 b9 b10 b12 u = some u1 → W p l e (xrm 4 101) s m args below meth c H locs 0 0 Q (F0 m 77 ls []) := by
    intro k77 hk77 b1 b2 b4 b9 b10 b12 u H locs ls hl hP hS hm
    unfold m_Model_merge_s77 at hm
    refine lv_iload hx hb d_Model_merge_77 (lv_at hl 6 rfl) ?_
    refine lv_aload_n hx hb d_Model_merge_79 rfl (lv_at hl 0 rfl) ?_
    refine va_get (D := (dC, dI)) (ci := 8) (v := .int (xs_i u 2)) (C := "EventGraphTextModel") (T := T_Model) (N := 26) hx hb hT hin_Model hown hK hP 0 mW_X rfl 23 (by decide) (hT _ wd_581) (fun _ h9 => h9) rfl d_Model_merge_80 ?_
    refine lv_icmp_ge (tgt := 134) hx hb d_Model_merge_83 rfl (fun h => ?_) (fun h => ?_)
    · replace hm := xi_pos h hm
      refine lv_aload_n hx hb d_Model_merge_134 rfl (lv_at hl 0 rfl) ?_
      refine lv_lload_n hx hb d_Model_merge_135 rfl (lv_at hl 2 rfl) ?_
      obtain ⟨u136, h136, hm⟩ := xb1_some hm
      refine xc_vw (Wd := mW dT ad) (va_runV (C := "EventGraphTextModel") (As := [.long b2]) (rest := []) ⟨hx, hb, hml, hown, hts⟩ (c_Model_order l dC dI dT ad hD b2 u u136 h136) (cwV 1 hts (xgV wd_747 wd_749 wds_31 wd_9 wd_750) rfl rfl rfl pd_Model_order ⟨Nat.le_of_ble_eq_true rfl, Nat.le_of_ble_eq_true rfl⟩) (xpreV (C := "EventGraphTextModel") (T := T_Model) (N := 26) hP hK hN rfl mW_X) rfl rfl hl.1 rfl (lv_room (Nat.le_of_ble_eq_true rfl)) d_Model_merge_136 ⟨Nat.le_of_ble_eq_true rfl, Nat.le_of_ble_eq_true rfl⟩) hS (fun _ h => h) (fun H locs hP hS => ?_)
      refine lv_lload hx hb d_Model_merge_139 (lv_at hl 3 rfl) ?_
      refine lv_lstore (lv' := [(12, .long b4), (0, .ref (ad 0)), (1, .int b1), (2, .long b2), (4, .long b4), (9, .int b9), (10, .long b10)]) hx hb d_Model_merge_141 hl (Nat.le_of_ble_eq_true rfl) rfl (fun ls hl => ?_)
      refine lv_iconst (v := (0 : Int32)) hx hb d_Model_merge_143 (by decide) ?_
      refine lv_istore (lv' := [(14, .int (0 : Int32)), (12, .long b4), (0, .ref (ad 0)), (1, .int b1), (2, .long b2), (4, .long b4), (9, .int b9), (10, .long b10)]) hx hb d_Model_merge_144 hl (Nat.le_of_ble_eq_true rfl) rfl (fun ls hl => ?_)
      exact hl146 xFU b1 b9 b10 b4 (0 : Int32) u136 _ _ _ (lv_sub hl [2, 3, 6, 7, 1, 0] rfl) hP hS hm
    · replace hm := xi_neg h hm
      refine lv_aload_n hx hb d_Model_merge_86 rfl (lv_at hl 0 rfl) ?_
      refine va_get (D := (dC, dI)) (ci := 8) (v := .ref (ad 21)) (C := "EventGraphTextModel") (T := T_Model) (N := 26) hx hb hT hin_Model hown hK hP 0 mW_X rfl 22 (by decide) (hT _ wd_580) (fun _ h9 => h9) rfl d_Model_merge_87 ?_
      refine lv_iload hx hb d_Model_merge_90 (lv_at hl 6 rfl) ?_
      obtain ⟨g8, hm⟩ := xg_some hm
      refine va_iald hx hb hK hP 21 0 mW_X_turn rfl g8 d_Model_merge_92 ?_
      refine lv_istore (lv' := [(13, .int (xs_I u 15 b12.toNatClampNeg)), (0, .ref (ad 0)), (1, .int b1), (2, .long b2), (4, .long b4), (9, .int b9), (10, .long b10), (12, .int b12)]) hx hb d_Model_merge_93 hl (Nat.le_of_ble_eq_true rfl) rfl (fun ls hl => ?_)
      refine lv_iload hx hb d_Model_merge_95 (lv_at hl 5 rfl) ?_
      refine lv_lload hx hb d_Model_merge_97 (lv_at hl 6 rfl) ?_
      refine lv_aload_n hx hb d_Model_merge_99 rfl (lv_at hl 1 rfl) ?_
      refine va_get (D := (dC, dI)) (ci := 8) (v := .ref (ad 6)) (C := "EventGraphTextModel") (T := T_Model) (N := 26) hx hb hT hin_Model hown hK hP 0 mW_X rfl 6 (by decide) (hT _ wd_564) (fun _ h9 => h9) rfl d_Model_merge_100 ?_
      refine lv_iload hx hb d_Model_merge_103 (lv_at hl 0 rfl) ?_
      obtain ⟨g9, hm⟩ := xg_some hm
      refine va_lald hx hb hK hP 6 1 mW_X_earlier rfl g9 d_Model_merge_105 ?_
      refine lv_lxor hx hb d_Model_merge_106 ?_
      obtain ⟨r107, h107, hm⟩ := xb1_some hm
      refine xc_i (va_runS (As := [.long (b10 ^^^ (xs_L u 0 (xs_I u 15 b12.toNatClampNeg).toNatClampNeg))]) (rest := [.int b9]) ⟨hx, hb, hml, hown, hts⟩ (c_Model_many l (b10 ^^^ (xs_L u 0 (xs_I u 15 b12.toNatClampNeg).toNatClampNeg)) r107 h107) (va_cwS 1 hts (xgS wd_727 wd_728 wd_9 wd_729) rfl rfl rfl pd_Model_many.2 ⟨Nat.le_of_ble_eq_true rfl, Nat.le_of_ble_eq_true rfl⟩) xpreS0 rfl rfl hl.1 rfl (lv_room (Nat.le_of_ble_eq_true rfl)) d_Model_merge_107 ⟨Nat.le_of_ble_eq_true rfl, Nat.le_of_ble_eq_true rfl⟩) hP hS (fun H locs hP hS => ?_)
      refine lv_iadd hx hb d_Model_merge_110 ?_
      refine lv_istore (lv' := [(9, .int (b9 + r107)), (13, .int (xs_I u 15 b12.toNatClampNeg)), (0, .ref (ad 0)), (1, .int b1), (2, .long b2), (4, .long b4), (10, .long b10), (12, .int b12)]) hx hb d_Model_merge_111 hl (Nat.le_of_ble_eq_true rfl) rfl (fun ls hl => ?_)
      refine lv_aload_n hx hb d_Model_merge_113 rfl (lv_at hl 2 rfl) ?_
      refine va_get (D := (dC, dI)) (ci := 8) (v := .ref (ad 6)) (C := "EventGraphTextModel") (T := T_Model) (N := 26) hx hb hT hin_Model hown hK hP 0 mW_X rfl 6 (by decide) (hT _ wd_564) (fun _ h9 => h9) rfl d_Model_merge_114 ?_
      refine lv_iload hx hb d_Model_merge_117 (lv_at hl 1 rfl) ?_
      refine va_lald hx hb hK hP 6 1 mW_X_earlier rfl g9 d_Model_merge_119 ?_
      refine lv_iload hx hb d_Model_merge_120 (lv_at hl 1 rfl) ?_
      obtain ⟨r122, h122, hm⟩ := xb1_some hm
      refine xc_l (va_runS (As := [.int (xs_I u 15 b12.toNatClampNeg)]) (rest := [.long (xs_L u 0 (xs_I u 15 b12.toNatClampNeg).toNatClampNeg)]) ⟨hx, hb, hml, hown, hts⟩ (c_Model_one l (xs_I u 15 b12.toNatClampNeg) r122 h122) (va_cwS 1 hts (xgS wd_659 wd_660 wd_9 wd_661) rfl rfl rfl pd_Model_one.2 ⟨Nat.le_of_ble_eq_true rfl, Nat.le_of_ble_eq_true rfl⟩) xpreS0 rfl rfl hl.1 rfl (lv_room (Nat.le_of_ble_eq_true rfl)) d_Model_merge_122 ⟨Nat.le_of_ble_eq_true rfl, Nat.le_of_ble_eq_true rfl⟩) hP hS (fun H locs hP hS => ?_)
      refine lv_lor hx hb d_Model_merge_125 ?_
      refine lv_lstore (lv' := [(10, .long ((xs_L u 0 (xs_I u 15 b12.toNatClampNeg).toNatClampNeg) ||| r122)), (9, .int (b9 + r107)), (13, .int (xs_I u 15 b12.toNatClampNeg)), (0, .ref (ad 0)), (1, .int b1), (2, .long b2), (4, .long b4), (12, .int b12)]) hx hb d_Model_merge_126 hl (Nat.le_of_ble_eq_true rfl) rfl (fun ls hl => ?_)
      refine lv_iinc (k := 7) (v := (b12 + (1 : Int32))) (lv' := [(12, .int (b12 + (1 : Int32))), (10, .long ((xs_L u 0 (xs_I u 15 b12.toNatClampNeg).toNatClampNeg) ||| r122)), (9, .int (b9 + r107)), (13, .int (xs_I u 15 b12.toNatClampNeg)), (0, .ref (ad 0)), (1, .int b1), (2, .long b2), (4, .long b4)]) hx hb d_Model_merge_128 hl rfl rfl (Nat.le_of_ble_eq_true rfl) rfl (fun ls hl => ?_)
      refine lv_goto (tgt := 77) hx hb d_Model_merge_131 rfl ?_
      exact hk77 b1 b2 b4 (b9 + r107) ((xs_L u 0 (xs_I u 15 b12.toNatClampNeg).toNatClampNeg) ||| r122) (b12 + (1 : Int32)) u _ _ _ (lv_sub hl [4, 5, 6, 7, 2, 1, 0] rfl) hP hS hm
  have hl77 : ∀ (fu : Nat), ∀ (b1 : Int32) (b2 : Int64) (b4 : Int64) (b9 : Int32) (b10 : Int64) (b12 : Int32) (u : xS) (H : Heap) (locs : List Loc) (ls : Array Slot), lv_has ls 16 [(0, .ref (ad 0)), (1, .int b1), (2, .long b2), (4, .long b4), (9, .int b9), (10, .long b10), (12, .int b12)] → va_P (dC, dI) xCl (mW dT ad u) H → va_S (xA ad 23) s.heap H locs → m_Model_merge_l77 fu b1 b2 b4 b9 b10 b12 u = some u1 → W p l e (xrm 4 101) s m args below meth c H locs 0 0 Q (F0 m 77 ls []) := by
    intro fu
    induction fu with
    | zero => intro b1 b2 b4 b9 b10 b12 u H locs ls hl hP hS hm; exact absurd hm (fun z => by cases z)
    | succ n ih => intro b1 b2 b4 b9 b10 b12 u H locs ls hl hP hS hm; exact hs77 (m_Model_merge_l77 n) ih b1 b2 b4 b9 b10 b12 u H locs ls hl hP hS hm
  have hb42 : ∀ (b1 : Int32) (b2 : Int64) (b4 : Int64) (t0 : Int64) (u : xS) (H : Heap) (locs : List Loc) (ls : Array Slot), lv_has ls 16 [(0, .ref (ad 0)), (1, .int b1), (2, .long b2), (4, .long b4)] → va_P (dC, dI) xCl (mW dT ad u) H → va_S (xA ad 23) s.heap H locs → m_Model_merge_b42 b1 b2 b4 t0 u = some u1 → W p l e (xrm 4 101) s m args below meth c H locs 0 0 Q (F0 m 42 ls [.long t0]) := by
    intro b1 b2 b4 t0 u H locs ls hl hP hS hm
    unfold m_Model_merge_b42 at hm
    refine lv_lstore (lv' := [(7, .long t0), (0, .ref (ad 0)), (1, .int b1), (2, .long b2), (4, .long b4)]) hx hb d_Model_merge_42 hl (Nat.le_of_ble_eq_true rfl) rfl (fun ls hl => ?_)
    refine lv_aload_n hx hb d_Model_merge_44 rfl (lv_at hl 1 rfl) ?_
    refine lv_lload hx hb d_Model_merge_45 (lv_at hl 4 rfl) ?_
    refine lv_lload hx hb d_Model_merge_47 (lv_at hl 0 rfl) ?_
    refine lv_ldc2 (v := (-1 : Int64)) hx hb hown (hT _ wd_678) d_Model_merge_49 ?_
    refine lv_lxor hx hb d_Model_merge_52 ?_
    refine lv_land hx hb d_Model_merge_53 ?_
    obtain ⟨u54, h54, hm⟩ := xb1_some hm
    refine xc_vw (Wd := mW dT ad) (va_runV (C := "EventGraphTextModel") (As := [.long (b4 &&& (t0 ^^^ (-1 : Int64)))]) (rest := []) ⟨hx, hb, hml, hown, hts⟩ (c_Model_order l dC dI dT ad hD (b4 &&& (t0 ^^^ (-1 : Int64))) u u54 h54) (cwV 1 hts (xgV wd_747 wd_749 wds_31 wd_9 wd_750) rfl rfl rfl pd_Model_order ⟨Nat.le_of_ble_eq_true rfl, Nat.le_of_ble_eq_true rfl⟩) (xpreV (C := "EventGraphTextModel") (T := T_Model) (N := 26) hP hK hN rfl mW_X) rfl rfl hl.1 rfl (lv_room (Nat.le_of_ble_eq_true rfl)) d_Model_merge_54 ⟨Nat.le_of_ble_eq_true rfl, Nat.le_of_ble_eq_true rfl⟩) hS (fun _ h => h) (fun H locs hP hS => ?_)
    refine lv_aload_n hx hb d_Model_merge_57 rfl (lv_at hl 1 rfl) ?_
    refine va_get (D := (dC, dI)) (ci := 8) (v := .ref (ad 17)) (C := "EventGraphTextModel") (T := T_Model) (N := 26) hx hb hT hin_Model hown hK hP 0 mW_X rfl 18 (by decide) (hT _ wd_576) (fun _ h9 => h9) rfl d_Model_merge_58 ?_
    refine lv_iload_n hx hb d_Model_merge_61 rfl (lv_at hl 2 rfl) ?_
    refine lv_aload_n hx hb d_Model_merge_62 rfl (lv_at hl 1 rfl) ?_
    refine va_get (D := (dC, dI)) (ci := 8) (v := .int (xs_i u54 2)) (C := "EventGraphTextModel") (T := T_Model) (N := 26) hx hb hT hin_Model hown hK hP 0 mW_X rfl 23 (by decide) (hT _ wd_581) (fun _ h9 => h9) rfl d_Model_merge_63 ?_
    obtain ⟨g3, hm⟩ := xg_some hm
    obtain ⟨w66, hw66, hm⟩ := xlt_some hm
    refine va_iast hx hb hK hP (hD _) hS 17 0 mW_X_again rfl g3 d_Model_merge_66 (fun H locs hP _ hS => ?_)
    replace hP : va_P (dC, dI) xCl (mW dT ad w66) H := xp_conv ((mW_s_X_again).trans (congrArg (mW dT ad) hw66.symm)) hP
    refine lv_iconst (v := (0 : Int32)) hx hb d_Model_merge_67 (by decide) ?_
    refine lv_istore (lv' := [(9, .int (0 : Int32)), (7, .long t0), (0, .ref (ad 0)), (1, .int b1), (2, .long b2), (4, .long b4)]) hx hb d_Model_merge_68 hl (Nat.le_of_ble_eq_true rfl) rfl (fun ls hl => ?_)
    refine lv_lload hx hb d_Model_merge_70 (lv_at hl 1 rfl) ?_
    refine lv_lstore (lv' := [(10, .long t0), (9, .int (0 : Int32)), (7, .long t0), (0, .ref (ad 0)), (1, .int b1), (2, .long b2), (4, .long b4)]) hx hb d_Model_merge_72 hl (Nat.le_of_ble_eq_true rfl) rfl (fun ls hl => ?_)
    refine lv_iconst (v := (0 : Int32)) hx hb d_Model_merge_74 (by decide) ?_
    refine lv_istore (lv' := [(12, .int (0 : Int32)), (10, .long t0), (9, .int (0 : Int32)), (7, .long t0), (0, .ref (ad 0)), (1, .int b1), (2, .long b2), (4, .long b4)]) hx hb d_Model_merge_75 hl (Nat.le_of_ble_eq_true rfl) rfl (fun ls hl => ?_)
    exact hl77 xFU b1 b2 b4 (0 : Int32) t0 (0 : Int32) w66 _ _ _ (lv_sub hl [4, 5, 6, 7, 2, 1, 0] rfl) hP hS hm
  unfold m_Model_merge at hm
  refine lv_aload_n hx hb d_Model_merge_0 rfl (lv_at hl 0 rfl) ?_
  refine va_get (D := (dC, dI)) (ci := 8) (v := .ref (ad 12)) (C := "EventGraphTextModel") (T := T_Model) (N := 26) hx hb hT hin_Model hown hK hP 0 mW_X rfl 13 (by decide) (hT _ wd_571) (fun _ h9 => h9) rfl d_Model_merge_1 ?_
  refine lv_iload_n hx hb d_Model_merge_4 rfl (lv_at hl 1 rfl) ?_
  obtain ⟨g1, hm⟩ := xg_some hm
  refine va_lald hx hb hK hP 12 1 mW_X_graph rfl g1 d_Model_merge_5 ?_
  refine lv_lstore (lv' := [(4, .long (xs_L u 2 a1.toNatClampNeg)), (0, .ref (ad 0)), (1, .int a1), (2, .long a2)]) hx hb d_Model_merge_6 hl (Nat.le_of_ble_eq_true rfl) rfl (fun ls hl => ?_)
  refine lv_aload_n hx hb d_Model_merge_8 rfl (lv_at hl 1 rfl) ?_
  refine lv_lload hx hb d_Model_merge_9 (lv_at hl 0 rfl) ?_
  refine lv_lload_n hx hb d_Model_merge_11 rfl (lv_at hl 3 rfl) ?_
  refine lv_lor hx hb d_Model_merge_12 ?_
  refine lv_lload hx hb d_Model_merge_13 (lv_at hl 0 rfl) ?_
  obtain ⟨r15, h15, hm⟩ := xb1_some hm
  refine xc_i (va_runV (C := "EventGraphTextModel") (As := [.long ((xs_L u 2 a1.toNatClampNeg) ||| a2), .long (xs_L u 2 a1.toNatClampNeg)]) (rest := []) ⟨hx, hb, hml, hown, hts⟩ (c_Model_top l dC dI dT ad ((xs_L u 2 a1.toNatClampNeg) ||| a2) (xs_L u 2 a1.toNatClampNeg) u r15 h15) (cwV 2 hts (xgV wd_739 wd_741 wds_30 wd_9 wd_742) rfl rfl rfl pd_Model_top ⟨Nat.le_of_ble_eq_true rfl, Nat.le_of_ble_eq_true rfl⟩) (xpreV (C := "EventGraphTextModel") (T := T_Model) (N := 26) hP hK hN rfl mW_X) rfl rfl hl.1 rfl (lv_room (Nat.le_of_ble_eq_true rfl)) d_Model_merge_15 ⟨Nat.le_of_ble_eq_true rfl, Nat.le_of_ble_eq_true rfl⟩) hP hS (fun H locs hP hS => ?_)
  refine lv_istore (lv' := [(6, .int r15), (4, .long (xs_L u 2 a1.toNatClampNeg)), (0, .ref (ad 0)), (1, .int a1), (2, .long a2)]) hx hb d_Model_merge_18 hl (Nat.le_of_ble_eq_true rfl) rfl (fun ls hl => ?_)
  refine lv_iload hx hb d_Model_merge_20 (lv_at hl 0 rfl) ?_
  refine lv_if_ge (tgt := 29) hx hb d_Model_merge_22 rfl (fun h => ?_) (fun h => ?_)
  · replace hm := xi_pos h hm
    refine lv_aload_n hx hb d_Model_merge_29 rfl (lv_at hl 2 rfl) ?_
    refine va_get (D := (dC, dI)) (ci := 8) (v := .ref (ad 6)) (C := "EventGraphTextModel") (T := T_Model) (N := 26) hx hb hT hin_Model hown hK hP 0 mW_X rfl 6 (by decide) (hT _ wd_564) (fun _ h9 => h9) rfl d_Model_merge_30 ?_
    refine lv_iload hx hb d_Model_merge_33 (lv_at hl 0 rfl) ?_
    obtain ⟨g2, hm⟩ := xg_some hm
    refine va_lald hx hb hK hP 6 1 mW_X_earlier rfl g2 d_Model_merge_35 ?_
    refine lv_iload hx hb d_Model_merge_36 (lv_at hl 0 rfl) ?_
    obtain ⟨r38, h38, hm⟩ := xb1_some hm
    refine xc_l (va_runS (As := [.int r15]) (rest := [.long (xs_L u 0 r15.toNatClampNeg)]) ⟨hx, hb, hml, hown, hts⟩ (c_Model_one l r15 r38 h38) (va_cwS 1 hts (xgS wd_659 wd_660 wd_9 wd_661) rfl rfl rfl pd_Model_one.2 ⟨Nat.le_of_ble_eq_true rfl, Nat.le_of_ble_eq_true rfl⟩) xpreS0 rfl rfl hl.1 rfl (lv_room (Nat.le_of_ble_eq_true rfl)) d_Model_merge_38 ⟨Nat.le_of_ble_eq_true rfl, Nat.le_of_ble_eq_true rfl⟩) hP hS (fun H locs hP hS => ?_)
    refine lv_lor hx hb d_Model_merge_41 ?_
    exact hb42 a1 a2 (xs_L u 2 a1.toNatClampNeg) ((xs_L u 0 r15.toNatClampNeg) ||| r38) u _ _ _ (lv_sub hl [2, 3, 4, 1] rfl) hP hS hm
  · replace hm := xi_neg h hm
    refine lv_lconst (v := (0 : Int64)) hx hb d_Model_merge_25 (by decide) ?_
    refine lv_goto (tgt := 42) hx hb d_Model_merge_26 rfl ?_
    exact hb42 a1 a2 (xs_L u 2 a1.toNatClampNeg) (0 : Int64) u _ _ _ (lv_sub hl [2, 3, 4, 1] rfl) hP hS hm
