set_option maxHeartbeats 4000000 in
set_option maxRecDepth 100000 in
theorem c_Model_deliver (l : Launch) (dC : Nat → ClassId) (dI : Nat → Nat → Nat) (dT : Nat → ClassId) (ad : Nat → Nat) (hD : ∀ u, va_D (xA ad 23) (mW dT ad u)) (a1 : Int32) (u : xS) (out : Int32) (u1 : xS) (hm : m_Model_deliver a1 u = some (out, u1)) : Met l y_Model_deliver (Cond.code y_Model_deliver b_Model_deliver 7 (some .int) :: xG) (xrm 5 136) (va_Pc [.ref (ad 0), .int a1] (xR (dC, dI) xCl (xT dT) (mW dT ad u))) (va_Qi (fun r9 (u9 : xS) => r9 = out ∧ u9 = u1) (fun u9 t => va_P (dC, dI) xCl (mW dT ad u9) t.heap) (xA ad 23)) 0 0 (xA ad 23) := by
  refine xm_rwi (Wd := mW dT ad) (cc := b_Model_deliver) (maxL := 7) (by decide) rfl (Nat.le_of_ble_eq_true rfl) ?_
  intro p e s m args below meth c Q ls hx hb hml hts hown hK hN hP hl hret
  have hT : ∀ w ∈ xG, w.before args s = true := fun w h => hts w (List.mem_cons_of_mem _ h)
  have hown : s.vm.findClass "EventGraphTextModel" = some m.cls := hown
  have hl : lv_has ls 7 [(0, .ref (ad 0)), (1, .int a1)] := hl
  have hS : va_S (xA ad 23) s.heap s.heap [] := va_S.rf
  have hb131 : ∀ (b5 : Int64) (u : xS) (H : Heap) (locs : List Loc) (ls : Array Slot), lv_has ls 7 [(5, .long b5)] → va_P (dC, dI) xCl (mW dT ad u) H → va_S (xA ad 23) s.heap H locs → m_Model_deliver_b131 b5 u = some (out, u1) → W p l e (xrm 5 136) s m args below meth c H locs 0 0 Q (F0 m 131 ls []) := by
    intro b5 u H locs ls hl hP hS hm
    unfold m_Model_deliver_b131 at hm
    refine lv_lload hx hb d_Model_deliver_131 (lv_at hl 0 rfl) ?_
    obtain ⟨r133, h133, hm⟩ := xb1_some hm
    refine xc_i (va_runS (As := [.long b5]) (rest := []) ⟨hx, hb, hml, hown, hts⟩ (c_Model_many l b5 r133 h133) (va_cwS 1 hts (xgS wd_727 wd_728 wd_9 wd_729) rfl rfl rfl pd_Model_many.2 ⟨Nat.le_of_ble_eq_true rfl, Nat.le_of_ble_eq_true rfl⟩) xpreS0 rfl rfl hl.1 rfl (lv_room (Nat.le_of_ble_eq_true rfl)) d_Model_deliver_133 ⟨Nat.le_of_ble_eq_true rfl, Nat.le_of_ble_eq_true rfl⟩) hP hS (fun H locs hP hS => ?_)
    exact hret hm hP hS d_Model_deliver_136
  have hs29 : ∀ (k29 : Int32 → Int32 → Int64 → Int32 → xS → Option (Int32 × xS)) (hk29 : ∀ (b1 : Int32) (b2 : Int32) (b3 : Int64) (b5 : Int32) (u : xS) (H : Heap) (locs : List Loc) (ls : Array Slot), lv_has ls 7 [(0, .ref (ad 0)), (1, .int b1), (2, .int b2), (3, .long b3), (5, .int b5)] → va_P (dC, dI) xCl (mW dT ad u) H → va_S (xA ad 23) s.heap H locs → k29 b1 b2 b3 b5 u = some (out, u1) → W p l e (xrm 5 136) s m args below meth c H locs 0 0 Q (F0 m 29 ls [])), ∀ (b1 : Int32) (b2 : Int32) (b3 : Int64) (b5 : Int32) (u : xS) (H : Heap) (locs : List Loc) (ls : Array Slot), lv_has ls 7 [(0, .ref (ad 0)), (1, .int b1), (2, .int b2), (3, .long b3), (5, .int b5)] → va_P (dC, dI) xCl (mW dT ad u) H → va_S (xA ad 23) s.heap H locs → m_Model_deliver_s29 k29 b1 b2 b3 b5 u = some (out, u1) → W p l e (xrm 5 136) s m args below meth c H locs 0 0 Q (F0 m 29 ls []) := by
    intro k29 hk29 b1 b2 b3 b5 u H locs ls hl hP hS hm
    unfold m_Model_deliver_s29 at hm
    refine lv_iload hx hb d_Model_deliver_29 (lv_at hl 4 rfl) ?_
    refine lv_aload_n hx hb d_Model_deliver_31 rfl (lv_at hl 0 rfl) ?_
    refine va_get (D := (dC, dI)) (ci := 8) (v := .int (xs_i u 0)) (C := "EventGraphTextModel") (T := T_Model) (N := 26) hx hb hT hin_Model hown hK hP 0 mW_X rfl 0 (by decide) (hT _ wd_558) (fun _ h9 => h9) rfl d_Model_deliver_32 ?_
    refine lv_icmp_ge (tgt := 80) hx hb d_Model_deliver_35 rfl (fun h => ?_) (fun h => ?_)
    · replace hm := xi_pos h hm
      refine lv_aload_n hx hb d_Model_deliver_80 rfl (lv_at hl 0 rfl) ?_
      refine va_get (D := (dC, dI)) (ci := 8) (v := .ref (ad 13)) (C := "EventGraphTextModel") (T := T_Model) (N := 26) hx hb hT hin_Model hown hK hP 0 mW_X rfl 14 (by decide) (hT _ wd_572) (fun _ h9 => h9) rfl d_Model_deliver_81 ?_
      refine lv_iconst (v := (3 : Int32)) hx hb d_Model_deliver_84 (by decide) ?_
      refine lv_iload_n hx hb d_Model_deliver_85 rfl (lv_at hl 2 rfl) ?_
      refine lv_imul hx hb d_Model_deliver_86 ?_
      refine lv_aload_n hx hb d_Model_deliver_87 rfl (lv_at hl 0 rfl) ?_
      refine va_get (D := (dC, dI)) (ci := 8) (v := .ref (ad 15)) (C := "EventGraphTextModel") (T := T_Model) (N := 26) hx hb hT hin_Model hown hK hP 0 mW_X rfl 16 (by decide) (hT _ wd_574) (fun _ h9 => h9) rfl d_Model_deliver_88 ?_
      refine lv_iload_n hx hb d_Model_deliver_91 rfl (lv_at hl 1 rfl) ?_
      obtain ⟨g2, hm⟩ := xg_some hm
      refine va_iald hx hb hK hP 15 0 mW_X_sender rfl g2 d_Model_deliver_92 ?_
      refine lv_iadd hx hb d_Model_deliver_93 ?_
      refine lv_dup2_11 hx hb d_Model_deliver_94 rfl rfl ?_
      obtain ⟨g3, hm⟩ := xg_some hm
      refine va_lald hx hb hK hP 13 1 mW_X_thought rfl g3 d_Model_deliver_95 ?_
      refine lv_aload_n hx hb d_Model_deliver_96 rfl (lv_at hl 0 rfl) ?_
      refine lv_lload_n hx hb d_Model_deliver_97 rfl (lv_at hl 3 rfl) ?_
      obtain ⟨r98, h98, hm⟩ := xb1_some hm
      refine xc_l (va_runV (C := "EventGraphTextModel") (As := [.long b3]) (rest := [.long (xs_L u 3 (((3 : Int32) * b2) + (xs_I u 9 b1.toNatClampNeg)).toNatClampNeg), .int (((3 : Int32) * b2) + (xs_I u 9 b1.toNatClampNeg)), .ref (ad 13)]) ⟨hx, hb, hml, hown, hts⟩ (c_Model_whole l dC dI dT ad b3 u r98 h98) (cwV 1 hts (xgV wd_719 wd_721 wds_28 wd_9 wd_722) rfl rfl rfl pd_Model_whole ⟨Nat.le_of_ble_eq_true rfl, Nat.le_of_ble_eq_true rfl⟩) (xpreV (C := "EventGraphTextModel") (T := T_Model) (N := 26) hP hK hN rfl mW_X) rfl rfl hl.1 rfl (lv_room (Nat.le_of_ble_eq_true rfl)) d_Model_deliver_98 ⟨Nat.le_of_ble_eq_true rfl, Nat.le_of_ble_eq_true rfl⟩) hP hS (fun H locs hP hS => ?_)
      refine lv_lor hx hb d_Model_deliver_101 ?_
      obtain ⟨w102, hw102, hm⟩ := xlt_some hm
      refine va_last hx hb hK hP (hD _) hS 13 1 mW_X_thought rfl g3 d_Model_deliver_102 (fun H locs hP _ hS => ?_)
      replace hP : va_P (dC, dI) xCl (mW dT ad w102) H := xp_conv ((mW_s_X_thought).trans (congrArg (mW dT ad) hw102.symm)) hP
      refine lv_lload_n hx hb d_Model_deliver_103 rfl (lv_at hl 3 rfl) ?_
      refine lv_aload_n hx hb d_Model_deliver_104 rfl (lv_at hl 0 rfl) ?_
      refine va_get (D := (dC, dI)) (ci := 8) (v := .ref (ad 12)) (C := "EventGraphTextModel") (T := T_Model) (N := 26) hx hb hT hin_Model hown hK hP 0 mW_X rfl 13 (by decide) (hT _ wd_571) (fun _ h9 => h9) rfl d_Model_deliver_105 ?_
      refine lv_iload_n hx hb d_Model_deliver_108 rfl (lv_at hl 2 rfl) ?_
      obtain ⟨g4, hm⟩ := xg_some hm
      refine va_lald hx hb hK hP 12 1 mW_X_graph rfl g4 d_Model_deliver_109 ?_
      refine lv_ldc2 (v := (-1 : Int64)) hx hb hown (hT _ wd_678) d_Model_deliver_110 ?_
      refine lv_lxor hx hb d_Model_deliver_113 ?_
      refine lv_land hx hb d_Model_deliver_114 ?_
      refine lv_lstore (lv' := [(5, .long (b3 &&& ((xs_L w102 2 b2.toNatClampNeg) ^^^ (-1 : Int64)))), (0, .ref (ad 0)), (1, .int b1), (2, .int b2), (3, .long b3)]) hx hb d_Model_deliver_115 hl (Nat.le_of_ble_eq_true rfl) rfl (fun ls hl => ?_)
      refine lv_lload hx hb d_Model_deliver_117 (lv_at hl 0 rfl) ?_
      refine lv_lconst (v := (0 : Int64)) hx hb d_Model_deliver_119 (by decide) ?_
      refine xl_cmp_eq (tgt := 131) hx hb d_Model_deliver_120 d_Model_deliver_121 rfl (fun h => ?_) (fun h => ?_)
      · replace hm := xi_pos h hm
        exact hb131 (b3 &&& ((xs_L w102 2 b2.toNatClampNeg) ^^^ (-1 : Int64))) w102 _ _ _ (lv_sub hl [0] rfl) hP hS hm
      · replace hm := xi_neg h hm
        refine lv_aload_n hx hb d_Model_deliver_124 rfl (lv_at hl 1 rfl) ?_
        refine lv_iload_n hx hb d_Model_deliver_125 rfl (lv_at hl 3 rfl) ?_
        refine lv_lload hx hb d_Model_deliver_126 (lv_at hl 0 rfl) ?_
        obtain ⟨u128, h128, hm⟩ := xb1_some hm
        refine xc_vw (Wd := mW dT ad) (va_runV (C := "EventGraphTextModel") (As := [.int b2, .long (b3 &&& ((xs_L w102 2 b2.toNatClampNeg) ^^^ (-1 : Int64)))]) (rest := []) ⟨hx, hb, hml, hown, hts⟩ (c_Model_merge l dC dI dT ad hD b2 (b3 &&& ((xs_L w102 2 b2.toNatClampNeg) ^^^ (-1 : Int64))) w102 u128 h128) (cwV 2 hts (xgV wd_735 wd_737 wds_33 wd_9 wd_738) rfl rfl rfl pd_Model_merge ⟨Nat.le_of_ble_eq_true rfl, Nat.le_of_ble_eq_true rfl⟩) (xpreV (C := "EventGraphTextModel") (T := T_Model) (N := 26) hP hK hN rfl mW_X) rfl rfl hl.1 rfl (lv_room (Nat.le_of_ble_eq_true rfl)) d_Model_deliver_128 ⟨Nat.le_of_ble_eq_true rfl, Nat.le_of_ble_eq_true rfl⟩) hS (fun _ h => h) (fun H locs hP hS => ?_)
        exact hb131 (b3 &&& ((xs_L w102 2 b2.toNatClampNeg) ^^^ (-1 : Int64))) u128 _ _ _ (lv_sub hl [0] rfl) hP hS hm
    · replace hm := xi_neg h hm
      refine lv_lload_n hx hb d_Model_deliver_38 rfl (lv_at hl 3 rfl) ?_
      refine lv_iload hx hb d_Model_deliver_39 (lv_at hl 4 rfl) ?_
      obtain ⟨r41, h41, hm⟩ := xb1_some hm
      refine xc_i (va_runS (As := [.long b3, .int b5]) (rest := []) ⟨hx, hb, hml, hown, hts⟩ (c_Model_in l b3 b5 r41 h41) (va_cwS 2 hts (xgS wd_656 wd_657 wd_9 wd_658) rfl rfl rfl pd_Model_in.2 ⟨Nat.le_of_ble_eq_true rfl, Nat.le_of_ble_eq_true rfl⟩) xpreS0 rfl rfl hl.1 rfl (lv_room (Nat.le_of_ble_eq_true rfl)) d_Model_deliver_41 ⟨Nat.le_of_ble_eq_true rfl, Nat.le_of_ble_eq_true rfl⟩) hP hS (fun H locs hP hS => ?_)
      refine lv_if_eq (tgt := 74) hx hb d_Model_deliver_44 rfl (fun h => ?_) (fun h => ?_)
      · replace hm := xi_pos h hm
        refine lv_iinc (k := 4) (v := (b5 + (1 : Int32))) (lv' := [(5, .int (b5 + (1 : Int32))), (0, .ref (ad 0)), (1, .int b1), (2, .int b2), (3, .long b3)]) hx hb d_Model_deliver_74 hl rfl rfl (Nat.le_of_ble_eq_true rfl) rfl (fun ls hl => ?_)
        refine lv_goto (tgt := 29) hx hb d_Model_deliver_77 rfl ?_
        exact hk29 b1 b2 b3 (b5 + (1 : Int32)) u _ _ _ (lv_sub hl [1, 2, 3, 4, 0] rfl) hP hS hm
      · replace hm := xi_neg h hm
        refine lv_aload_n hx hb d_Model_deliver_47 rfl (lv_at hl 0 rfl) ?_
        refine va_get (D := (dC, dI)) (ci := 8) (v := .ref (ad 7)) (C := "EventGraphTextModel") (T := T_Model) (N := 26) hx hb hT hin_Model hown hK hP 0 mW_X rfl 7 (by decide) (hT _ wd_565) (fun _ h9 => h9) rfl d_Model_deliver_48 ?_
        refine lv_iload hx hb d_Model_deliver_51 (lv_at hl 4 rfl) ?_
        obtain ⟨g5, hm⟩ := xg_some hm
        refine va_lald hx hb hK hP 7 1 mW_X_parents rfl g5 d_Model_deliver_53 ?_
        refine lv_lload_n hx hb d_Model_deliver_54 rfl (lv_at hl 3 rfl) ?_
        refine lv_aload_n hx hb d_Model_deliver_55 rfl (lv_at hl 0 rfl) ?_
        refine va_get (D := (dC, dI)) (ci := 8) (v := .ref (ad 12)) (C := "EventGraphTextModel") (T := T_Model) (N := 26) hx hb hT hin_Model hown hK hP 0 mW_X rfl 13 (by decide) (hT _ wd_571) (fun _ h9 => h9) rfl d_Model_deliver_56 ?_
        refine lv_iload_n hx hb d_Model_deliver_59 rfl (lv_at hl 2 rfl) ?_
        obtain ⟨g6, hm⟩ := xg_some hm
        refine va_lald hx hb hK hP 12 1 mW_X_graph rfl g6 d_Model_deliver_60 ?_
        refine lv_lor hx hb d_Model_deliver_61 ?_
        refine lv_ldc2 (v := (-1 : Int64)) hx hb hown (hT _ wd_678) d_Model_deliver_62 ?_
        refine lv_lxor hx hb d_Model_deliver_65 ?_
        refine lv_land hx hb d_Model_deliver_66 ?_
        refine lv_lconst (v := (0 : Int64)) hx hb d_Model_deliver_67 (by decide) ?_
        refine xl_cmp_eq (tgt := 74) hx hb d_Model_deliver_68 d_Model_deliver_69 rfl (fun h => ?_) (fun h => ?_)
        · replace hm := xi_pos h hm
          refine lv_iinc (k := 4) (v := (b5 + (1 : Int32))) (lv' := [(5, .int (b5 + (1 : Int32))), (0, .ref (ad 0)), (1, .int b1), (2, .int b2), (3, .long b3)]) hx hb d_Model_deliver_74 hl rfl rfl (Nat.le_of_ble_eq_true rfl) rfl (fun ls hl => ?_)
          refine lv_goto (tgt := 29) hx hb d_Model_deliver_77 rfl ?_
          exact hk29 b1 b2 b3 (b5 + (1 : Int32)) u _ _ _ (lv_sub hl [1, 2, 3, 4, 0] rfl) hP hS hm
        · replace hm := xi_neg h hm
          refine lv_iconst (v := (-1 : Int32)) hx hb d_Model_deliver_72 (by decide) ?_
          exact hret hm hP hS d_Model_deliver_73
  have hl29 : ∀ (fu : Nat), ∀ (b1 : Int32) (b2 : Int32) (b3 : Int64) (b5 : Int32) (u : xS) (H : Heap) (locs : List Loc) (ls : Array Slot), lv_has ls 7 [(0, .ref (ad 0)), (1, .int b1), (2, .int b2), (3, .long b3), (5, .int b5)] → va_P (dC, dI) xCl (mW dT ad u) H → va_S (xA ad 23) s.heap H locs → m_Model_deliver_l29 fu b1 b2 b3 b5 u = some (out, u1) → W p l e (xrm 5 136) s m args below meth c H locs 0 0 Q (F0 m 29 ls []) := by
    intro fu
    induction fu with
    | zero => intro b1 b2 b3 b5 u H locs ls hl hP hS hm; exact absurd hm (fun z => by cases z)
    | succ n ih => intro b1 b2 b3 b5 u H locs ls hl hP hS hm; exact hs29 (m_Model_deliver_l29 n) ih b1 b2 b3 b5 u H locs ls hl hP hS hm
  unfold m_Model_deliver at hm
  refine lv_aload_n hx hb d_Model_deliver_0 rfl (lv_at hl 0 rfl) ?_
  refine lv_iload_n hx hb d_Model_deliver_1 rfl (lv_at hl 1 rfl) ?_
  obtain ⟨r2, h2, hm⟩ := xb1_some hm
  refine xc_i (va_runV (C := "EventGraphTextModel") (As := [.int a1]) (rest := []) ⟨hx, hb, hml, hown, hts⟩ (c_Model_none l dC dI dT ad a1 u r2 h2) (cwV 1 hts (xgV wd_711 wd_713 wds_27 wd_9 wd_714) rfl rfl rfl pd_Model_none ⟨Nat.le_of_ble_eq_true rfl, Nat.le_of_ble_eq_true rfl⟩) (xpreV (C := "EventGraphTextModel") (T := T_Model) (N := 26) hP hK hN rfl mW_X) rfl rfl hl.1 rfl (lv_room (Nat.le_of_ble_eq_true rfl)) d_Model_deliver_2 ⟨Nat.le_of_ble_eq_true rfl, Nat.le_of_ble_eq_true rfl⟩) hP hS (fun H locs hP hS => ?_)
  refine lv_if_eq (tgt := 12) hx hb d_Model_deliver_5 rfl (fun h => ?_) (fun h => ?_)
  · replace hm := xi_pos h hm
    refine lv_aload_n hx hb d_Model_deliver_12 rfl (lv_at hl 0 rfl) ?_
    refine va_get (D := (dC, dI)) (ci := 8) (v := .ref (ad 16)) (C := "EventGraphTextModel") (T := T_Model) (N := 26) hx hb hT hin_Model hown hK hP 0 mW_X rfl 17 (by decide) (hT _ wd_575) (fun _ h9 => h9) rfl d_Model_deliver_13 ?_
    refine lv_iload_n hx hb d_Model_deliver_16 rfl (lv_at hl 1 rfl) ?_
    obtain ⟨g1, hm⟩ := xg_some hm
    refine va_iald hx hb hK hP 16 0 mW_X_receiver rfl g1 d_Model_deliver_17 ?_
    refine lv_istore_n (lv' := [(2, .int (xs_I u 10 a1.toNatClampNeg)), (0, .ref (ad 0)), (1, .int a1)]) hx hb d_Model_deliver_18 rfl hl (Nat.le_of_ble_eq_true rfl) rfl (fun ls hl => ?_)
    refine lv_aload_n hx hb d_Model_deliver_19 rfl (lv_at hl 1 rfl) ?_
    refine va_get (D := (dC, dI)) (ci := 8) (v := .ref (ad 14)) (C := "EventGraphTextModel") (T := T_Model) (N := 26) hx hb hT hin_Model hown hK hP 0 mW_X rfl 15 (by decide) (hT _ wd_573) (fun _ h9 => h9) rfl d_Model_deliver_20 ?_
    refine lv_iload_n hx hb d_Model_deliver_23 rfl (lv_at hl 2 rfl) ?_
    refine va_lald hx hb hK hP 14 1 mW_X_load rfl g1 d_Model_deliver_24 ?_
    refine lv_lstore_n (lv' := [(3, .long (xs_L u 4 a1.toNatClampNeg)), (2, .int (xs_I u 10 a1.toNatClampNeg)), (0, .ref (ad 0)), (1, .int a1)]) hx hb d_Model_deliver_25 rfl hl (Nat.le_of_ble_eq_true rfl) rfl (fun ls hl => ?_)
    refine lv_iconst (v := (0 : Int32)) hx hb d_Model_deliver_26 (by decide) ?_
    refine lv_istore (lv' := [(5, .int (0 : Int32)), (3, .long (xs_L u 4 a1.toNatClampNeg)), (2, .int (xs_I u 10 a1.toNatClampNeg)), (0, .ref (ad 0)), (1, .int a1)]) hx hb d_Model_deliver_27 hl (Nat.le_of_ble_eq_true rfl) rfl (fun ls hl => ?_)
    exact hl29 xFU a1 (xs_I u 10 a1.toNatClampNeg) (xs_L u 4 a1.toNatClampNeg) (0 : Int32) u _ _ _ (lv_sub hl [3, 4, 2, 1, 0] rfl) hP hS hm
  · replace hm := xi_neg h hm
    refine lv_sipush (v := (-1000 : Int32)) hx hb d_Model_deliver_8 (by decide) ?_
    exact hret hm hP hS d_Model_deliver_11
set_option maxHeartbeats 4000000 in
set_option maxRecDepth 100000 in
theorem c_Model_put (l : Launch) (dC : Nat → ClassId) (dI : Nat → Nat → Nat) (dT : Nat → ClassId) (ad : Nat → Nat) (hD : ∀ u, va_D (xA ad 23) (mW dT ad u)) (a1 : Int32) (u : xS) (u1 : xS) (hm : m_Model_put a1 u = some u1) : Met l y_Model_put (Cond.code y_Model_put b_Model_put 4 none :: xG) (xrm 0 0) (va_Pc [.ref (ad 0), .int a1] (xR (dC, dI) xCl (xT dT) (mW dT ad u))) (va_Qv (fun (u9 : xS) => u9 = u1) (fun u9 t => va_P (dC, dI) xCl (mW dT ad u9) t.heap) (xA ad 23)) 0 0 (xA ad 23) := by
  refine xm_rwv (Wd := mW dT ad) (cc := b_Model_put) (maxL := 4) (by decide) rfl (Nat.le_of_ble_eq_true rfl) ?_
  intro p e s m args below meth c Q ls hx hb hml hts hown hK hN hP hl hret
  have hT : ∀ w ∈ xG, w.before args s = true := fun w h => hts w (List.mem_cons_of_mem _ h)
  have hown : s.vm.findClass "EventGraphTextModel" = some m.cls := hown
  have hl : lv_has ls 4 [(0, .ref (ad 0)), (1, .int a1)] := hl
  have hS : va_S (xA ad 23) s.heap s.heap [] := va_S.rf
  have hb55 : ∀ (b2 : Int32) (u : xS) (H : Heap) (locs : List Loc) (ls : Array Slot), lv_has ls 4 [(0, .ref (ad 0)), (2, .int b2)] → va_P (dC, dI) xCl (mW dT ad u) H → va_S (xA ad 23) s.heap H locs → m_Model_put_b55 b2 u = some u1 → W p l e (xrm 0 0) s m args below meth c H locs 0 0 Q (F0 m 55 ls []) := by
    intro b2 u H locs ls hl hP hS hm
    unfold m_Model_put_b55 at hm
    refine lv_aload_n hx hb d_Model_put_55 rfl (lv_at hl 0 rfl) ?_
    refine va_get (D := (dC, dI)) (ci := 8) (v := .ref (ad 22)) (C := "EventGraphTextModel") (T := T_Model) (N := 26) hx hb hT hin_Model hown hK hP 0 mW_X rfl 24 (by decide) (hT _ wd_582) (fun _ h9 => h9) rfl d_Model_put_56 ?_
    refine lv_aload_n hx hb d_Model_put_59 rfl (lv_at hl 0 rfl) ?_
    refine va_get (D := (dC, dI)) (ci := 8) (v := .int (xs_i u 3)) (C := "EventGraphTextModel") (T := T_Model) (N := 26) hx hb hT hin_Model hown hK hP 0 mW_X rfl 25 (by decide) (hT _ wd_583) (fun _ h9 => h9) rfl d_Model_put_60 ?_
    refine lv_iload_n hx hb d_Model_put_63 rfl (lv_at hl 1 rfl) ?_
    obtain ⟨g1, hm⟩ := xg_some hm
    obtain ⟨w64, hw64, hm⟩ := xlt_some hm
    refine va_iast hx hb hK hP (hD _) hS 22 0 mW_X_out rfl g1 d_Model_put_64 (fun H locs hP _ hS => ?_)
    replace hP : va_P (dC, dI) xCl (mW dT ad w64) H := xp_conv ((mW_s_X_out).trans (congrArg (mW dT ad) hw64.symm)) hP
    refine lv_aload_n hx hb d_Model_put_65 rfl (lv_at hl 0 rfl) ?_
    refine lv_dup hx hb d_Model_put_66 rfl ?_
    refine va_get (D := (dC, dI)) (ci := 8) (v := .int (xs_i w64 3)) (C := "EventGraphTextModel") (T := T_Model) (N := 26) hx hb hT hin_Model hown hK hP 0 mW_X rfl 25 (by decide) (hT _ wd_583) (fun _ h9 => h9) rfl d_Model_put_67 ?_
    refine lv_iconst (v := (1 : Int32)) hx hb d_Model_put_70 (by decide) ?_
    refine lv_iadd hx hb d_Model_put_71 ?_
    obtain ⟨w72, hw72, hm⟩ := xlt_some hm
    refine va_put (D := (dC, dI)) (ci := 8) (v := .int ((xs_i w64 3) + (1 : Int32))) (ty := .int) (C := "EventGraphTextModel") (T := T_Model) (N := 26) hx hb hT hin_Model ty_Model tyok_Model nm_Model hown hK hP (hD _) hS 0 mW_X rfl 25 (by decide) (hT _ wd_583) (fun _ h9 => h9) rfl (by decide +kernel) rfl rfl (Nat.le_of_ble_eq_true rfl) d_Model_put_72 (fun H locs hP _ hS => ?_)
    replace hP : va_P (dC, dI) xCl (mW dT ad w72) H := xp_conv ((mW_f_X_size).trans (congrArg (mW dT ad) hw72.symm)) hP
    exact hret hm hP hS d_Model_put_75
  have hs4 : ∀ (k4 : Int32 → Int32 → xS → Option xS) (hk4 : ∀ (b2 : Int32) (b3 : Int32) (u : xS) (H : Heap) (locs : List Loc) (ls : Array Slot), lv_has ls 4 [(0, .ref (ad 0)), (2, .int b2), (3, .int b3)] → va_P (dC, dI) xCl (mW dT ad u) H → va_S (xA ad 23) s.heap H locs → k4 b2 b3 u = some u1 → W p l e (xrm 0 0) s m args below meth c H locs 0 0 Q (F0 m 4 ls [])), ∀ (b2 : Int32) (b3 : Int32) (u : xS) (H : Heap) (locs : List Loc) (ls : Array Slot), lv_has ls 4 [(0, .ref (ad 0)), (2, .int b2), (3, .int b3)] → va_P (dC, dI) xCl (mW dT ad u) H → va_S (xA ad 23) s.heap H locs → m_Model_put_s4 k4 b2 b3 u = some u1 → W p l e (xrm 0 0) s m args below meth c H locs 0 0 Q (F0 m 4 ls []) := by
    intro k4 hk4 b2 b3 u H locs ls hl hP hS hm
    unfold m_Model_put_s4 at hm
    refine lv_iload_n hx hb d_Model_put_4 rfl (lv_at hl 2 rfl) ?_
    refine lv_iconst (v := (5 : Int32)) hx hb d_Model_put_5 (by decide) ?_
    refine lv_icmp_ge (tgt := 55) hx hb d_Model_put_6 rfl (fun h => ?_) (fun h => ?_)
    · replace hm := xi_pos h hm
      exact hb55 b2 u _ _ _ (lv_sub hl [0, 1] rfl) hP hS hm
    · replace hm := xi_neg h hm
      refine lv_iload_n hx hb d_Model_put_9 rfl (lv_at hl 1 rfl) ?_
      refine lv_bipush (v := (127 : Int32)) hx hb d_Model_put_10 (by decide) ?_
      refine lv_icmp_le (tgt := 55) hx hb d_Model_put_12 rfl (fun h => ?_) (fun h => ?_)
      · replace hm := xi_pos h hm
        exact hb55 b2 u _ _ _ (lv_sub hl [0, 1] rfl) hP hS hm
      · replace hm := xi_neg h hm
        refine lv_aload_n hx hb d_Model_put_15 rfl (lv_at hl 0 rfl) ?_
        refine va_get (D := (dC, dI)) (ci := 8) (v := .ref (ad 22)) (C := "EventGraphTextModel") (T := T_Model) (N := 26) hx hb hT hin_Model hown hK hP 0 mW_X rfl 24 (by decide) (hT _ wd_582) (fun _ h9 => h9) rfl d_Model_put_16 ?_
        refine lv_aload_n hx hb d_Model_put_19 rfl (lv_at hl 0 rfl) ?_
        refine va_get (D := (dC, dI)) (ci := 8) (v := .int (xs_i u 3)) (C := "EventGraphTextModel") (T := T_Model) (N := 26) hx hb hT hin_Model hown hK hP 0 mW_X rfl 25 (by decide) (hT _ wd_583) (fun _ h9 => h9) rfl d_Model_put_20 ?_
        refine lv_iload_n hx hb d_Model_put_23 rfl (lv_at hl 1 rfl) ?_
        refine lv_sipush (v := (128 : Int32)) hx hb d_Model_put_24 (by decide) ?_
        refine lv_irem hx hb d_Model_put_27 (by decide) ?_
        refine lv_sipush (v := (128 : Int32)) hx hb d_Model_put_28 (by decide) ?_
        refine lv_iadd hx hb d_Model_put_31 ?_
        obtain ⟨g2, hm⟩ := xg_some hm
        obtain ⟨w32, hw32, hm⟩ := xlt_some hm
        refine va_iast hx hb hK hP (hD _) hS 22 0 mW_X_out rfl g2 d_Model_put_32 (fun H locs hP _ hS => ?_)
        replace hP : va_P (dC, dI) xCl (mW dT ad w32) H := xp_conv ((mW_s_X_out).trans (congrArg (mW dT ad) hw32.symm)) hP
        refine lv_aload_n hx hb d_Model_put_33 rfl (lv_at hl 0 rfl) ?_
        refine lv_dup hx hb d_Model_put_34 rfl ?_
        refine va_get (D := (dC, dI)) (ci := 8) (v := .int (xs_i w32 3)) (C := "EventGraphTextModel") (T := T_Model) (N := 26) hx hb hT hin_Model hown hK hP 0 mW_X rfl 25 (by decide) (hT _ wd_583) (fun _ h9 => h9) rfl d_Model_put_35 ?_
        refine lv_iconst (v := (1 : Int32)) hx hb d_Model_put_38 (by decide) ?_
        refine lv_iadd hx hb d_Model_put_39 ?_
        obtain ⟨w40, hw40, hm⟩ := xlt_some hm
        refine va_put (D := (dC, dI)) (ci := 8) (v := .int ((xs_i w32 3) + (1 : Int32))) (ty := .int) (C := "EventGraphTextModel") (T := T_Model) (N := 26) hx hb hT hin_Model ty_Model tyok_Model nm_Model hown hK hP (hD _) hS 0 mW_X rfl 25 (by decide) (hT _ wd_583) (fun _ h9 => h9) rfl (by decide +kernel) rfl rfl (Nat.le_of_ble_eq_true rfl) d_Model_put_40 (fun H locs hP _ hS => ?_)
        replace hP : va_P (dC, dI) xCl (mW dT ad w40) H := xp_conv ((mW_f_X_size).trans (congrArg (mW dT ad) hw40.symm)) hP
        refine lv_iload_n hx hb d_Model_put_43 rfl (lv_at hl 1 rfl) ?_
        refine lv_sipush (v := (128 : Int32)) hx hb d_Model_put_44 (by decide) ?_
        refine lv_idiv hx hb d_Model_put_47 (by decide) ?_
        refine lv_istore_n (lv' := [(2, .int (b2 / (128 : Int32))), (0, .ref (ad 0)), (3, .int b3)]) hx hb d_Model_put_48 rfl hl (Nat.le_of_ble_eq_true rfl) rfl (fun ls hl => ?_)
        refine lv_iinc (k := 2) (v := (b3 + (1 : Int32))) (lv' := [(3, .int (b3 + (1 : Int32))), (2, .int (b2 / (128 : Int32))), (0, .ref (ad 0))]) hx hb d_Model_put_49 hl rfl rfl (Nat.le_of_ble_eq_true rfl) rfl (fun ls hl => ?_)
        refine lv_goto (tgt := 4) hx hb d_Model_put_52 rfl ?_
        exact hk4 (b2 / (128 : Int32)) (b3 + (1 : Int32)) w40 _ _ _ (lv_sub hl [2, 1, 0] rfl) hP hS hm
  have hl4 : ∀ (fu : Nat), ∀ (b2 : Int32) (b3 : Int32) (u : xS) (H : Heap) (locs : List Loc) (ls : Array Slot), lv_has ls 4 [(0, .ref (ad 0)), (2, .int b2), (3, .int b3)] → va_P (dC, dI) xCl (mW dT ad u) H → va_S (xA ad 23) s.heap H locs → m_Model_put_l4 fu b2 b3 u = some u1 → W p l e (xrm 0 0) s m args below meth c H locs 0 0 Q (F0 m 4 ls []) := by
    intro fu
    induction fu with
    | zero => intro b2 b3 u H locs ls hl hP hS hm; exact absurd hm (fun z => by cases z)
    | succ n ih => intro b2 b3 u H locs ls hl hP hS hm; exact hs4 (m_Model_put_l4 n) ih b2 b3 u H locs ls hl hP hS hm
  unfold m_Model_put at hm
  refine lv_iload_n hx hb d_Model_put_0 rfl (lv_at hl 1 rfl) ?_
  refine lv_istore_n (lv' := [(2, .int a1), (0, .ref (ad 0)), (1, .int a1)]) hx hb d_Model_put_1 rfl hl (Nat.le_of_ble_eq_true rfl) rfl (fun ls hl => ?_)
  refine lv_iconst (v := (0 : Int32)) hx hb d_Model_put_2 (by decide) ?_
  refine lv_istore_n (lv' := [(3, .int (0 : Int32)), (2, .int a1), (0, .ref (ad 0)), (1, .int a1)]) hx hb d_Model_put_3 rfl hl (Nat.le_of_ble_eq_true rfl) rfl (fun ls hl => ?_)
  exact hl4 xFU a1 (0 : Int32) u _ _ _ (lv_sub hl [2, 1, 0] rfl) hP hS hm
set_option maxHeartbeats 4000000 in
set_option maxRecDepth 100000 in
theorem c_Model_putSigned (l : Launch) (dC : Nat → ClassId) (dI : Nat → Nat → Nat) (dT : Nat → ClassId) (ad : Nat → Nat) (hD : ∀ u, va_D (xA ad 23) (mW dT ad u)) (a1 : Int32) (u : xS) (u1 : xS) (hm : m_Model_putSigned a1 u = some u1) : Met l y_Model_putSigned (Cond.code y_Model_putSigned b_Model_putSigned 2 none :: xG) (xrm 1 23) (va_Pc [.ref (ad 0), .int a1] (xR (dC, dI) xCl (xT dT) (mW dT ad u))) (va_Qv (fun (u9 : xS) => u9 = u1) (fun u9 t => va_P (dC, dI) xCl (mW dT ad u9) t.heap) (xA ad 23)) 0 0 (xA ad 23) := by
  refine xm_rwv (Wd := mW dT ad) (cc := b_Model_putSigned) (maxL := 2) (by decide) rfl (Nat.le_of_ble_eq_true rfl) ?_
  intro p e s m args below meth c Q ls hx hb hml hts hown hK hN hP hl hret
  have hT : ∀ w ∈ xG, w.before args s = true := fun w h => hts w (List.mem_cons_of_mem _ h)
  have hown : s.vm.findClass "EventGraphTextModel" = some m.cls := hown
  have hl : lv_has ls 2 [(0, .ref (ad 0)), (1, .int a1)] := hl
  have hS : va_S (xA ad 23) s.heap s.heap [] := va_S.rf
  have hb17 : ∀ (t0 : Int32) (u : xS) (H : Heap) (locs : List Loc) (ls : Array Slot), lv_has ls 2 [] → va_P (dC, dI) xCl (mW dT ad u) H → va_S (xA ad 23) s.heap H locs → m_Model_putSigned_b17 t0 u = some u1 → W p l e (xrm 1 23) s m args below meth c H locs 0 0 Q (F0 m 17 ls [.int t0, .ref (ad 0)]) := by
    intro t0 u H locs ls hl hP hS hm
    unfold m_Model_putSigned_b17 at hm
    obtain ⟨u17, h17, hm⟩ := xb1_some hm
    refine xc_vw (Wd := mW dT ad) (va_runV (C := "EventGraphTextModel") (As := [.int t0]) (rest := []) ⟨hx, hb, hml, hown, hts⟩ (c_Model_put l dC dI dT ad hD t0 u u17 h17) (cwV 1 hts (xgV wd_771 wd_773 wds_34 wd_9 wd_774) rfl rfl rfl pd_Model_put ⟨Nat.le_of_ble_eq_true rfl, Nat.le_of_ble_eq_true rfl⟩) (xpreV (C := "EventGraphTextModel") (T := T_Model) (N := 26) hP hK hN rfl mW_X) rfl rfl hl.1 rfl (lv_room (Nat.le_of_ble_eq_true rfl)) d_Model_putSigned_17 ⟨Nat.le_of_ble_eq_true rfl, Nat.le_of_ble_eq_true rfl⟩) hS (fun _ h => h) (fun H locs hP hS => ?_)
    exact hret hm hP hS d_Model_putSigned_20
  unfold m_Model_putSigned at hm
  refine lv_aload_n hx hb d_Model_putSigned_0 rfl (lv_at hl 0 rfl) ?_
  refine lv_iload_n hx hb d_Model_putSigned_1 rfl (lv_at hl 1 rfl) ?_
  refine lv_if_ge (tgt := 14) hx hb d_Model_putSigned_2 rfl (fun h => ?_) (fun h => ?_)
  · replace hm := xi_pos h hm
    refine lv_iconst (v := (2 : Int32)) hx hb d_Model_putSigned_14 (by decide) ?_
    refine lv_iload_n hx hb d_Model_putSigned_15 rfl (lv_at hl 1 rfl) ?_
    refine lv_imul hx hb d_Model_putSigned_16 ?_
    exact hb17 ((2 : Int32) * a1) u _ _ _ (lv_sub hl [] rfl) hP hS hm
  · replace hm := xi_neg h hm
    refine lv_bipush (v := (-2 : Int32)) hx hb d_Model_putSigned_5 (by decide) ?_
    refine lv_iload_n hx hb d_Model_putSigned_7 rfl (lv_at hl 1 rfl) ?_
    refine lv_imul hx hb d_Model_putSigned_8 ?_
    refine lv_iconst (v := (1 : Int32)) hx hb d_Model_putSigned_9 (by decide) ?_
    refine lv_isub hx hb d_Model_putSigned_10 ?_
    refine lv_goto (tgt := 17) hx hb d_Model_putSigned_11 rfl ?_
    exact hb17 (((-2 : Int32) * a1) - (1 : Int32)) u _ _ _ (lv_sub hl [] rfl) hP hS hm
set_option maxHeartbeats 4000000 in
set_option maxRecDepth 100000 in
theorem c_Model_putRuns (l : Launch) (dC : Nat → ClassId) (dI : Nat → Nat → Nat) (dT : Nat → ClassId) (ad : Nat → Nat) (hD : ∀ u, va_D (xA ad 23) (mW dT ad u)) (u : xS) (u1 : xS) (hm : m_Model_putRuns u = some u1) : Met l y_Model_putRuns (Cond.code y_Model_putRuns b_Model_putRuns 5 none :: xG) (xrm 1 23) (va_Pc [.ref (ad 0)] (xR (dC, dI) xCl (xT dT) (mW dT ad u))) (va_Qv (fun (u9 : xS) => u9 = u1) (fun u9 t => va_P (dC, dI) xCl (mW dT ad u9) t.heap) (xA ad 23)) 0 0 (xA ad 23) := by
  refine xm_rwv (Wd := mW dT ad) (cc := b_Model_putRuns) (maxL := 5) (by decide) rfl (Nat.le_of_ble_eq_true rfl) ?_
  intro p e s m args below meth c Q ls hx hb hml hts hown hK hN hP hl hret
  have hT : ∀ w ∈ xG, w.before args s = true := fun w h => hts w (List.mem_cons_of_mem _ h)
  have hown : s.vm.findClass "EventGraphTextModel" = some m.cls := hown
  have hl : lv_has ls 5 [(0, .ref (ad 0))] := hl
  have hS : va_S (xA ad 23) s.heap s.heap [] := va_S.rf
  have hb139 : ∀ (k93 : Int32 → Int32 → xS → Option xS) (hk93 : ∀ (b2 : Int32) (b3 : Int32) (u : xS) (H : Heap) (locs : List Loc) (ls : Array Slot), lv_has ls 5 [(0, .ref (ad 0)), (2, .int b2), (3, .int b3)] → va_P (dC, dI) xCl (mW dT ad u) H → va_S (xA ad 23) s.heap H locs → k93 b2 b3 u = some u1 → W p l e (xrm 1 23) s m args below meth c H locs 0 0 Q (F0 m 93 ls [])), ∀ (b2 : Int32) (b3 : Int32) (b4 : Int32) (u : xS) (H : Heap) (locs : List Loc) (ls : Array Slot), lv_has ls 5 [(0, .ref (ad 0)), (2, .int b2), (3, .int b3), (4, .int b4)] → va_P (dC, dI) xCl (mW dT ad u) H → va_S (xA ad 23) s.heap H locs → m_Model_putRuns_b139 k93 b2 b3 b4 u = some u1 → W p l e (xrm 1 23) s m args below meth c H locs 0 0 Q (F0 m 139 ls []) := by
    intro k93 hk93 b2 b3 b4 u H locs ls hl hP hS hm
    unfold m_Model_putRuns_b139 at hm
    refine lv_aload_n hx hb d_Model_putRuns_139 rfl (lv_at hl 0 rfl) ?_
    refine lv_iload hx hb d_Model_putRuns_140 (lv_at hl 3 rfl) ?_
    obtain ⟨u142, h142, hm⟩ := xb1_some hm
    refine xc_vw (Wd := mW dT ad) (va_runV (C := "EventGraphTextModel") (As := [.int b4]) (rest := []) ⟨hx, hb, hml, hown, hts⟩ (c_Model_put l dC dI dT ad hD b4 u u142 h142) (cwV 1 hts (xgV wd_771 wd_773 wds_34 wd_9 wd_774) rfl rfl rfl pd_Model_put ⟨Nat.le_of_ble_eq_true rfl, Nat.le_of_ble_eq_true rfl⟩) (xpreV (C := "EventGraphTextModel") (T := T_Model) (N := 26) hP hK hN rfl mW_X) rfl rfl hl.1 rfl (lv_room (Nat.le_of_ble_eq_true rfl)) d_Model_putRuns_142 ⟨Nat.le_of_ble_eq_true rfl, Nat.le_of_ble_eq_true rfl⟩) hS (fun _ h => h) (fun H locs hP hS => ?_)
    refine lv_iload_n hx hb d_Model_putRuns_145 rfl (lv_at hl 2 rfl) ?_
    refine lv_iload hx hb d_Model_putRuns_146 (lv_at hl 3 rfl) ?_
    refine lv_iadd hx hb d_Model_putRuns_148 ?_
    refine lv_istore_n (lv' := [(3, .int (b3 + b4)), (0, .ref (ad 0)), (2, .int b2), (4, .int b4)]) hx hb d_Model_putRuns_149 rfl hl (Nat.le_of_ble_eq_true rfl) rfl (fun ls hl => ?_)
    refine lv_iload_n hx hb d_Model_putRuns_150 rfl (lv_at hl 2 rfl) ?_
    refine lv_if_ne (tgt := 158) hx hb d_Model_putRuns_151 rfl (fun h => ?_) (fun h => ?_)
    · replace hm := xi_neg h hm
      refine lv_iconst (v := (0 : Int32)) hx hb d_Model_putRuns_158 (by decide) ?_
      refine lv_istore_n (lv' := [(2, .int (0 : Int32)), (3, .int (b3 + b4)), (0, .ref (ad 0)), (4, .int b4)]) hx hb d_Model_putRuns_159 rfl hl (Nat.le_of_ble_eq_true rfl) rfl (fun ls hl => ?_)
      refine lv_goto (tgt := 93) hx hb d_Model_putRuns_160 rfl ?_
      exact hk93 (0 : Int32) (b3 + b4) u142 _ _ _ (lv_sub hl [2, 0, 1] rfl) hP hS hm
    · replace hm := xi_pos h hm
      refine lv_iconst (v := (1 : Int32)) hx hb d_Model_putRuns_154 (by decide) ?_
      refine lv_goto (tgt := 159) hx hb d_Model_putRuns_155 rfl ?_
      refine lv_istore_n (lv' := [(2, .int (1 : Int32)), (3, .int (b3 + b4)), (0, .ref (ad 0)), (4, .int b4)]) hx hb d_Model_putRuns_159 rfl hl (Nat.le_of_ble_eq_true rfl) rfl (fun ls hl => ?_)
      refine lv_goto (tgt := 93) hx hb d_Model_putRuns_160 rfl ?_
      exact hk93 (1 : Int32) (b3 + b4) u142 _ _ _ (lv_sub hl [2, 0, 1] rfl) hP hS hm
  have hs104 : ∀ (k93 : Int32 → Int32 → xS → Option xS) (hk93 : ∀ (b2 : Int32) (b3 : Int32) (u : xS) (H : Heap) (locs : List Loc) (ls : Array Slot), lv_has ls 5 [(0, .ref (ad 0)), (2, .int b2), (3, .int b3)] → va_P (dC, dI) xCl (mW dT ad u) H → va_S (xA ad 23) s.heap H locs → k93 b2 b3 u = some u1 → W p l e (xrm 1 23) s m args below meth c H locs 0 0 Q (F0 m 93 ls [])) (k104 : Int32 → Int32 → Int32 → xS → Option xS) (hk104 : ∀ (b2 : Int32) (b3 : Int32) (b4 : Int32) (u : xS) (H : Heap) (locs : List Loc) (ls : Array Slot), lv_has ls 5 [(0, .ref (ad 0)), (2, .int b2), (3, .int b3), (4, .int b4)] → va_P (dC, dI) xCl (mW dT ad u) H → va_S (xA ad 23) s.heap H locs → k104 b2 b3 b4 u = some u1 → W p l e (xrm 1 23) s m args below meth c H locs 0 0 Q (F0 m 104 ls [])), ∀ (b2 : Int32) (b3 : Int32) (b4 : Int32) (u : xS) (H : Heap) (locs : List Loc) (ls : Array Slot), lv_has ls 5 [(0, .ref (ad 0)), (2, .int b2), (3, .int b3), (4, .int b4)] → va_P (dC, dI) xCl (mW dT ad u) H → va_S (xA ad 23) s.heap H locs → m_Model_putRuns_s104 k93 k104 b2 b3 b4 u = some u1 → W p l e (xrm 1 23) s m args below meth c H locs 0 0 Q (F0 m 104 ls []) := by
    intro k93 hk93 k104 hk104 b2 b3 b4 u H locs ls hl hP hS hm
    unfold m_Model_putRuns_s104 at hm
    refine lv_iload_n hx hb d_Model_putRuns_104 rfl (lv_at hl 2 rfl) ?_
    refine lv_iload hx hb d_Model_putRuns_105 (lv_at hl 3 rfl) ?_
    refine lv_iadd hx hb d_Model_putRuns_107 ?_
    refine lv_aload_n hx hb d_Model_putRuns_108 rfl (lv_at hl 0 rfl) ?_
    refine va_get (D := (dC, dI)) (ci := 8) (v := .int (xs_i u 2)) (C := "EventGraphTextModel") (T := T_Model) (N := 26) hx hb hT hin_Model hown hK hP 0 mW_X rfl 23 (by decide) (hT _ wd_581) (fun _ h9 => h9) rfl d_Model_putRuns_109 ?_
    refine lv_icmp_ge (tgt := 139) hx hb d_Model_putRuns_112 rfl (fun h => ?_) (fun h => ?_)
    · replace hm := xi_pos h hm
      exact hb139 k93 hk93 b2 b3 b4 u _ _ _ (lv_sub hl [0, 1, 2, 3] rfl) hP hS hm
    · replace hm := xi_neg h hm
      refine lv_aload_n hx hb d_Model_putRuns_115 rfl (lv_at hl 0 rfl) ?_
      refine va_get (D := (dC, dI)) (ci := 8) (v := .ref (ad 3)) (C := "EventGraphTextModel") (T := T_Model) (N := 26) hx hb hT hin_Model hown hK hP 0 mW_X rfl 3 (by decide) (hT _ wd_561) (fun _ h9 => h9) rfl d_Model_putRuns_116 ?_
      refine lv_aload_n hx hb d_Model_putRuns_119 rfl (lv_at hl 0 rfl) ?_
      refine va_get (D := (dC, dI)) (ci := 8) (v := .ref (ad 21)) (C := "EventGraphTextModel") (T := T_Model) (N := 26) hx hb hT hin_Model hown hK hP 0 mW_X rfl 22 (by decide) (hT _ wd_580) (fun _ h9 => h9) rfl d_Model_putRuns_120 ?_
      refine lv_iload_n hx hb d_Model_putRuns_123 rfl (lv_at hl 2 rfl) ?_
      refine lv_iload hx hb d_Model_putRuns_124 (lv_at hl 3 rfl) ?_
      refine lv_iadd hx hb d_Model_putRuns_126 ?_
      obtain ⟨g1, hm⟩ := xg_some hm
      refine va_iald hx hb hK hP 21 0 mW_X_turn rfl g1 d_Model_putRuns_127 ?_
      obtain ⟨g2, hm⟩ := xg_some hm
      refine va_zald hx hb hK hP 3 2 mW_X_inserts rfl g2 d_Model_putRuns_128 ?_
      refine lv_iload_n hx hb d_Model_putRuns_129 rfl (lv_at hl 1 rfl) ?_
      refine lv_icmp_ne (tgt := 139) hx hb d_Model_putRuns_130 rfl (fun h => ?_) (fun h => ?_)
      · replace hm := xi_neg h hm
        exact hb139 k93 hk93 b2 b3 b4 u _ _ _ (lv_sub hl [0, 1, 2, 3] rfl) hP hS hm
      · replace hm := xi_pos h hm
        refine lv_iinc (k := 3) (v := (b4 + (1 : Int32))) (lv' := [(4, .int (b4 + (1 : Int32))), (0, .ref (ad 0)), (2, .int b2), (3, .int b3)]) hx hb d_Model_putRuns_133 hl rfl rfl (Nat.le_of_ble_eq_true rfl) rfl (fun ls hl => ?_)
        refine lv_goto (tgt := 104) hx hb d_Model_putRuns_136 rfl ?_
        exact hk104 b2 b3 (b4 + (1 : Int32)) u _ _ _ (lv_sub hl [1, 2, 3, 0] rfl) hP hS hm
  have hl104 : ∀ (k93 : Int32 → Int32 → xS → Option xS) (hk93 : ∀ (b2 : Int32) (b3 : Int32) (u : xS) (H : Heap) (locs : List Loc) (ls : Array Slot), lv_has ls 5 [(0, .ref (ad 0)), (2, .int b2), (3, .int b3)] → va_P (dC, dI) xCl (mW dT ad u) H → va_S (xA ad 23) s.heap H locs → k93 b2 b3 u = some u1 → W p l e (xrm 1 23) s m args below meth c H locs 0 0 Q (F0 m 93 ls [])) (fu : Nat), ∀ (b2 : Int32) (b3 : Int32) (b4 : Int32) (u : xS) (H : Heap) (locs : List Loc) (ls : Array Slot), lv_has ls 5 [(0, .ref (ad 0)), (2, .int b2), (3, .int b3), (4, .int b4)] → va_P (dC, dI) xCl (mW dT ad u) H → va_S (xA ad 23) s.heap H locs → m_Model_putRuns_l104 k93 fu b2 b3 b4 u = some u1 → W p l e (xrm 1 23) s m args below meth c H locs 0 0 Q (F0 m 104 ls []) := by
    intro k93 hk93 fu
    induction fu with
    | zero => intro b2 b3 b4 u H locs ls hl hP hS hm; exact absurd hm (fun z => by cases z)
    | succ n ih => intro b2 b3 b4 u H locs ls hl hP hS hm; exact hs104 k93 hk93 (m_Model_putRuns_l104 k93 n) ih b2 b3 b4 u H locs ls hl hP hS hm
  have hs93 : ∀ (k93 : Int32 → Int32 → xS → Option xS) (hk93 : ∀ (b2 : Int32) (b3 : Int32) (u : xS) (H : Heap) (locs : List Loc) (ls : Array Slot), lv_has ls 5 [(0, .ref (ad 0)), (2, .int b2), (3, .int b3)] → va_P (dC, dI) xCl (mW dT ad u) H → va_S (xA ad 23) s.heap H locs → k93 b2 b3 u = some u1 → W p l e (xrm 1 23) s m args below meth c H locs 0 0 Q (F0 m 93 ls [])), ∀ (b2 : Int32) (b3 : Int32) (u : xS) (H : Heap) (locs : List Loc) (ls : Array Slot), lv_has ls 5 [(0, .ref (ad 0)), (2, .int b2), (3, .int b3)] → va_P (dC, dI) xCl (mW dT ad u) H → va_S (xA ad 23) s.heap H locs → m_Model_putRuns_s93 k93 b2 b3 u = some u1 → W p l e (xrm 1 23) s m args below meth c H locs 0 0 Q (F0 m 93 ls []) := by
    intro k93 hk93 b2 b3 u H locs ls hl hP hS hm
    unfold m_Model_putRuns_s93 at hm
    refine lv_iload_n hx hb d_Model_putRuns_93 rfl (lv_at hl 2 rfl) ?_
    refine lv_aload_n hx hb d_Model_putRuns_94 rfl (lv_at hl 0 rfl) ?_
    refine va_get (D := (dC, dI)) (ci := 8) (v := .int (xs_i u 2)) (C := "EventGraphTextModel") (T := T_Model) (N := 26) hx hb hT hin_Model hown hK hP 0 mW_X rfl 23 (by decide) (hT _ wd_581) (fun _ h9 => h9) rfl d_Model_putRuns_95 ?_
    refine lv_icmp_ge (tgt := 163) hx hb d_Model_putRuns_98 rfl (fun h => ?_) (fun h => ?_)
    · replace hm := xi_pos h hm
      exact hret hm hP hS d_Model_putRuns_163
    · replace hm := xi_neg h hm
      refine lv_iconst (v := (0 : Int32)) hx hb d_Model_putRuns_101 (by decide) ?_
      refine lv_istore (lv' := [(4, .int (0 : Int32)), (0, .ref (ad 0)), (2, .int b2), (3, .int b3)]) hx hb d_Model_putRuns_102 hl (Nat.le_of_ble_eq_true rfl) rfl (fun ls hl => ?_)
      exact hl104 k93 hk93 xFU b2 b3 (0 : Int32) u _ _ _ (lv_sub hl [1, 2, 3, 0] rfl) hP hS hm
  have hl93 : ∀ (fu : Nat), ∀ (b2 : Int32) (b3 : Int32) (u : xS) (H : Heap) (locs : List Loc) (ls : Array Slot), lv_has ls 5 [(0, .ref (ad 0)), (2, .int b2), (3, .int b3)] → va_P (dC, dI) xCl (mW dT ad u) H → va_S (xA ad 23) s.heap H locs → m_Model_putRuns_l93 fu b2 b3 u = some u1 → W p l e (xrm 1 23) s m args below meth c H locs 0 0 Q (F0 m 93 ls []) := by
    intro fu
    induction fu with
    | zero => intro b2 b3 u H locs ls hl hP hS hm; exact absurd hm (fun z => by cases z)
    | succ n ih => intro b2 b3 u H locs ls hl hP hS hm; exact hs93 (m_Model_putRuns_l93 n) ih b2 b3 u H locs ls hl hP hS hm
  have hb57 : ∀ (k2 : Int32 → xS → Option xS) (hk2 : ∀ (b1 : Int32) (u : xS) (H : Heap) (locs : List Loc) (ls : Array Slot), lv_has ls 5 [(0, .ref (ad 0)), (1, .int b1)] → va_P (dC, dI) xCl (mW dT ad u) H → va_S (xA ad 23) s.heap H locs → k2 b1 u = some u1 → W p l e (xrm 1 23) s m args below meth c H locs 0 0 Q (F0 m 2 ls [])), ∀ (b1 : Int32) (b2 : Int32) (b3 : Int32) (u : xS) (H : Heap) (locs : List Loc) (ls : Array Slot), lv_has ls 5 [(0, .ref (ad 0)), (1, .int b1), (2, .int b2), (3, .int b3)] → va_P (dC, dI) xCl (mW dT ad u) H → va_S (xA ad 23) s.heap H locs → m_Model_putRuns_b57 k2 b1 b2 b3 u = some u1 → W p l e (xrm 1 23) s m args below meth c H locs 0 0 Q (F0 m 57 ls []) := by
    intro k2 hk2 b1 b2 b3 u H locs ls hl hP hS hm
    unfold m_Model_putRuns_b57 at hm
    refine lv_aload_n hx hb d_Model_putRuns_57 rfl (lv_at hl 0 rfl) ?_
    refine lv_aload_n hx hb d_Model_putRuns_58 rfl (lv_at hl 0 rfl) ?_
    refine va_get (D := (dC, dI)) (ci := 8) (v := .ref (ad 1)) (C := "EventGraphTextModel") (T := T_Model) (N := 26) hx hb hT hin_Model hown hK hP 0 mW_X rfl 1 (by decide) (hT _ wd_559) (fun _ h9 => h9) rfl d_Model_putRuns_59 ?_
    refine lv_iload_n hx hb d_Model_putRuns_62 rfl (lv_at hl 2 rfl) ?_
    obtain ⟨g4, hm⟩ := xg_some hm
    refine va_iald hx hb hK hP 1 0 mW_X_site rfl g4 d_Model_putRuns_63 ?_
    obtain ⟨u64, h64, hm⟩ := xb1_some hm
    refine xc_vw (Wd := mW dT ad) (va_runV (C := "EventGraphTextModel") (As := [.int (xs_I u 0 b2.toNatClampNeg)]) (rest := []) ⟨hx, hb, hml, hown, hts⟩ (c_Model_put l dC dI dT ad hD (xs_I u 0 b2.toNatClampNeg) u u64 h64) (cwV 1 hts (xgV wd_771 wd_773 wds_34 wd_9 wd_774) rfl rfl rfl pd_Model_put ⟨Nat.le_of_ble_eq_true rfl, Nat.le_of_ble_eq_true rfl⟩) (xpreV (C := "EventGraphTextModel") (T := T_Model) (N := 26) hP hK hN rfl mW_X) rfl rfl hl.1 rfl (lv_room (Nat.le_of_ble_eq_true rfl)) d_Model_putRuns_64 ⟨Nat.le_of_ble_eq_true rfl, Nat.le_of_ble_eq_true rfl⟩) hS (fun _ h => h) (fun H locs hP hS => ?_)
    refine lv_aload_n hx hb d_Model_putRuns_67 rfl (lv_at hl 0 rfl) ?_
    refine lv_aload_n hx hb d_Model_putRuns_68 rfl (lv_at hl 0 rfl) ?_
    refine va_get (D := (dC, dI)) (ci := 8) (v := .ref (ad 2)) (C := "EventGraphTextModel") (T := T_Model) (N := 26) hx hb hT hin_Model hown hK hP 0 mW_X rfl 2 (by decide) (hT _ wd_560) (fun _ h9 => h9) rfl d_Model_putRuns_69 ?_
    refine lv_iload_n hx hb d_Model_putRuns_72 rfl (lv_at hl 2 rfl) ?_
    refine va_iald hx hb hK hP 2 0 mW_X_number rfl g4 d_Model_putRuns_73 ?_
    obtain ⟨u74, h74, hm⟩ := xb1_some hm
    refine xc_vw (Wd := mW dT ad) (va_runV (C := "EventGraphTextModel") (As := [.int (xs_I u64 1 b2.toNatClampNeg)]) (rest := []) ⟨hx, hb, hml, hown, hts⟩ (c_Model_put l dC dI dT ad hD (xs_I u64 1 b2.toNatClampNeg) u64 u74 h74) (cwV 1 hts (xgV wd_771 wd_773 wds_34 wd_9 wd_774) rfl rfl rfl pd_Model_put ⟨Nat.le_of_ble_eq_true rfl, Nat.le_of_ble_eq_true rfl⟩) (xpreV (C := "EventGraphTextModel") (T := T_Model) (N := 26) hP hK hN rfl mW_X) rfl rfl hl.1 rfl (lv_room (Nat.le_of_ble_eq_true rfl)) d_Model_putRuns_74 ⟨Nat.le_of_ble_eq_true rfl, Nat.le_of_ble_eq_true rfl⟩) hS (fun _ h => h) (fun H locs hP hS => ?_)
    refine lv_aload_n hx hb d_Model_putRuns_77 rfl (lv_at hl 0 rfl) ?_
    refine lv_iload_n hx hb d_Model_putRuns_78 rfl (lv_at hl 3 rfl) ?_
    obtain ⟨u79, h79, hm⟩ := xb1_some hm
    refine xc_vw (Wd := mW dT ad) (va_runV (C := "EventGraphTextModel") (As := [.int b3]) (rest := []) ⟨hx, hb, hml, hown, hts⟩ (c_Model_put l dC dI dT ad hD b3 u74 u79 h79) (cwV 1 hts (xgV wd_771 wd_773 wds_34 wd_9 wd_774) rfl rfl rfl pd_Model_put ⟨Nat.le_of_ble_eq_true rfl, Nat.le_of_ble_eq_true rfl⟩) (xpreV (C := "EventGraphTextModel") (T := T_Model) (N := 26) hP hK hN rfl mW_X) rfl rfl hl.1 rfl (lv_room (Nat.le_of_ble_eq_true rfl)) d_Model_putRuns_79 ⟨Nat.le_of_ble_eq_true rfl, Nat.le_of_ble_eq_true rfl⟩) hS (fun _ h => h) (fun H locs hP hS => ?_)
    refine lv_iload_n hx hb d_Model_putRuns_82 rfl (lv_at hl 1 rfl) ?_
    refine lv_iload_n hx hb d_Model_putRuns_83 rfl (lv_at hl 3 rfl) ?_
    refine lv_iadd hx hb d_Model_putRuns_84 ?_
    refine lv_istore_n (lv' := [(1, .int (b1 + b3)), (0, .ref (ad 0)), (2, .int b2), (3, .int b3)]) hx hb d_Model_putRuns_85 rfl hl (Nat.le_of_ble_eq_true rfl) rfl (fun ls hl => ?_)
    refine lv_goto (tgt := 2) hx hb d_Model_putRuns_86 rfl ?_
    exact hk2 (b1 + b3) u79 _ _ _ (lv_sub hl [1, 0] rfl) hP hS hm
  have hs19 : ∀ (k2 : Int32 → xS → Option xS) (hk2 : ∀ (b1 : Int32) (u : xS) (H : Heap) (locs : List Loc) (ls : Array Slot), lv_has ls 5 [(0, .ref (ad 0)), (1, .int b1)] → va_P (dC, dI) xCl (mW dT ad u) H → va_S (xA ad 23) s.heap H locs → k2 b1 u = some u1 → W p l e (xrm 1 23) s m args below meth c H locs 0 0 Q (F0 m 2 ls [])) (k19 : Int32 → Int32 → Int32 → xS → Option xS) (hk19 : ∀ (b1 : Int32) (b2 : Int32) (b3 : Int32) (u : xS) (H : Heap) (locs : List Loc) (ls : Array Slot), lv_has ls 5 [(0, .ref (ad 0)), (1, .int b1), (2, .int b2), (3, .int b3)] → va_P (dC, dI) xCl (mW dT ad u) H → va_S (xA ad 23) s.heap H locs → k19 b1 b2 b3 u = some u1 → W p l e (xrm 1 23) s m args below meth c H locs 0 0 Q (F0 m 19 ls [])), ∀ (b1 : Int32) (b2 : Int32) (b3 : Int32) (u : xS) (H : Heap) (locs : List Loc) (ls : Array Slot), lv_has ls 5 [(0, .ref (ad 0)), (1, .int b1), (2, .int b2), (3, .int b3)] → va_P (dC, dI) xCl (mW dT ad u) H → va_S (xA ad 23) s.heap H locs → m_Model_putRuns_s19 k2 k19 b1 b2 b3 u = some u1 → W p l e (xrm 1 23) s m args below meth c H locs 0 0 Q (F0 m 19 ls []) := by
    intro k2 hk2 k19 hk19 b1 b2 b3 u H locs ls hl hP hS hm
    unfold m_Model_putRuns_s19 at hm
    refine lv_iload_n hx hb d_Model_putRuns_19 rfl (lv_at hl 1 rfl) ?_
    refine lv_iload_n hx hb d_Model_putRuns_20 rfl (lv_at hl 3 rfl) ?_
    refine lv_iadd hx hb d_Model_putRuns_21 ?_
    refine lv_aload_n hx hb d_Model_putRuns_22 rfl (lv_at hl 0 rfl) ?_
    refine va_get (D := (dC, dI)) (ci := 8) (v := .int (xs_i u 2)) (C := "EventGraphTextModel") (T := T_Model) (N := 26) hx hb hT hin_Model hown hK hP 0 mW_X rfl 23 (by decide) (hT _ wd_581) (fun _ h9 => h9) rfl d_Model_putRuns_23 ?_
    refine lv_icmp_ge (tgt := 57) hx hb d_Model_putRuns_26 rfl (fun h => ?_) (fun h => ?_)
    · replace hm := xi_pos h hm
      exact hb57 k2 hk2 b1 b2 b3 u _ _ _ (lv_sub hl [0, 1, 2, 3] rfl) hP hS hm
    · replace hm := xi_neg h hm
      refine lv_aload_n hx hb d_Model_putRuns_29 rfl (lv_at hl 0 rfl) ?_
      refine va_get (D := (dC, dI)) (ci := 8) (v := .ref (ad 1)) (C := "EventGraphTextModel") (T := T_Model) (N := 26) hx hb hT hin_Model hown hK hP 0 mW_X rfl 1 (by decide) (hT _ wd_559) (fun _ h9 => h9) rfl d_Model_putRuns_30 ?_
      refine lv_aload_n hx hb d_Model_putRuns_33 rfl (lv_at hl 0 rfl) ?_
      refine va_get (D := (dC, dI)) (ci := 8) (v := .ref (ad 21)) (C := "EventGraphTextModel") (T := T_Model) (N := 26) hx hb hT hin_Model hown hK hP 0 mW_X rfl 22 (by decide) (hT _ wd_580) (fun _ h9 => h9) rfl d_Model_putRuns_34 ?_
      refine lv_iload_n hx hb d_Model_putRuns_37 rfl (lv_at hl 1 rfl) ?_
      refine lv_iload_n hx hb d_Model_putRuns_38 rfl (lv_at hl 3 rfl) ?_
      refine lv_iadd hx hb d_Model_putRuns_39 ?_
      obtain ⟨g5, hm⟩ := xg_some hm
      refine va_iald hx hb hK hP 21 0 mW_X_turn rfl g5 d_Model_putRuns_40 ?_
      obtain ⟨g6, hm⟩ := xg_some hm
      refine va_iald hx hb hK hP 1 0 mW_X_site rfl g6 d_Model_putRuns_41 ?_
      refine lv_aload_n hx hb d_Model_putRuns_42 rfl (lv_at hl 0 rfl) ?_
      refine va_get (D := (dC, dI)) (ci := 8) (v := .ref (ad 1)) (C := "EventGraphTextModel") (T := T_Model) (N := 26) hx hb hT hin_Model hown hK hP 0 mW_X rfl 1 (by decide) (hT _ wd_559) (fun _ h9 => h9) rfl d_Model_putRuns_43 ?_
      refine lv_iload_n hx hb d_Model_putRuns_46 rfl (lv_at hl 2 rfl) ?_
      obtain ⟨g7, hm⟩ := xg_some hm
      refine va_iald hx hb hK hP 1 0 mW_X_site rfl g7 d_Model_putRuns_47 ?_
      refine lv_icmp_ne (tgt := 57) hx hb d_Model_putRuns_48 rfl (fun h => ?_) (fun h => ?_)
      · replace hm := xi_neg h hm
        exact hb57 k2 hk2 b1 b2 b3 u _ _ _ (lv_sub hl [0, 1, 2, 3] rfl) hP hS hm
      · replace hm := xi_pos h hm
        refine lv_iinc (k := 3) (v := (b3 + (1 : Int32))) (lv' := [(3, .int (b3 + (1 : Int32))), (0, .ref (ad 0)), (1, .int b1), (2, .int b2)]) hx hb d_Model_putRuns_51 hl rfl rfl (Nat.le_of_ble_eq_true rfl) rfl (fun ls hl => ?_)
        refine lv_goto (tgt := 19) hx hb d_Model_putRuns_54 rfl ?_
        exact hk19 b1 b2 (b3 + (1 : Int32)) u _ _ _ (lv_sub hl [1, 2, 3, 0] rfl) hP hS hm
  have hl19 : ∀ (k2 : Int32 → xS → Option xS) (hk2 : ∀ (b1 : Int32) (u : xS) (H : Heap) (locs : List Loc) (ls : Array Slot), lv_has ls 5 [(0, .ref (ad 0)), (1, .int b1)] → va_P (dC, dI) xCl (mW dT ad u) H → va_S (xA ad 23) s.heap H locs → k2 b1 u = some u1 → W p l e (xrm 1 23) s m args below meth c H locs 0 0 Q (F0 m 2 ls [])) (fu : Nat), ∀ (b1 : Int32) (b2 : Int32) (b3 : Int32) (u : xS) (H : Heap) (locs : List Loc) (ls : Array Slot), lv_has ls 5 [(0, .ref (ad 0)), (1, .int b1), (2, .int b2), (3, .int b3)] → va_P (dC, dI) xCl (mW dT ad u) H → va_S (xA ad 23) s.heap H locs → m_Model_putRuns_l19 k2 fu b1 b2 b3 u = some u1 → W p l e (xrm 1 23) s m args below meth c H locs 0 0 Q (F0 m 19 ls []) := by
    intro k2 hk2 fu
    induction fu with
    | zero => intro b1 b2 b3 u H locs ls hl hP hS hm; exact absurd hm (fun z => by cases z)
    | succ n ih => intro b1 b2 b3 u H locs ls hl hP hS hm; exact hs19 k2 hk2 (m_Model_putRuns_l19 k2 n) ih b1 b2 b3 u H locs ls hl hP hS hm
  have hs2 : ∀ (k2 : Int32 → xS → Option xS) (hk2 : ∀ (b1 : Int32) (u : xS) (H : Heap) (locs : List Loc) (ls : Array Slot), lv_has ls 5 [(0, .ref (ad 0)), (1, .int b1)] → va_P (dC, dI) xCl (mW dT ad u) H → va_S (xA ad 23) s.heap H locs → k2 b1 u = some u1 → W p l e (xrm 1 23) s m args below meth c H locs 0 0 Q (F0 m 2 ls [])), ∀ (b1 : Int32) (u : xS) (H : Heap) (locs : List Loc) (ls : Array Slot), lv_has ls 5 [(0, .ref (ad 0)), (1, .int b1)] → va_P (dC, dI) xCl (mW dT ad u) H → va_S (xA ad 23) s.heap H locs → m_Model_putRuns_s2 k2 b1 u = some u1 → W p l e (xrm 1 23) s m args below meth c H locs 0 0 Q (F0 m 2 ls []) := by
    intro k2 hk2 b1 u H locs ls hl hP hS hm
    unfold m_Model_putRuns_s2 at hm
    refine lv_iload_n hx hb d_Model_putRuns_2 rfl (lv_at hl 1 rfl) ?_
    refine lv_aload_n hx hb d_Model_putRuns_3 rfl (lv_at hl 0 rfl) ?_
    refine va_get (D := (dC, dI)) (ci := 8) (v := .int (xs_i u 2)) (C := "EventGraphTextModel") (T := T_Model) (N := 26) hx hb hT hin_Model hown hK hP 0 mW_X rfl 23 (by decide) (hT _ wd_581) (fun _ h9 => h9) rfl d_Model_putRuns_4 ?_
    refine lv_icmp_ge (tgt := 89) hx hb d_Model_putRuns_7 rfl (fun h => ?_) (fun h => ?_)
    · replace hm := xi_pos h hm
      refine lv_iconst (v := (1 : Int32)) hx hb d_Model_putRuns_89 (by decide) ?_
      refine lv_istore_n (lv' := [(2, .int (1 : Int32)), (0, .ref (ad 0)), (1, .int b1)]) hx hb d_Model_putRuns_90 rfl hl (Nat.le_of_ble_eq_true rfl) rfl (fun ls hl => ?_)
      refine lv_iconst (v := (0 : Int32)) hx hb d_Model_putRuns_91 (by decide) ?_
      refine lv_istore_n (lv' := [(3, .int (0 : Int32)), (2, .int (1 : Int32)), (0, .ref (ad 0)), (1, .int b1)]) hx hb d_Model_putRuns_92 rfl hl (Nat.le_of_ble_eq_true rfl) rfl (fun ls hl => ?_)
      exact hl93 xFU (1 : Int32) (0 : Int32) u _ _ _ (lv_sub hl [2, 1, 0] rfl) hP hS hm
    · replace hm := xi_neg h hm
      refine lv_aload_n hx hb d_Model_putRuns_10 rfl (lv_at hl 0 rfl) ?_
      refine va_get (D := (dC, dI)) (ci := 8) (v := .ref (ad 21)) (C := "EventGraphTextModel") (T := T_Model) (N := 26) hx hb hT hin_Model hown hK hP 0 mW_X rfl 22 (by decide) (hT _ wd_580) (fun _ h9 => h9) rfl d_Model_putRuns_11 ?_
      refine lv_iload_n hx hb d_Model_putRuns_14 rfl (lv_at hl 1 rfl) ?_
      obtain ⟨g3, hm⟩ := xg_some hm
      refine va_iald hx hb hK hP 21 0 mW_X_turn rfl g3 d_Model_putRuns_15 ?_
      refine lv_istore_n (lv' := [(2, .int (xs_I u 15 b1.toNatClampNeg)), (0, .ref (ad 0)), (1, .int b1)]) hx hb d_Model_putRuns_16 rfl hl (Nat.le_of_ble_eq_true rfl) rfl (fun ls hl => ?_)
      refine lv_iconst (v := (1 : Int32)) hx hb d_Model_putRuns_17 (by decide) ?_
      refine lv_istore_n (lv' := [(3, .int (1 : Int32)), (2, .int (xs_I u 15 b1.toNatClampNeg)), (0, .ref (ad 0)), (1, .int b1)]) hx hb d_Model_putRuns_18 rfl hl (Nat.le_of_ble_eq_true rfl) rfl (fun ls hl => ?_)
      exact hl19 k2 hk2 xFU b1 (xs_I u 15 b1.toNatClampNeg) (1 : Int32) u _ _ _ (lv_sub hl [2, 3, 1, 0] rfl) hP hS hm
  have hl2 : ∀ (fu : Nat), ∀ (b1 : Int32) (u : xS) (H : Heap) (locs : List Loc) (ls : Array Slot), lv_has ls 5 [(0, .ref (ad 0)), (1, .int b1)] → va_P (dC, dI) xCl (mW dT ad u) H → va_S (xA ad 23) s.heap H locs → m_Model_putRuns_l2 fu b1 u = some u1 → W p l e (xrm 1 23) s m args below meth c H locs 0 0 Q (F0 m 2 ls []) := by
    intro fu
    induction fu with
    | zero => intro b1 u H locs ls hl hP hS hm; exact absurd hm (fun z => by cases z)
    | succ n ih => intro b1 u H locs ls hl hP hS hm; exact hs2 (m_Model_putRuns_l2 n) ih b1 u H locs ls hl hP hS hm
  unfold m_Model_putRuns at hm
  refine lv_iconst (v := (0 : Int32)) hx hb d_Model_putRuns_0 (by decide) ?_
  refine lv_istore_n (lv' := [(1, .int (0 : Int32)), (0, .ref (ad 0))]) hx hb d_Model_putRuns_1 rfl hl (Nat.le_of_ble_eq_true rfl) rfl (fun ls hl => ?_)
  exact hl2 xFU (0 : Int32) u _ _ _ (lv_sub hl [1, 0] rfl) hP hS hm
set_option maxHeartbeats 4000000 in
set_option maxRecDepth 100000 in
theorem c_Model_putParents (l : Launch) (dC : Nat → ClassId) (dI : Nat → Nat → Nat) (dT : Nat → ClassId) (ad : Nat → Nat) (hD : ∀ u, va_D (xA ad 23) (mW dT ad u)) (a1 : Int32) (u : xS) (u1 : xS) (hm : m_Model_putParents a1 u = some u1) : Met l y_Model_putParents (Cond.code y_Model_putParents b_Model_putParents 5 none :: xG) (xrm 2 45) (va_Pc [.ref (ad 0), .int a1] (xR (dC, dI) xCl (xT dT) (mW dT ad u))) (va_Qv (fun (u9 : xS) => u9 = u1) (fun u9 t => va_P (dC, dI) xCl (mW dT ad u9) t.heap) (xA ad 23)) 0 0 (xA ad 23) := by
  refine xm_rwv (Wd := mW dT ad) (cc := b_Model_putParents) (maxL := 5) (by decide) rfl (Nat.le_of_ble_eq_true rfl) ?_
  intro p e s m args below meth c Q ls hx hb hml hts hown hK hN hP hl hret
  have hT : ∀ w ∈ xG, w.before args s = true := fun w h => hts w (List.mem_cons_of_mem _ h)
  have hown : s.vm.findClass "EventGraphTextModel" = some m.cls := hown
  have hl : lv_has ls 5 [(0, .ref (ad 0)), (1, .int a1)] := hl
  have hS : va_S (xA ad 23) s.heap s.heap [] := va_S.rf
  have hs63 : ∀ (k55 : Int32 → Int32 → xS → Option xS) (hk55 : ∀ (b2 : Int32) (b3 : Int32) (u : xS) (H : Heap) (locs : List Loc) (ls : Array Slot), lv_has ls 5 [(0, .ref (ad 0)), (2, .int b2), (3, .int b3)] → va_P (dC, dI) xCl (mW dT ad u) H → va_S (xA ad 23) s.heap H locs → k55 b2 b3 u = some u1 → W p l e (xrm 2 45) s m args below meth c H locs 0 0 Q (F0 m 55 ls [])) (k63 : Int32 → Int32 → Int32 → xS → Option xS) (hk63 : ∀ (b2 : Int32) (b3 : Int32) (b4 : Int32) (u : xS) (H : Heap) (locs : List Loc) (ls : Array Slot), lv_has ls 5 [(0, .ref (ad 0)), (2, .int b2), (3, .int b3), (4, .int b4)] → va_P (dC, dI) xCl (mW dT ad u) H → va_S (xA ad 23) s.heap H locs → k63 b2 b3 b4 u = some u1 → W p l e (xrm 2 45) s m args below meth c H locs 0 0 Q (F0 m 63 ls [])), ∀ (b2 : Int32) (b3 : Int32) (b4 : Int32) (u : xS) (H : Heap) (locs : List Loc) (ls : Array Slot), lv_has ls 5 [(0, .ref (ad 0)), (2, .int b2), (3, .int b3), (4, .int b4)] → va_P (dC, dI) xCl (mW dT ad u) H → va_S (xA ad 23) s.heap H locs → m_Model_putParents_s63 k55 k63 b2 b3 b4 u = some u1 → W p l e (xrm 2 45) s m args below meth c H locs 0 0 Q (F0 m 63 ls []) := by
    intro k55 hk55 k63 hk63 b2 b3 b4 u H locs ls hl hP hS hm
    unfold m_Model_putParents_s63 at hm
    refine lv_iload hx hb d_Model_putParents_63 (lv_at hl 3 rfl) ?_
    refine lv_aload_n hx hb d_Model_putParents_65 rfl (lv_at hl 0 rfl) ?_
    refine va_get (D := (dC, dI)) (ci := 8) (v := .int (xs_i u 0)) (C := "EventGraphTextModel") (T := T_Model) (N := 26) hx hb hT hin_Model hown hK hP 0 mW_X rfl 0 (by decide) (hT _ wd_558) (fun _ h9 => h9) rfl d_Model_putParents_66 ?_
    refine lv_icmp_ge (tgt := 118) hx hb d_Model_putParents_69 rfl (fun h => ?_) (fun h => ?_)
    · replace hm := xi_pos h hm
      refine lv_iinc (k := 2) (v := (b3 + (1 : Int32))) (lv' := [(3, .int (b3 + (1 : Int32))), (0, .ref (ad 0)), (2, .int b2), (4, .int b4)]) hx hb d_Model_putParents_118 hl rfl rfl (Nat.le_of_ble_eq_true rfl) rfl (fun ls hl => ?_)
      refine lv_goto (tgt := 55) hx hb d_Model_putParents_121 rfl ?_
      exact hk55 b2 (b3 + (1 : Int32)) u _ _ _ (lv_sub hl [1, 2, 0] rfl) hP hS hm
    · replace hm := xi_neg h hm
      refine lv_aload_n hx hb d_Model_putParents_72 rfl (lv_at hl 0 rfl) ?_
      refine va_get (D := (dC, dI)) (ci := 8) (v := .ref (ad 1)) (C := "EventGraphTextModel") (T := T_Model) (N := 26) hx hb hT hin_Model hown hK hP 0 mW_X rfl 1 (by decide) (hT _ wd_559) (fun _ h9 => h9) rfl d_Model_putParents_73 ?_
      refine lv_iload hx hb d_Model_putParents_76 (lv_at hl 3 rfl) ?_
      obtain ⟨g3, hm⟩ := xg_some hm
      refine va_iald hx hb hK hP 1 0 mW_X_site rfl g3 d_Model_putParents_78 ?_
      refine lv_iload_n hx hb d_Model_putParents_79 rfl (lv_at hl 2 rfl) ?_
      refine lv_icmp_ne (tgt := 112) hx hb d_Model_putParents_80 rfl (fun h => ?_) (fun h => ?_)
      · replace hm := xi_neg h hm
        refine lv_iinc (k := 3) (v := (b4 + (1 : Int32))) (lv' := [(4, .int (b4 + (1 : Int32))), (0, .ref (ad 0)), (2, .int b2), (3, .int b3)]) hx hb d_Model_putParents_112 hl rfl rfl (Nat.le_of_ble_eq_true rfl) rfl (fun ls hl => ?_)
        refine lv_goto (tgt := 63) hx hb d_Model_putParents_115 rfl ?_
        exact hk63 b2 b3 (b4 + (1 : Int32)) u _ _ _ (lv_sub hl [1, 2, 3, 0] rfl) hP hS hm
      · replace hm := xi_pos h hm
        refine lv_aload_n hx hb d_Model_putParents_83 rfl (lv_at hl 0 rfl) ?_
        refine va_get (D := (dC, dI)) (ci := 8) (v := .ref (ad 7)) (C := "EventGraphTextModel") (T := T_Model) (N := 26) hx hb hT hin_Model hown hK hP 0 mW_X rfl 7 (by decide) (hT _ wd_565) (fun _ h9 => h9) rfl d_Model_putParents_84 ?_
        refine lv_iload_n hx hb d_Model_putParents_87 rfl (lv_at hl 1 rfl) ?_
        obtain ⟨g4, hm⟩ := xg_some hm
        refine va_lald hx hb hK hP 7 1 mW_X_parents rfl g4 d_Model_putParents_88 ?_
        refine lv_iload hx hb d_Model_putParents_89 (lv_at hl 3 rfl) ?_
        obtain ⟨r91, h91, hm⟩ := xb1_some hm
        refine xc_i (va_runS (As := [.long (xs_L u 1 b2.toNatClampNeg), .int b4]) (rest := []) ⟨hx, hb, hml, hown, hts⟩ (c_Model_in l (xs_L u 1 b2.toNatClampNeg) b4 r91 h91) (va_cwS 2 hts (xgS wd_656 wd_657 wd_9 wd_658) rfl rfl rfl pd_Model_in.2 ⟨Nat.le_of_ble_eq_true rfl, Nat.le_of_ble_eq_true rfl⟩) xpreS0 rfl rfl hl.1 rfl (lv_room (Nat.le_of_ble_eq_true rfl)) d_Model_putParents_91 ⟨Nat.le_of_ble_eq_true rfl, Nat.le_of_ble_eq_true rfl⟩) hP hS (fun H locs hP hS => ?_)
        refine lv_if_eq (tgt := 112) hx hb d_Model_putParents_94 rfl (fun h => ?_) (fun h => ?_)
        · replace hm := xi_pos h hm
          refine lv_iinc (k := 3) (v := (b4 + (1 : Int32))) (lv' := [(4, .int (b4 + (1 : Int32))), (0, .ref (ad 0)), (2, .int b2), (3, .int b3)]) hx hb d_Model_putParents_112 hl rfl rfl (Nat.le_of_ble_eq_true rfl) rfl (fun ls hl => ?_)
          refine lv_goto (tgt := 63) hx hb d_Model_putParents_115 rfl ?_
          exact hk63 b2 b3 (b4 + (1 : Int32)) u _ _ _ (lv_sub hl [1, 2, 3, 0] rfl) hP hS hm
        · replace hm := xi_neg h hm
          refine lv_aload_n hx hb d_Model_putParents_97 rfl (lv_at hl 0 rfl) ?_
          refine lv_iload_n hx hb d_Model_putParents_98 rfl (lv_at hl 2 rfl) ?_
          refine lv_iconst (v := (3 : Int32)) hx hb d_Model_putParents_99 (by decide) ?_
          refine lv_aload_n hx hb d_Model_putParents_100 rfl (lv_at hl 0 rfl) ?_
          refine va_get (D := (dC, dI)) (ci := 8) (v := .ref (ad 2)) (C := "EventGraphTextModel") (T := T_Model) (N := 26) hx hb hT hin_Model hown hK hP 0 mW_X rfl 2 (by decide) (hT _ wd_560) (fun _ h9 => h9) rfl d_Model_putParents_101 ?_
          refine lv_iload hx hb d_Model_putParents_104 (lv_at hl 3 rfl) ?_
          refine va_iald hx hb hK hP 2 0 mW_X_number rfl g3 d_Model_putParents_106 ?_
          refine lv_imul hx hb d_Model_putParents_107 ?_
          refine lv_iadd hx hb d_Model_putParents_108 ?_
          obtain ⟨u109, h109, hm⟩ := xb1_some hm
          refine xc_vw (Wd := mW dT ad) (va_runV (C := "EventGraphTextModel") (As := [.int (b3 + ((3 : Int32) * (xs_I u 1 b4.toNatClampNeg)))]) (rest := []) ⟨hx, hb, hml, hown, hts⟩ (c_Model_put l dC dI dT ad hD (b3 + ((3 : Int32) * (xs_I u 1 b4.toNatClampNeg))) u u109 h109) (cwV 1 hts (xgV wd_771 wd_773 wds_34 wd_9 wd_774) rfl rfl rfl pd_Model_put ⟨Nat.le_of_ble_eq_true rfl, Nat.le_of_ble_eq_true rfl⟩) (xpreV (C := "EventGraphTextModel") (T := T_Model) (N := 26) hP hK hN rfl mW_X) rfl rfl hl.1 rfl (lv_room (Nat.le_of_ble_eq_true rfl)) d_Model_putParents_109 ⟨Nat.le_of_ble_eq_true rfl, Nat.le_of_ble_eq_true rfl⟩) hS (fun _ h => h) (fun H locs hP hS => ?_)
          refine lv_iinc (k := 3) (v := (b4 + (1 : Int32))) (lv' := [(4, .int (b4 + (1 : Int32))), (0, .ref (ad 0)), (2, .int b2), (3, .int b3)]) hx hb d_Model_putParents_112 hl rfl rfl (Nat.le_of_ble_eq_true rfl) rfl (fun ls hl => ?_)
          refine lv_goto (tgt := 63) hx hb d_Model_putParents_115 rfl ?_
          exact hk63 b2 b3 (b4 + (1 : Int32)) u109 _ _ _ (lv_sub hl [1, 2, 3, 0] rfl) hP hS hm
  have hl63 : ∀ (k55 : Int32 → Int32 → xS → Option xS) (hk55 : ∀ (b2 : Int32) (b3 : Int32) (u : xS) (H : Heap) (locs : List Loc) (ls : Array Slot), lv_has ls 5 [(0, .ref (ad 0)), (2, .int b2), (3, .int b3)] → va_P (dC, dI) xCl (mW dT ad u) H → va_S (xA ad 23) s.heap H locs → k55 b2 b3 u = some u1 → W p l e (xrm 2 45) s m args below meth c H locs 0 0 Q (F0 m 55 ls [])) (fu : Nat), ∀ (b2 : Int32) (b3 : Int32) (b4 : Int32) (u : xS) (H : Heap) (locs : List Loc) (ls : Array Slot), lv_has ls 5 [(0, .ref (ad 0)), (2, .int b2), (3, .int b3), (4, .int b4)] → va_P (dC, dI) xCl (mW dT ad u) H → va_S (xA ad 23) s.heap H locs → m_Model_putParents_l63 k55 fu b2 b3 b4 u = some u1 → W p l e (xrm 2 45) s m args below meth c H locs 0 0 Q (F0 m 63 ls []) := by
    intro k55 hk55 fu
    induction fu with
    | zero => intro b2 b3 b4 u H locs ls hl hP hS hm; exact absurd hm (fun z => by cases z)
    | succ n ih => intro b2 b3 b4 u H locs ls hl hP hS hm; exact hs63 k55 hk55 (m_Model_putParents_l63 k55 n) ih b2 b3 b4 u H locs ls hl hP hS hm
  have hs55 : ∀ (k55 : Int32 → Int32 → xS → Option xS) (hk55 : ∀ (b2 : Int32) (b3 : Int32) (u : xS) (H : Heap) (locs : List Loc) (ls : Array Slot), lv_has ls 5 [(0, .ref (ad 0)), (2, .int b2), (3, .int b3)] → va_P (dC, dI) xCl (mW dT ad u) H → va_S (xA ad 23) s.heap H locs → k55 b2 b3 u = some u1 → W p l e (xrm 2 45) s m args below meth c H locs 0 0 Q (F0 m 55 ls [])), ∀ (b2 : Int32) (b3 : Int32) (u : xS) (H : Heap) (locs : List Loc) (ls : Array Slot), lv_has ls 5 [(0, .ref (ad 0)), (2, .int b2), (3, .int b3)] → va_P (dC, dI) xCl (mW dT ad u) H → va_S (xA ad 23) s.heap H locs → m_Model_putParents_s55 k55 b2 b3 u = some u1 → W p l e (xrm 2 45) s m args below meth c H locs 0 0 Q (F0 m 55 ls []) := by
    intro k55 hk55 b2 b3 u H locs ls hl hP hS hm
    unfold m_Model_putParents_s55 at hm
    refine lv_iload_n hx hb d_Model_putParents_55 rfl (lv_at hl 2 rfl) ?_
    refine lv_iconst (v := (3 : Int32)) hx hb d_Model_putParents_56 (by decide) ?_
    refine lv_icmp_ge (tgt := 124) hx hb d_Model_putParents_57 rfl (fun h => ?_) (fun h => ?_)
    · replace hm := xi_pos h hm
      exact hret hm hP hS d_Model_putParents_124
    · replace hm := xi_neg h hm
      refine lv_iconst (v := (0 : Int32)) hx hb d_Model_putParents_60 (by decide) ?_
      refine lv_istore (lv' := [(4, .int (0 : Int32)), (0, .ref (ad 0)), (2, .int b2), (3, .int b3)]) hx hb d_Model_putParents_61 hl (Nat.le_of_ble_eq_true rfl) rfl (fun ls hl => ?_)
      exact hl63 k55 hk55 xFU b2 b3 (0 : Int32) u _ _ _ (lv_sub hl [1, 2, 3, 0] rfl) hP hS hm
  have hl55 : ∀ (fu : Nat), ∀ (b2 : Int32) (b3 : Int32) (u : xS) (H : Heap) (locs : List Loc) (ls : Array Slot), lv_has ls 5 [(0, .ref (ad 0)), (2, .int b2), (3, .int b3)] → va_P (dC, dI) xCl (mW dT ad u) H → va_S (xA ad 23) s.heap H locs → m_Model_putParents_l55 fu b2 b3 u = some u1 → W p l e (xrm 2 45) s m args below meth c H locs 0 0 Q (F0 m 55 ls []) := by
    intro fu
    induction fu with
    | zero => intro b2 b3 u H locs ls hl hP hS hm; exact absurd hm (fun z => by cases z)
    | succ n ih => intro b2 b3 u H locs ls hl hP hS hm; exact hs55 (m_Model_putParents_l55 n) ih b2 b3 u H locs ls hl hP hS hm
  have hb38 : ∀ (b2 : Int32) (u : xS) (H : Heap) (locs : List Loc) (ls : Array Slot), lv_has ls 5 [(0, .ref (ad 0)), (2, .int b2)] → va_P (dC, dI) xCl (mW dT ad u) H → va_S (xA ad 23) s.heap H locs → m_Model_putParents_b38 b2 u = some u1 → W p l e (xrm 2 45) s m args below meth c H locs 0 0 Q (F0 m 38 ls []) := by
    intro b2 u H locs ls hl hP hS hm
    unfold m_Model_putParents_b38 at hm
    refine lv_aload_n hx hb d_Model_putParents_38 rfl (lv_at hl 0 rfl) ?_
    refine lv_iconst (v := (1 : Int32)) hx hb d_Model_putParents_39 (by decide) ?_
    refine lv_aload_n hx hb d_Model_putParents_40 rfl (lv_at hl 0 rfl) ?_
    refine va_get (D := (dC, dI)) (ci := 8) (v := .ref (ad 7)) (C := "EventGraphTextModel") (T := T_Model) (N := 26) hx hb hT hin_Model hown hK hP 0 mW_X rfl 7 (by decide) (hT _ wd_565) (fun _ h9 => h9) rfl d_Model_putParents_41 ?_
    refine lv_iload_n hx hb d_Model_putParents_44 rfl (lv_at hl 1 rfl) ?_
    obtain ⟨g2, hm⟩ := xg_some hm
    refine va_lald hx hb hK hP 7 1 mW_X_parents rfl g2 d_Model_putParents_45 ?_
    obtain ⟨r46, h46, hm⟩ := xb1_some hm
    refine xc_i (va_runS (As := [.long (xs_L u 1 b2.toNatClampNeg)]) (rest := [.int (1 : Int32), .ref (ad 0)]) ⟨hx, hb, hml, hown, hts⟩ (c_Model_many l (xs_L u 1 b2.toNatClampNeg) r46 h46) (va_cwS 1 hts (xgS wd_727 wd_728 wd_9 wd_729) rfl rfl rfl pd_Model_many.2 ⟨Nat.le_of_ble_eq_true rfl, Nat.le_of_ble_eq_true rfl⟩) xpreS0 rfl rfl hl.1 rfl (lv_room (Nat.le_of_ble_eq_true rfl)) d_Model_putParents_46 ⟨Nat.le_of_ble_eq_true rfl, Nat.le_of_ble_eq_true rfl⟩) hP hS (fun H locs hP hS => ?_)
    refine lv_iadd hx hb d_Model_putParents_49 ?_
    obtain ⟨u50, h50, hm⟩ := xb1_some hm
    refine xc_vw (Wd := mW dT ad) (va_runV (C := "EventGraphTextModel") (As := [.int ((1 : Int32) + r46)]) (rest := []) ⟨hx, hb, hml, hown, hts⟩ (c_Model_put l dC dI dT ad hD ((1 : Int32) + r46) u u50 h50) (cwV 1 hts (xgV wd_771 wd_773 wds_34 wd_9 wd_774) rfl rfl rfl pd_Model_put ⟨Nat.le_of_ble_eq_true rfl, Nat.le_of_ble_eq_true rfl⟩) (xpreV (C := "EventGraphTextModel") (T := T_Model) (N := 26) hP hK hN rfl mW_X) rfl rfl hl.1 rfl (lv_room (Nat.le_of_ble_eq_true rfl)) d_Model_putParents_50 ⟨Nat.le_of_ble_eq_true rfl, Nat.le_of_ble_eq_true rfl⟩) hS (fun _ h => h) (fun H locs hP hS => ?_)
    refine lv_iconst (v := (0 : Int32)) hx hb d_Model_putParents_53 (by decide) ?_
    refine lv_istore_n (lv' := [(3, .int (0 : Int32)), (0, .ref (ad 0)), (2, .int b2)]) hx hb d_Model_putParents_54 rfl hl (Nat.le_of_ble_eq_true rfl) rfl (fun ls hl => ?_)
    exact hl55 xFU b2 (0 : Int32) u50 _ _ _ (lv_sub hl [1, 2, 0] rfl) hP hS hm
  unfold m_Model_putParents at hm
  refine lv_aload_n hx hb d_Model_putParents_0 rfl (lv_at hl 0 rfl) ?_
  refine va_get (D := (dC, dI)) (ci := 8) (v := .ref (ad 21)) (C := "EventGraphTextModel") (T := T_Model) (N := 26) hx hb hT hin_Model hown hK hP 0 mW_X rfl 22 (by decide) (hT _ wd_580) (fun _ h9 => h9) rfl d_Model_putParents_1 ?_
  refine lv_iload_n hx hb d_Model_putParents_4 rfl (lv_at hl 1 rfl) ?_
  obtain ⟨g1, hm⟩ := xg_some hm
  refine va_iald hx hb hK hP 21 0 mW_X_turn rfl g1 d_Model_putParents_5 ?_
  refine lv_istore_n (lv' := [(2, .int (xs_I u 15 a1.toNatClampNeg)), (0, .ref (ad 0)), (1, .int a1)]) hx hb d_Model_putParents_6 rfl hl (Nat.le_of_ble_eq_true rfl) rfl (fun ls hl => ?_)
  refine lv_iload_n hx hb d_Model_putParents_7 rfl (lv_at hl 2 rfl) ?_
  refine lv_if_le (tgt := 38) hx hb d_Model_putParents_8 rfl (fun h => ?_) (fun h => ?_)
  · replace hm := xi_pos h hm
    exact hb38 (xs_I u 15 a1.toNatClampNeg) u _ _ _ (lv_sub hl [1, 0] rfl) hP hS hm
  · replace hm := xi_neg h hm
    refine lv_aload_n hx hb d_Model_putParents_11 rfl (lv_at hl 1 rfl) ?_
    refine va_get (D := (dC, dI)) (ci := 8) (v := .ref (ad 7)) (C := "EventGraphTextModel") (T := T_Model) (N := 26) hx hb hT hin_Model hown hK hP 0 mW_X rfl 7 (by decide) (hT _ wd_565) (fun _ h9 => h9) rfl d_Model_putParents_12 ?_
    refine lv_iload_n hx hb d_Model_putParents_15 rfl (lv_at hl 0 rfl) ?_
    obtain ⟨g5, hm⟩ := xg_some hm
    refine va_lald hx hb hK hP 7 1 mW_X_parents rfl g5 d_Model_putParents_16 ?_
    refine lv_aload_n hx hb d_Model_putParents_17 rfl (lv_at hl 1 rfl) ?_
    refine va_get (D := (dC, dI)) (ci := 8) (v := .ref (ad 21)) (C := "EventGraphTextModel") (T := T_Model) (N := 26) hx hb hT hin_Model hown hK hP 0 mW_X rfl 22 (by decide) (hT _ wd_580) (fun _ h9 => h9) rfl d_Model_putParents_18 ?_
    refine lv_iload_n hx hb d_Model_putParents_21 rfl (lv_at hl 2 rfl) ?_
    refine lv_iconst (v := (1 : Int32)) hx hb d_Model_putParents_22 (by decide) ?_
    refine lv_isub hx hb d_Model_putParents_23 ?_
    obtain ⟨g6, hm⟩ := xg_some hm
    refine va_iald hx hb hK hP 21 0 mW_X_turn rfl g6 d_Model_putParents_24 ?_
    obtain ⟨r25, h25, hm⟩ := xb1_some hm
    refine xc_l (va_runS (As := [.int (xs_I u 15 (a1 - (1 : Int32)).toNatClampNeg)]) (rest := [.long (xs_L u 1 (xs_I u 15 a1.toNatClampNeg).toNatClampNeg)]) ⟨hx, hb, hml, hown, hts⟩ (c_Model_one l (xs_I u 15 (a1 - (1 : Int32)).toNatClampNeg) r25 h25) (va_cwS 1 hts (xgS wd_659 wd_660 wd_9 wd_661) rfl rfl rfl pd_Model_one.2 ⟨Nat.le_of_ble_eq_true rfl, Nat.le_of_ble_eq_true rfl⟩) xpreS0 rfl rfl hl.1 rfl (lv_room (Nat.le_of_ble_eq_true rfl)) d_Model_putParents_25 ⟨Nat.le_of_ble_eq_true rfl, Nat.le_of_ble_eq_true rfl⟩) hP hS (fun H locs hP hS => ?_)
    refine xl_cmp_ne (tgt := 38) hx hb d_Model_putParents_28 d_Model_putParents_29 rfl (fun h => ?_) (fun h => ?_)
    · replace hm := xi_neg h hm
      exact hb38 (xs_I u 15 a1.toNatClampNeg) u _ _ _ (lv_sub hl [1, 0] rfl) hP hS hm
    · replace hm := xi_pos h hm
      refine lv_aload_n hx hb d_Model_putParents_32 rfl (lv_at hl 1 rfl) ?_
      refine lv_iconst (v := (0 : Int32)) hx hb d_Model_putParents_33 (by decide) ?_
      obtain ⟨u34, h34, hm⟩ := xb1_some hm
      refine xc_vw (Wd := mW dT ad) (va_runV (C := "EventGraphTextModel") (As := [.int (0 : Int32)]) (rest := []) ⟨hx, hb, hml, hown, hts⟩ (c_Model_put l dC dI dT ad hD (0 : Int32) u u34 h34) (cwV 1 hts (xgV wd_771 wd_773 wds_34 wd_9 wd_774) rfl rfl rfl pd_Model_put ⟨Nat.le_of_ble_eq_true rfl, Nat.le_of_ble_eq_true rfl⟩) (xpreV (C := "EventGraphTextModel") (T := T_Model) (N := 26) hP hK hN rfl mW_X) rfl rfl hl.1 rfl (lv_room (Nat.le_of_ble_eq_true rfl)) d_Model_putParents_34 ⟨Nat.le_of_ble_eq_true rfl, Nat.le_of_ble_eq_true rfl⟩) hS (fun _ h => h) (fun H locs hP hS => ?_)
      exact hret hm hP hS d_Model_putParents_37
