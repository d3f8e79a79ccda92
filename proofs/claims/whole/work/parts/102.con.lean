set_option maxHeartbeats 4000000 in
set_option maxRecDepth 100000 in
theorem c_History_numberOf (l : Launch) (dC : Nat → ClassId) (dI : Nat → Nat → Nat) (dT : Nat → ClassId) (ad : Nat → Nat) (a1 : Int32) (u : xS) (out : Int32) (hm : m_History_numberOf a1 u = some out) : Met l y_History_numberOf (Cond.code y_History_numberOf b_History_numberOf 2 (some .int) :: xG) (xrm 0 0) (va_Pc [.ref (ad 1), .int a1] (xR (dC, dI) xCl (xT dT) (cW dT ad u))) (va_Qi (fun r9 (_ : Unit) => r9 = out) (fun _ _ => True) xN) 0 0 xN := by
  refine xm_roi (cc := b_History_numberOf) (maxL := 2) (by decide) rfl (Nat.le_of_ble_eq_true rfl) ?_
  intro p e s m args below meth c Q ls hx hb hml hts hown hK hN hP hl hret
  have hT : ∀ w ∈ xG, w.before args s = true := fun w h => hts w (List.mem_cons_of_mem _ h)
  have hown : s.vm.findClass "EventGraphText$History" = some m.cls := hown
  have hl : lv_has ls 2 [(0, .ref (ad 1)), (1, .int a1)] := hl
  have hS : va_S xN s.heap s.heap [] := va_S.rf
  unfold m_History_numberOf at hm
  refine lv_aload_n hx hb d_History_numberOf_0 rfl (lv_at hl 0 rfl) ?_
  refine va_get (D := (dC, dI)) (ci := 1) (v := .ref (ad 3)) (C := "EventGraphText$History") (T := T_History) (N := 9) hx hb hT hin_History hown hK hP 1 cW_H rfl 1 (by decide) (hT _ wd_26) (fun _ h9 => h9) rfl d_History_numberOf_1 ?_
  refine lv_iload_n hx hb d_History_numberOf_4 rfl (lv_at hl 1 rfl) ?_
  obtain ⟨g1, hm⟩ := xg_some hm
  refine va_iald hx hb hK hP 3 0 cW_H_numbers rfl g1 d_History_numberOf_5 ?_
  exact hret hm hS d_History_numberOf_6
set_option maxHeartbeats 4000000 in
set_option maxRecDepth 100000 in
theorem c_Text_insert (l : Launch) (dC : Nat → ClassId) (dI : Nat → Nat → Nat) (dT : Nat → ClassId) (ad : Nat → Nat) (hD : ∀ u, va_D (xA ad 50) (cW dT ad u)) (a1 : Int32) (a2 : Int32) (a3 : Int32) (u : xS) (out : Int32) (u1 : xS) (hm : m_Text_insert a1 a2 a3 u = some (out, u1)) : Met l y_Text_insert (Cond.code y_Text_insert b_Text_insert 10 (some .int) :: xG) (xrm 5 131) (va_Pc [.ref (ad 0), .int a1, .int a2, .int a3] (xR (dC, dI) xCl (xT dT) (cW dT ad u))) (va_Qi (fun r9 (u9 : xS) => r9 = out ∧ u9 = u1) (fun u9 t => va_P (dC, dI) xCl (cW dT ad u9) t.heap) (xA ad 50)) 0 0 (xA ad 50) := by
  refine xm_rwi (Wd := cW dT ad) (cc := b_Text_insert) (maxL := 10) (by decide) rfl (Nat.le_of_ble_eq_true rfl) ?_
  intro p e s m args below meth c Q ls hx hb hml hts hown hK hN hP hl hret
  have hT : ∀ w ∈ xG, w.before args s = true := fun w h => hts w (List.mem_cons_of_mem _ h)
  have hown : s.vm.findClass "EventGraphText" = some m.cls := hown
  have hl : lv_has ls 10 [(0, .ref (ad 0)), (1, .int a1), (2, .int a2), (3, .int a3)] := hl
  have hS : va_S (xA ad 50) s.heap s.heap [] := va_S.rf
  have hb92 : ∀ (b1 : Int32) (b2 : Int32) (b3 : Int32) (b4 : Int64) (t0 : Int32) (u : xS) (H : Heap) (locs : List Loc) (ls : Array Slot), lv_has ls 10 [(0, .ref (ad 0)), (1, .int b1), (2, .int b2), (3, .int b3), (4, .long b4)] → va_P (dC, dI) xCl (cW dT ad u) H → va_S (xA ad 50) s.heap H locs → m_Text_insert_b92 b1 b2 b3 b4 t0 u = some (out, u1) → W p l e (xrm 5 131) s m args below meth c H locs 0 0 Q (F0 m 92 ls [.int t0]) := by
    intro b1 b2 b3 b4 t0 u H locs ls hl hP hS hm
    unfold m_Text_insert_b92 at hm
    refine lv_istore (lv' := [(8, .int t0), (0, .ref (ad 0)), (1, .int b1), (2, .int b2), (3, .int b3), (4, .long b4)]) hx hb d_Text_insert_92 hl (Nat.le_of_ble_eq_true rfl) rfl (fun ls hl => ?_)
    refine lv_aload_n hx hb d_Text_insert_94 rfl (lv_at hl 1 rfl) ?_
    refine va_get (D := (dC, dI)) (ci := 7) (v := .ref (ad 1)) (C := "EventGraphText") (T := T_Text) (N := 5) hx hb hT hin_Text hown hK hP 0 cW_E rfl 0 (by decide) (hT _ wd_184) (fun _ h9 => h9) rfl d_Text_insert_95 ?_
    refine lv_iload_n hx hb d_Text_insert_98 rfl (lv_at hl 2 rfl) ?_
    refine lv_iload_n hx hb d_Text_insert_99 rfl (lv_at hl 3 rfl) ?_
    refine lv_iload_n hx hb d_Text_insert_100 rfl (lv_at hl 4 rfl) ?_
    refine lv_lload hx hb d_Text_insert_101 (lv_at hl 5 rfl) ?_
    obtain ⟨r103, u103, h103, hm⟩ := xb2_some hm
    refine xc_iw (Wd := cW dT ad) (va_runV (C := "EventGraphText$History") (As := [.int b1, .int b2, .int b3, .long b4]) (rest := []) ⟨hx, hb, hml, hown, hts⟩ (c_History_record l dC dI dT ad hD b1 b2 b3 b4 u r103 u103 h103) (cwV 4 hts (xgV wd_233 wd_234 wd_235 wd_2 wd_236) rfl rfl rfl pd_History_record ⟨Nat.le_of_ble_eq_true rfl, Nat.le_of_ble_eq_true rfl⟩) (xpreV (C := "EventGraphText$History") (T := T_History) (N := 9) hP hK hN rfl cW_H) rfl rfl hl.1 rfl (lv_room (Nat.le_of_ble_eq_true rfl)) d_Text_insert_103 ⟨Nat.le_of_ble_eq_true rfl, Nat.le_of_ble_eq_true rfl⟩) hS (fun _ h => h) (fun H locs hP hS => ?_)
    refine lv_istore (lv' := [(9, .int r103), (8, .int t0), (0, .ref (ad 0)), (1, .int b1), (2, .int b2), (3, .int b3), (4, .long b4)]) hx hb d_Text_insert_106 hl (Nat.le_of_ble_eq_true rfl) rfl (fun ls hl => ?_)
    refine lv_aload_n hx hb d_Text_insert_108 rfl (lv_at hl 2 rfl) ?_
    refine va_get (D := (dC, dI)) (ci := 7) (v := .ref (ad 10)) (C := "EventGraphText") (T := T_Text) (N := 5) hx hb hT hin_Text hown hK hP 0 cW_E rfl 1 (by decide) (hT _ wd_185) (fun _ h9 => h9) rfl d_Text_insert_109 ?_
    refine lv_aload_n hx hb d_Text_insert_112 rfl (lv_at hl 2 rfl) ?_
    refine va_get (D := (dC, dI)) (ci := 7) (v := .ref (ad 1)) (C := "EventGraphText") (T := T_Text) (N := 5) hx hb hT hin_Text hown hK hP 0 cW_E rfl 0 (by decide) (hT _ wd_184) (fun _ h9 => h9) rfl d_Text_insert_113 ?_
    refine lv_iload hx hb d_Text_insert_116 (lv_at hl 0 rfl) ?_
    refine lv_iload hx hb d_Text_insert_118 (lv_at hl 1 rfl) ?_
    refine lv_lload hx hb d_Text_insert_120 (lv_at hl 6 rfl) ?_
    obtain ⟨u122, h122, hm⟩ := xb1_some hm
    refine xc_vw (Wd := cW dT ad) (va_runV (C := "EventGraphText$CharacterList") (As := [.ref (ad 1), .int r103, .int t0, .long b4]) (rest := []) ⟨hx, hb, hml, hown, hts⟩ (c_CharacterList_putBehind l dC dI dT ad hD r103 t0 b4 u103 u122 h122) (cwV 4 hts (xgV wd_247 wd_248 wd_249 wd_3 wd_250) rfl rfl rfl pd_CharacterList_putBehind ⟨Nat.le_of_ble_eq_true rfl, Nat.le_of_ble_eq_true rfl⟩) (xpreV (C := "EventGraphText$CharacterList") (T := T_CharacterList) (N := 8) hP hK hN rfl cW_L) rfl rfl hl.1 rfl (lv_room (Nat.le_of_ble_eq_true rfl)) d_Text_insert_122 ⟨Nat.le_of_ble_eq_true rfl, Nat.le_of_ble_eq_true rfl⟩) hS (fun _ h => h) (fun H locs hP hS => ?_)
    refine lv_aload_n hx hb d_Text_insert_125 rfl (lv_at hl 2 rfl) ?_
    refine va_get (D := (dC, dI)) (ci := 7) (v := .ref (ad 18)) (C := "EventGraphText") (T := T_Text) (N := 5) hx hb hT hin_Text hown hK hP 0 cW_E rfl 3 (by decide) (hT _ wd_187) (fun _ h9 => h9) rfl d_Text_insert_126 ?_
    refine lv_iload_n hx hb d_Text_insert_129 rfl (lv_at hl 3 rfl) ?_
    obtain ⟨g2, hm⟩ := xg_some hm
    refine va_aldq hx hb hK hP 18 3 rfl rfl g2 d_Text_insert_130 ?_
    refine W.eq (g2 := F0 m 131 ls [.ref (ad (19 + 4 * (b1.toNatClampNeg)))]) rfl ?_
    refine lv_lload hx hb d_Text_insert_131 (lv_at hl 6 rfl) ?_
    refine lv_iload hx hb d_Text_insert_133 (lv_at hl 0 rfl) ?_
    obtain ⟨r135, h135, hm⟩ := xb1_some hm
    refine xc_l (va_runS (As := [.int r103]) (rest := [.long b4, .ref (ad (19 + 4 * (b1.toNatClampNeg)))]) ⟨hx, hb, hml, hown, hts⟩ (c_Text_bit l r103 r135 h135) (va_cwS 1 hts (xgS wd_218 wd_219 wd_1 wd_220) rfl rfl rfl pd_Text_bit.2 ⟨Nat.le_of_ble_eq_true rfl, Nat.le_of_ble_eq_true rfl⟩) xpreS0 rfl rfl hl.1 rfl (lv_room (Nat.le_of_ble_eq_true rfl)) d_Text_insert_135 ⟨Nat.le_of_ble_eq_true rfl, Nat.le_of_ble_eq_true rfl⟩) hP hS (fun H locs hP hS => ?_)
    refine lv_lor hx hb d_Text_insert_138 ?_
    obtain ⟨w139, hw139, hm⟩ := xlt_some hm
    refine va_putN (D := (dC, dI)) (ci := 6) (v := .long (b4 ||| r135)) (ty := .long) (C := "EventGraphText$Site") (T := T_Site) (N := 3) hx hb hT hin_Site ty_Site tyok_Site nm_Site hown hK hP (hD _) hS (19 + 4 * (b1.toNatClampNeg)) (cW_S (xin_lt g2)) rfl 2 (by decide) (va_Nw.use rfl (nf_6 hN)) (fun _ h9 => h9) rfl (by decide +kernel) rfl rfl (Nat.le_of_ble_eq_true rfl) d_Text_insert_139 (fun H locs hP _ hS => ?_)
    replace hP : va_P (dC, dI) xCl (cW dT ad w139) H := xp_conv ((cW_f_S_graph (xin_lt g2)).trans (congrArg (cW dT ad) hw139.symm)) hP
    refine lv_aload_n hx hb d_Text_insert_142 rfl (lv_at hl 2 rfl) ?_
    refine va_get (D := (dC, dI)) (ci := 7) (v := .ref (ad 1)) (C := "EventGraphText") (T := T_Text) (N := 5) hx hb hT hin_Text hown hK hP 0 cW_E rfl 0 (by decide) (hT _ wd_184) (fun _ h9 => h9) rfl d_Text_insert_143 ?_
    refine lv_iload hx hb d_Text_insert_146 (lv_at hl 0 rfl) ?_
    obtain ⟨r148, h148, hm⟩ := xb1_some hm
    refine xc_i (va_runV (C := "EventGraphText$History") (As := [.int r103]) (rest := []) ⟨hx, hb, hml, hown, hts⟩ (c_History_numberOf l dC dI dT ad r103 w139 r148 h148) (cwV 1 hts (xgV wd_275 wd_276 wd_277 wd_2 wd_278) rfl rfl rfl pd_History_numberOf ⟨Nat.le_of_ble_eq_true rfl, Nat.le_of_ble_eq_true rfl⟩) (xpreV (C := "EventGraphText$History") (T := T_History) (N := 9) hP hK hN rfl cW_H) rfl rfl hl.1 rfl (lv_room (Nat.le_of_ble_eq_true rfl)) d_Text_insert_148 ⟨Nat.le_of_ble_eq_true rfl, Nat.le_of_ble_eq_true rfl⟩) hP hS (fun H locs hP hS => ?_)
    exact hret hm hP hS d_Text_insert_151
  unfold m_Text_insert at hm
  refine lv_iload_n hx hb d_Text_insert_0 rfl (lv_at hl 1 rfl) ?_
  obtain ⟨r1, h1, hm⟩ := xb1_some hm
  refine xc_i (va_runS (As := [.int a1]) (rest := []) ⟨hx, hb, hml, hown, hts⟩ (c_Text_isSite l a1 r1 h1) (va_cwS 1 hts (xgS wd_204 wd_205 wd_1 wd_206) rfl rfl rfl pd_Text_isSite.2 ⟨Nat.le_of_ble_eq_true rfl, Nat.le_of_ble_eq_true rfl⟩) xpreS0 rfl rfl hl.1 rfl (lv_room (Nat.le_of_ble_eq_true rfl)) d_Text_insert_1 ⟨Nat.le_of_ble_eq_true rfl, Nat.le_of_ble_eq_true rfl⟩) hP hS (fun H locs hP hS => ?_)
  refine lv_if_eq (tgt := 29) hx hb d_Text_insert_4 rfl (fun h => ?_) (fun h => ?_)
  · replace hm := xi_pos h hm
    refine lv_sipush (v := (-1000 : Int32)) hx hb d_Text_insert_29 (by decide) ?_
    exact hret hm hP hS d_Text_insert_32
  · replace hm := xi_neg h hm
    refine lv_iload_n hx hb d_Text_insert_7 rfl (lv_at hl 3 rfl) ?_
    refine lv_bipush (v := (32 : Int32)) hx hb d_Text_insert_8 (by decide) ?_
    refine lv_icmp_lt (tgt := 29) hx hb d_Text_insert_10 rfl (fun h => ?_) (fun h => ?_)
    · replace hm := xi_pos h hm
      refine lv_sipush (v := (-1000 : Int32)) hx hb d_Text_insert_29 (by decide) ?_
      exact hret hm hP hS d_Text_insert_32
    · replace hm := xi_neg h hm
      refine lv_iload_n hx hb d_Text_insert_13 rfl (lv_at hl 3 rfl) ?_
      refine lv_bipush (v := (126 : Int32)) hx hb d_Text_insert_14 (by decide) ?_
      refine lv_icmp_gt (tgt := 29) hx hb d_Text_insert_16 rfl (fun h => ?_) (fun h => ?_)
      · replace hm := xi_pos h hm
        refine lv_sipush (v := (-1000 : Int32)) hx hb d_Text_insert_29 (by decide) ?_
        exact hret hm hP hS d_Text_insert_32
      · replace hm := xi_neg h hm
        refine lv_aload_n hx hb d_Text_insert_19 rfl (lv_at hl 0 rfl) ?_
        refine va_get (D := (dC, dI)) (ci := 7) (v := .ref (ad 1)) (C := "EventGraphText") (T := T_Text) (N := 5) hx hb hT hin_Text hown hK hP 0 cW_E rfl 0 (by decide) (hT _ wd_184) (fun _ h9 => h9) rfl d_Text_insert_20 ?_
        obtain ⟨r23, h23, hm⟩ := xb1_some hm
        refine xc_i (va_runV (C := "EventGraphText$History") (As := []) (rest := []) ⟨hx, hb, hml, hown, hts⟩ (c_History_isFull l dC dI dT ad u r23 h23) (cwV 0 hts (xgV wd_207 wd_208 wd_209 wd_2 wd_210) rfl rfl rfl pd_History_isFull ⟨Nat.le_of_ble_eq_true rfl, Nat.le_of_ble_eq_true rfl⟩) (xpreV (C := "EventGraphText$History") (T := T_History) (N := 9) hP hK hN rfl cW_H) rfl rfl hl.1 rfl (lv_room (Nat.le_of_ble_eq_true rfl)) d_Text_insert_23 ⟨Nat.le_of_ble_eq_true rfl, Nat.le_of_ble_eq_true rfl⟩) hP hS (fun H locs hP hS => ?_)
        refine lv_if_eq (tgt := 33) hx hb d_Text_insert_26 rfl (fun h => ?_) (fun h => ?_)
        · replace hm := xi_pos h hm
          refine lv_aload_n hx hb d_Text_insert_33 rfl (lv_at hl 0 rfl) ?_
          refine va_get (D := (dC, dI)) (ci := 7) (v := .ref (ad 18)) (C := "EventGraphText") (T := T_Text) (N := 5) hx hb hT hin_Text hown hK hP 0 cW_E rfl 3 (by decide) (hT _ wd_187) (fun _ h9 => h9) rfl d_Text_insert_34 ?_
          refine lv_iload_n hx hb d_Text_insert_37 rfl (lv_at hl 1 rfl) ?_
          obtain ⟨g1, hm⟩ := xg_some hm
          refine va_aldq hx hb hK hP 18 3 rfl rfl g1 d_Text_insert_38 ?_
          refine W.eq (g2 := F0 m 39 ls [.ref (ad (19 + 4 * (a1.toNatClampNeg)))]) rfl ?_
          refine va_getN (D := (dC, dI)) (ci := 6) (v := .long (xs_l u (2 + (a1.toNatClampNeg)))) (C := "EventGraphText$Site") (T := T_Site) (N := 3) hx hb hT hin_Site hown hK hP (19 + 4 * (a1.toNatClampNeg)) (cW_S (xin_lt g1)) rfl 2 (by decide) (va_Nw.use rfl (nf_6 hN)) (fun _ h9 => h9) rfl d_Text_insert_39 ?_
          refine lv_lstore (lv' := [(4, .long (xs_l u (2 + (a1.toNatClampNeg)))), (0, .ref (ad 0)), (1, .int a1), (2, .int a2), (3, .int a3)]) hx hb d_Text_insert_42 hl (Nat.le_of_ble_eq_true rfl) rfl (fun ls hl => ?_)
          refine lv_aload_n hx hb d_Text_insert_44 rfl (lv_at hl 1 rfl) ?_
          refine va_get (D := (dC, dI)) (ci := 7) (v := .ref (ad 10)) (C := "EventGraphText") (T := T_Text) (N := 5) hx hb hT hin_Text hown hK hP 0 cW_E rfl 1 (by decide) (hT _ wd_185) (fun _ h9 => h9) rfl d_Text_insert_45 ?_
          refine lv_lload hx hb d_Text_insert_48 (lv_at hl 0 rfl) ?_
          obtain ⟨r50, h50, hm⟩ := xb1_some hm
          refine xc_l (va_runV (C := "EventGraphText$CharacterList") (As := [.long (xs_l u (2 + (a1.toNatClampNeg)))]) (rest := []) ⟨hx, hb, hml, hown, hts⟩ (c_CharacterList_shownIn l dC dI dT ad (xs_l u (2 + (a1.toNatClampNeg))) u r50 h50) (cwV 1 hts (xgV wd_211 wd_212 wd_213 wd_3 wd_214) rfl rfl rfl pd_CharacterList_shownIn ⟨Nat.le_of_ble_eq_true rfl, Nat.le_of_ble_eq_true rfl⟩) (xpreV (C := "EventGraphText$CharacterList") (T := T_CharacterList) (N := 8) hP hK hN rfl cW_L) rfl rfl hl.1 rfl (lv_room (Nat.le_of_ble_eq_true rfl)) d_Text_insert_50 ⟨Nat.le_of_ble_eq_true rfl, Nat.le_of_ble_eq_true rfl⟩) hP hS (fun H locs hP hS => ?_)
          refine lv_lstore (lv' := [(6, .long r50), (4, .long (xs_l u (2 + (a1.toNatClampNeg)))), (0, .ref (ad 0)), (1, .int a1), (2, .int a2), (3, .int a3)]) hx hb d_Text_insert_53 hl (Nat.le_of_ble_eq_true rfl) rfl (fun ls hl => ?_)
          refine lv_iload_n hx hb d_Text_insert_55 rfl (lv_at hl 4 rfl) ?_
          refine lv_if_lt (tgt := 68) hx hb d_Text_insert_56 rfl (fun h => ?_) (fun h => ?_)
          · replace hm := xi_pos h hm
            refine lv_sipush (v := (-1000 : Int32)) hx hb d_Text_insert_68 (by decide) ?_
            exact hret hm hP hS d_Text_insert_71
          · replace hm := xi_neg h hm
            refine lv_iload_n hx hb d_Text_insert_59 rfl (lv_at hl 4 rfl) ?_
            refine lv_lload hx hb d_Text_insert_60 (lv_at hl 0 rfl) ?_
            obtain ⟨r62, h62, hm⟩ := xb1_some hm
            refine xc_i (va_runS (As := [.long r50]) (rest := [.int a2]) ⟨hx, hb, hml, hown, hts⟩ (c_Long_bitCount l r50 r62 h62) (va_cwS 1 hts (xgS wd_223 wd_224 wd_10 wd_225) rfl rfl rfl pd_Long_bitCount.2 ⟨Nat.le_of_ble_eq_true rfl, Nat.le_of_ble_eq_true rfl⟩) xpreS0 rfl rfl hl.1 rfl (lv_room (Nat.le_of_ble_eq_true rfl)) d_Text_insert_62 ⟨Nat.le_of_ble_eq_true rfl, Nat.le_of_ble_eq_true rfl⟩) hP hS (fun H locs hP hS => ?_)
            refine lv_icmp_le (tgt := 72) hx hb d_Text_insert_65 rfl (fun h => ?_) (fun h => ?_)
            · replace hm := xi_pos h hm
              refine lv_iload_n hx hb d_Text_insert_72 rfl (lv_at hl 4 rfl) ?_
              refine lv_if_ne (tgt := 80) hx hb d_Text_insert_73 rfl (fun h => ?_) (fun h => ?_)
              · replace hm := xi_neg h hm
                refine lv_aload_n hx hb d_Text_insert_80 rfl (lv_at hl 2 rfl) ?_
                refine va_get (D := (dC, dI)) (ci := 7) (v := .ref (ad 10)) (C := "EventGraphText") (T := T_Text) (N := 5) hx hb hT hin_Text hown hK hP 0 cW_E rfl 1 (by decide) (hT _ wd_185) (fun _ h9 => h9) rfl d_Text_insert_81 ?_
                refine lv_lload hx hb d_Text_insert_84 (lv_at hl 0 rfl) ?_
                refine lv_iload_n hx hb d_Text_insert_86 rfl (lv_at hl 4 rfl) ?_
                refine lv_iconst (v := (1 : Int32)) hx hb d_Text_insert_87 (by decide) ?_
                refine lv_isub hx hb d_Text_insert_88 ?_
                obtain ⟨r89, h89, hm⟩ := xb1_some hm
                refine xc_i (va_runV (C := "EventGraphText$CharacterList") (As := [.long r50, .int (a2 - (1 : Int32))]) (rest := []) ⟨hx, hb, hml, hown, hts⟩ (c_CharacterList_shownAt l dC dI dT ad r50 (a2 - (1 : Int32)) u r89 h89) (cwV 2 hts (xgV wd_229 wd_230 wd_231 wd_3 wd_232) rfl rfl rfl pd_CharacterList_shownAt ⟨Nat.le_of_ble_eq_true rfl, Nat.le_of_ble_eq_true rfl⟩) (xpreV (C := "EventGraphText$CharacterList") (T := T_CharacterList) (N := 8) hP hK hN rfl cW_L) rfl rfl hl.1 rfl (lv_room (Nat.le_of_ble_eq_true rfl)) d_Text_insert_89 ⟨Nat.le_of_ble_eq_true rfl, Nat.le_of_ble_eq_true rfl⟩) hP hS (fun H locs hP hS => ?_)
                exact hb92 a1 a2 a3 (xs_l u (2 + (a1.toNatClampNeg))) r89 u _ _ _ (lv_sub hl [2, 3, 4, 5, 1] rfl) hP hS hm
              · replace hm := xi_pos h hm
                refine lv_iconst (v := (-1 : Int32)) hx hb d_Text_insert_76 (by decide) ?_
                refine lv_goto (tgt := 92) hx hb d_Text_insert_77 rfl ?_
                exact hb92 a1 a2 a3 (xs_l u (2 + (a1.toNatClampNeg))) (-1 : Int32) u _ _ _ (lv_sub hl [2, 3, 4, 5, 1] rfl) hP hS hm
            · replace hm := xi_neg h hm
              refine lv_sipush (v := (-1000 : Int32)) hx hb d_Text_insert_68 (by decide) ?_
              exact hret hm hP hS d_Text_insert_71
        · replace hm := xi_neg h hm
          refine lv_sipush (v := (-1000 : Int32)) hx hb d_Text_insert_29 (by decide) ?_
          exact hret hm hP hS d_Text_insert_32
set_option maxHeartbeats 4000000 in
set_option maxRecDepth 100000 in
theorem c_CharacterList_hide (l : Launch) (dC : Nat → ClassId) (dI : Nat → Nat → Nat) (dT : Nat → ClassId) (ad : Nat → Nat) (hD : ∀ u, va_D (xA ad 50) (cW dT ad u)) (a1 : Int32) (a2 : Int32) (u : xS) (u1 : xS) (hm : m_CharacterList_hide a1 a2 u = some u1) : Met l y_CharacterList_hide (Cond.code y_CharacterList_hide b_CharacterList_hide 3 none :: xG) (xrm 1 20) (va_Pc [.ref (ad 10), .int a1, .int a2] (xR (dC, dI) xCl (xT dT) (cW dT ad u))) (va_Qv (fun (u9 : xS) => u9 = u1) (fun u9 t => va_P (dC, dI) xCl (cW dT ad u9) t.heap) (xA ad 50)) 0 0 (xA ad 50) := by
  refine xm_rwv (Wd := cW dT ad) (cc := b_CharacterList_hide) (maxL := 3) (by decide) rfl (Nat.le_of_ble_eq_true rfl) ?_
  intro p e s m args below meth c Q ls hx hb hml hts hown hK hN hP hl hret
  have hT : ∀ w ∈ xG, w.before args s = true := fun w h => hts w (List.mem_cons_of_mem _ h)
  have hown : s.vm.findClass "EventGraphText$CharacterList" = some m.cls := hown
  have hl : lv_has ls 3 [(0, .ref (ad 10)), (1, .int a1), (2, .int a2)] := hl
  have hS : va_S (xA ad 50) s.heap s.heap [] := va_S.rf
  unfold m_CharacterList_hide at hm
  refine lv_aload_n hx hb d_CharacterList_hide_0 rfl (lv_at hl 0 rfl) ?_
  refine va_get (D := (dC, dI)) (ci := 0) (v := .ref (ad 15)) (C := "EventGraphText$CharacterList") (T := T_CharacterList) (N := 8) hx hb hT hin_CharacterList hown hK hP 10 cW_L rfl 4 (by decide) (hT _ wd_65) (fun _ h9 => h9) rfl d_CharacterList_hide_1 ?_
  refine lv_iload_n hx hb d_CharacterList_hide_4 rfl (lv_at hl 1 rfl) ?_
  refine lv_iload_n hx hb d_CharacterList_hide_5 rfl (lv_at hl 2 rfl) ?_
  obtain ⟨g1, hm⟩ := xg_some hm
  obtain ⟨w6, hw6, hm⟩ := xlt_some hm
  refine va_iast hx hb hK hP (hD _) hS 15 0 cW_L_taken rfl g1 d_CharacterList_hide_6 (fun H locs hP _ hS => ?_)
  replace hP : va_P (dC, dI) xCl (cW dT ad w6) H := xp_conv ((cW_s_L_taken).trans (congrArg (cW dT ad) hw6.symm)) hP
  refine lv_aload_n hx hb d_CharacterList_hide_7 rfl (lv_at hl 0 rfl) ?_
  refine lv_dup hx hb d_CharacterList_hide_8 rfl ?_
  refine va_get (D := (dC, dI)) (ci := 0) (v := .long (xs_l w6 0)) (C := "EventGraphText$CharacterList") (T := T_CharacterList) (N := 8) hx hb hT hin_CharacterList hown hK hP 10 cW_L rfl 5 (by decide) (hT _ wd_66) (fun _ h9 => h9) rfl d_CharacterList_hide_9 ?_
  refine lv_iload_n hx hb d_CharacterList_hide_12 rfl (lv_at hl 1 rfl) ?_
  obtain ⟨r13, h13, hm⟩ := xb1_some hm
  refine xc_l (va_runSN (As := [.int a1]) (rest := [.long (xs_l w6 0), .ref (ad 10)]) ⟨hx, hb, hml, hown, hts⟩ (c_Text_bit l a1 r13 h13) ⟨va_cnB 1 hts (xg0 wd_220) rfl rfl rfl (nmm_8 hN) (hT _ wd_1) pd_Text_bit.2 ⟨Nat.le_of_ble_eq_true rfl, Nat.le_of_ble_eq_true rfl⟩, hT _ wd_219, trivial⟩ xpreS0 rfl rfl hl.1 rfl (lv_room (Nat.le_of_ble_eq_true rfl)) d_CharacterList_hide_13 ⟨Nat.le_of_ble_eq_true rfl, Nat.le_of_ble_eq_true rfl⟩) hP hS (fun H locs hP hS => ?_)
  refine lv_lor hx hb d_CharacterList_hide_16 ?_
  obtain ⟨w17, hw17, hm⟩ := xlt_some hm
  refine va_put (D := (dC, dI)) (ci := 0) (v := .long ((xs_l w6 0) ||| r13)) (ty := .long) (C := "EventGraphText$CharacterList") (T := T_CharacterList) (N := 8) hx hb hT hin_CharacterList ty_CharacterList tyok_CharacterList nm_CharacterList hown hK hP (hD _) hS 10 cW_L rfl 5 (by decide) (hT _ wd_66) (fun _ h9 => h9) rfl (by decide +kernel) rfl rfl (Nat.le_of_ble_eq_true rfl) d_CharacterList_hide_17 (fun H locs hP _ hS => ?_)
  replace hP : va_P (dC, dI) xCl (cW dT ad w17) H := xp_conv ((cW_f_L_deletes).trans (congrArg (cW dT ad) hw17.symm)) hP
  exact hret hm hP hS d_CharacterList_hide_20
set_option maxHeartbeats 4000000 in
set_option maxRecDepth 100000 in
theorem c_Text_delete (l : Launch) (dC : Nat → ClassId) (dI : Nat → Nat → Nat) (dT : Nat → ClassId) (ad : Nat → Nat) (hD : ∀ u, va_D (xA ad 50) (cW dT ad u)) (a1 : Int32) (a2 : Int32) (u : xS) (out : Int32) (u1 : xS) (hm : m_Text_delete a1 a2 u = some (out, u1)) : Met l y_Text_delete (Cond.code y_Text_delete b_Text_delete 7 (some .int) :: xG) (xrm 5 115) (va_Pc [.ref (ad 0), .int a1, .int a2] (xR (dC, dI) xCl (xT dT) (cW dT ad u))) (va_Qi (fun r9 (u9 : xS) => r9 = out ∧ u9 = u1) (fun u9 t => va_P (dC, dI) xCl (cW dT ad u9) t.heap) (xA ad 50)) 0 0 (xA ad 50) := by
  refine xm_rwi (Wd := cW dT ad) (cc := b_Text_delete) (maxL := 7) (by decide) rfl (Nat.le_of_ble_eq_true rfl) ?_
  intro p e s m args below meth c Q ls hx hb hml hts hown hK hN hP hl hret
  have hT : ∀ w ∈ xG, w.before args s = true := fun w h => hts w (List.mem_cons_of_mem _ h)
  have hown : s.vm.findClass "EventGraphText" = some m.cls := hown
  have hl : lv_has ls 7 [(0, .ref (ad 0)), (1, .int a1), (2, .int a2)] := hl
  have hS : va_S (xA ad 50) s.heap s.heap [] := va_S.rf
  unfold m_Text_delete at hm
  refine lv_iload_n hx hb d_Text_delete_0 rfl (lv_at hl 1 rfl) ?_
  obtain ⟨r1, h1, hm⟩ := xb1_some hm
  refine xc_i (va_runS (As := [.int a1]) (rest := []) ⟨hx, hb, hml, hown, hts⟩ (c_Text_isSite l a1 r1 h1) (va_cwS 1 hts (xgS wd_204 wd_205 wd_1 wd_206) rfl rfl rfl pd_Text_isSite.2 ⟨Nat.le_of_ble_eq_true rfl, Nat.le_of_ble_eq_true rfl⟩) xpreS0 rfl rfl hl.1 rfl (lv_room (Nat.le_of_ble_eq_true rfl)) d_Text_delete_1 ⟨Nat.le_of_ble_eq_true rfl, Nat.le_of_ble_eq_true rfl⟩) hP hS (fun H locs hP hS => ?_)
  refine lv_if_eq (tgt := 17) hx hb d_Text_delete_4 rfl (fun h => ?_) (fun h => ?_)
  · replace hm := xi_pos h hm
    refine lv_sipush (v := (-1000 : Int32)) hx hb d_Text_delete_17 (by decide) ?_
    exact hret hm hP hS d_Text_delete_20
  · replace hm := xi_neg h hm
    refine lv_aload_n hx hb d_Text_delete_7 rfl (lv_at hl 0 rfl) ?_
    refine va_get (D := (dC, dI)) (ci := 7) (v := .ref (ad 1)) (C := "EventGraphText") (T := T_Text) (N := 5) hx hb hT hin_Text hown hK hP 0 cW_E rfl 0 (by decide) (hT _ wd_184) (fun _ h9 => h9) rfl d_Text_delete_8 ?_
    obtain ⟨r11, h11, hm⟩ := xb1_some hm
    refine xc_i (va_runV (C := "EventGraphText$History") (As := []) (rest := []) ⟨hx, hb, hml, hown, hts⟩ (c_History_isFull l dC dI dT ad u r11 h11) (cwV 0 hts (xgV wd_207 wd_208 wd_209 wd_2 wd_210) rfl rfl rfl pd_History_isFull ⟨Nat.le_of_ble_eq_true rfl, Nat.le_of_ble_eq_true rfl⟩) (xpreV (C := "EventGraphText$History") (T := T_History) (N := 9) hP hK hN rfl cW_H) rfl rfl hl.1 rfl (lv_room (Nat.le_of_ble_eq_true rfl)) d_Text_delete_11 ⟨Nat.le_of_ble_eq_true rfl, Nat.le_of_ble_eq_true rfl⟩) hP hS (fun H locs hP hS => ?_)
    refine lv_if_eq (tgt := 21) hx hb d_Text_delete_14 rfl (fun h => ?_) (fun h => ?_)
    · replace hm := xi_pos h hm
      refine lv_aload_n hx hb d_Text_delete_21 rfl (lv_at hl 0 rfl) ?_
      refine va_get (D := (dC, dI)) (ci := 7) (v := .ref (ad 18)) (C := "EventGraphText") (T := T_Text) (N := 5) hx hb hT hin_Text hown hK hP 0 cW_E rfl 3 (by decide) (hT _ wd_187) (fun _ h9 => h9) rfl d_Text_delete_22 ?_
      refine lv_iload_n hx hb d_Text_delete_25 rfl (lv_at hl 1 rfl) ?_
      obtain ⟨g1, hm⟩ := xg_some hm
      refine va_aldq hx hb hK hP 18 3 rfl rfl g1 d_Text_delete_26 ?_
      refine W.eq (g2 := F0 m 27 ls [.ref (ad (19 + 4 * (a1.toNatClampNeg)))]) rfl ?_
      refine va_getN (D := (dC, dI)) (ci := 6) (v := .long (xs_l u (2 + (a1.toNatClampNeg)))) (C := "EventGraphText$Site") (T := T_Site) (N := 3) hx hb hT hin_Site hown hK hP (19 + 4 * (a1.toNatClampNeg)) (cW_S (xin_lt g1)) rfl 2 (by decide) (va_Nw.use rfl (nf_6 hN)) (fun _ h9 => h9) rfl d_Text_delete_27 ?_
      refine lv_lstore_n (lv' := [(3, .long (xs_l u (2 + (a1.toNatClampNeg)))), (0, .ref (ad 0)), (1, .int a1), (2, .int a2)]) hx hb d_Text_delete_30 rfl hl (Nat.le_of_ble_eq_true rfl) rfl (fun ls hl => ?_)
      refine lv_aload_n hx hb d_Text_delete_31 rfl (lv_at hl 1 rfl) ?_
      refine va_get (D := (dC, dI)) (ci := 7) (v := .ref (ad 10)) (C := "EventGraphText") (T := T_Text) (N := 5) hx hb hT hin_Text hown hK hP 0 cW_E rfl 1 (by decide) (hT _ wd_185) (fun _ h9 => h9) rfl d_Text_delete_32 ?_
      refine lv_aload_n hx hb d_Text_delete_35 rfl (lv_at hl 1 rfl) ?_
      refine va_get (D := (dC, dI)) (ci := 7) (v := .ref (ad 10)) (C := "EventGraphText") (T := T_Text) (N := 5) hx hb hT hin_Text hown hK hP 0 cW_E rfl 1 (by decide) (hT _ wd_185) (fun _ h9 => h9) rfl d_Text_delete_36 ?_
      refine lv_lload_n hx hb d_Text_delete_39 rfl (lv_at hl 0 rfl) ?_
      obtain ⟨r40, h40, hm⟩ := xb1_some hm
      refine xc_l (va_runV (C := "EventGraphText$CharacterList") (As := [.long (xs_l u (2 + (a1.toNatClampNeg)))]) (rest := [.ref (ad 10)]) ⟨hx, hb, hml, hown, hts⟩ (c_CharacterList_shownIn l dC dI dT ad (xs_l u (2 + (a1.toNatClampNeg))) u r40 h40) (cwV 1 hts (xgV wd_211 wd_212 wd_213 wd_3 wd_214) rfl rfl rfl pd_CharacterList_shownIn ⟨Nat.le_of_ble_eq_true rfl, Nat.le_of_ble_eq_true rfl⟩) (xpreV (C := "EventGraphText$CharacterList") (T := T_CharacterList) (N := 8) hP hK hN rfl cW_L) rfl rfl hl.1 rfl (lv_room (Nat.le_of_ble_eq_true rfl)) d_Text_delete_40 ⟨Nat.le_of_ble_eq_true rfl, Nat.le_of_ble_eq_true rfl⟩) hP hS (fun H locs hP hS => ?_)
      refine lv_iload_n hx hb d_Text_delete_43 rfl (lv_at hl 3 rfl) ?_
      obtain ⟨r44, h44, hm⟩ := xb1_some hm
      refine xc_i (va_runV (C := "EventGraphText$CharacterList") (As := [.long r40, .int a2]) (rest := []) ⟨hx, hb, hml, hown, hts⟩ (c_CharacterList_shownAt l dC dI dT ad r40 a2 u r44 h44) (cwV 2 hts (xgV wd_229 wd_230 wd_231 wd_3 wd_232) rfl rfl rfl pd_CharacterList_shownAt ⟨Nat.le_of_ble_eq_true rfl, Nat.le_of_ble_eq_true rfl⟩) (xpreV (C := "EventGraphText$CharacterList") (T := T_CharacterList) (N := 8) hP hK hN rfl cW_L) rfl rfl hl.1 rfl (lv_room (Nat.le_of_ble_eq_true rfl)) d_Text_delete_44 ⟨Nat.le_of_ble_eq_true rfl, Nat.le_of_ble_eq_true rfl⟩) hP hS (fun H locs hP hS => ?_)
      refine lv_istore (lv' := [(5, .int r44), (3, .long (xs_l u (2 + (a1.toNatClampNeg)))), (0, .ref (ad 0)), (1, .int a1), (2, .int a2)]) hx hb d_Text_delete_47 hl (Nat.le_of_ble_eq_true rfl) rfl (fun ls hl => ?_)
      refine lv_iload hx hb d_Text_delete_49 (lv_at hl 0 rfl) ?_
      refine lv_iconst (v := (-1 : Int32)) hx hb d_Text_delete_51 (by decide) ?_
      refine lv_icmp_ne (tgt := 59) hx hb d_Text_delete_52 rfl (fun h => ?_) (fun h => ?_)
      · replace hm := xi_neg h hm
        refine lv_aload_n hx hb d_Text_delete_59 rfl (lv_at hl 2 rfl) ?_
        refine va_get (D := (dC, dI)) (ci := 7) (v := .ref (ad 1)) (C := "EventGraphText") (T := T_Text) (N := 5) hx hb hT hin_Text hown hK hP 0 cW_E rfl 0 (by decide) (hT _ wd_184) (fun _ h9 => h9) rfl d_Text_delete_60 ?_
        refine lv_iload_n hx hb d_Text_delete_63 rfl (lv_at hl 3 rfl) ?_
        refine lv_iload_n hx hb d_Text_delete_64 rfl (lv_at hl 4 rfl) ?_
        refine lv_iconst (v := (-1 : Int32)) hx hb d_Text_delete_65 (by decide) ?_
        refine lv_lload_n hx hb d_Text_delete_66 rfl (lv_at hl 1 rfl) ?_
        obtain ⟨r67, u67, h67, hm⟩ := xb2_some hm
        refine xc_iw (Wd := cW dT ad) (va_runV (C := "EventGraphText$History") (As := [.int a1, .int a2, .int (-1 : Int32), .long (xs_l u (2 + (a1.toNatClampNeg)))]) (rest := []) ⟨hx, hb, hml, hown, hts⟩ (c_History_record l dC dI dT ad hD a1 a2 (-1 : Int32) (xs_l u (2 + (a1.toNatClampNeg))) u r67 u67 h67) (cwV 4 hts (xgV wd_233 wd_234 wd_235 wd_2 wd_236) rfl rfl rfl pd_History_record ⟨Nat.le_of_ble_eq_true rfl, Nat.le_of_ble_eq_true rfl⟩) (xpreV (C := "EventGraphText$History") (T := T_History) (N := 9) hP hK hN rfl cW_H) rfl rfl hl.1 rfl (lv_room (Nat.le_of_ble_eq_true rfl)) d_Text_delete_67 ⟨Nat.le_of_ble_eq_true rfl, Nat.le_of_ble_eq_true rfl⟩) hS (fun _ h => h) (fun H locs hP hS => ?_)
        refine lv_istore (lv' := [(6, .int r67), (5, .int r44), (3, .long (xs_l u (2 + (a1.toNatClampNeg)))), (0, .ref (ad 0)), (1, .int a1), (2, .int a2)]) hx hb d_Text_delete_70 hl (Nat.le_of_ble_eq_true rfl) rfl (fun ls hl => ?_)
        refine lv_aload_n hx hb d_Text_delete_72 rfl (lv_at hl 3 rfl) ?_
        refine va_get (D := (dC, dI)) (ci := 7) (v := .ref (ad 10)) (C := "EventGraphText") (T := T_Text) (N := 5) hx hb hT hin_Text hown hK hP 0 cW_E rfl 1 (by decide) (hT _ wd_185) (fun _ h9 => h9) rfl d_Text_delete_73 ?_
        refine lv_iload hx hb d_Text_delete_76 (lv_at hl 0 rfl) ?_
        refine lv_iload hx hb d_Text_delete_78 (lv_at hl 1 rfl) ?_
        obtain ⟨u80, h80, hm⟩ := xb1_some hm
        refine xc_vw (Wd := cW dT ad) (va_runV (C := "EventGraphText$CharacterList") (As := [.int r67, .int r44]) (rest := []) ⟨hx, hb, hml, hown, hts⟩ (c_CharacterList_hide l dC dI dT ad hD r67 r44 u67 u80 h80) (cwV 2 hts (xgV wd_283 wd_284 wd_285 wd_3 wd_286) rfl rfl rfl pd_CharacterList_hide ⟨Nat.le_of_ble_eq_true rfl, Nat.le_of_ble_eq_true rfl⟩) (xpreV (C := "EventGraphText$CharacterList") (T := T_CharacterList) (N := 8) hP hK hN rfl cW_L) rfl rfl hl.1 rfl (lv_room (Nat.le_of_ble_eq_true rfl)) d_Text_delete_80 ⟨Nat.le_of_ble_eq_true rfl, Nat.le_of_ble_eq_true rfl⟩) hS (fun _ h => h) (fun H locs hP hS => ?_)
        refine lv_aload_n hx hb d_Text_delete_83 rfl (lv_at hl 3 rfl) ?_
        refine va_get (D := (dC, dI)) (ci := 7) (v := .ref (ad 18)) (C := "EventGraphText") (T := T_Text) (N := 5) hx hb hT hin_Text hown hK hP 0 cW_E rfl 3 (by decide) (hT _ wd_187) (fun _ h9 => h9) rfl d_Text_delete_84 ?_
        refine lv_iload_n hx hb d_Text_delete_87 rfl (lv_at hl 4 rfl) ?_
        refine va_aldq hx hb hK hP 18 3 rfl rfl g1 d_Text_delete_88 ?_
        refine W.eq (g2 := F0 m 89 ls [.ref (ad (19 + 4 * (a1.toNatClampNeg)))]) rfl ?_
        refine lv_lload_n hx hb d_Text_delete_89 rfl (lv_at hl 2 rfl) ?_
        refine lv_iload hx hb d_Text_delete_90 (lv_at hl 0 rfl) ?_
        obtain ⟨r92, h92, hm⟩ := xb1_some hm
        refine xc_l (va_runS (As := [.int r67]) (rest := [.long (xs_l u (2 + (a1.toNatClampNeg))), .ref (ad (19 + 4 * (a1.toNatClampNeg)))]) ⟨hx, hb, hml, hown, hts⟩ (c_Text_bit l r67 r92 h92) (va_cwS 1 hts (xgS wd_218 wd_219 wd_1 wd_220) rfl rfl rfl pd_Text_bit.2 ⟨Nat.le_of_ble_eq_true rfl, Nat.le_of_ble_eq_true rfl⟩) xpreS0 rfl rfl hl.1 rfl (lv_room (Nat.le_of_ble_eq_true rfl)) d_Text_delete_92 ⟨Nat.le_of_ble_eq_true rfl, Nat.le_of_ble_eq_true rfl⟩) hP hS (fun H locs hP hS => ?_)
        refine lv_lor hx hb d_Text_delete_95 ?_
        obtain ⟨w96, hw96, hm⟩ := xlt_some hm
        refine va_putN (D := (dC, dI)) (ci := 6) (v := .long ((xs_l u (2 + (a1.toNatClampNeg))) ||| r92)) (ty := .long) (C := "EventGraphText$Site") (T := T_Site) (N := 3) hx hb hT hin_Site ty_Site tyok_Site nm_Site hown hK hP (hD _) hS (19 + 4 * (a1.toNatClampNeg)) (cW_S (xin_lt g1)) rfl 2 (by decide) (va_Nw.use rfl (nf_6 hN)) (fun _ h9 => h9) rfl (by decide +kernel) rfl rfl (Nat.le_of_ble_eq_true rfl) d_Text_delete_96 (fun H locs hP _ hS => ?_)
        replace hP : va_P (dC, dI) xCl (cW dT ad w96) H := xp_conv ((cW_f_S_graph (xin_lt g1)).trans (congrArg (cW dT ad) hw96.symm)) hP
        refine lv_aload_n hx hb d_Text_delete_99 rfl (lv_at hl 3 rfl) ?_
        refine va_get (D := (dC, dI)) (ci := 7) (v := .ref (ad 1)) (C := "EventGraphText") (T := T_Text) (N := 5) hx hb hT hin_Text hown hK hP 0 cW_E rfl 0 (by decide) (hT _ wd_184) (fun _ h9 => h9) rfl d_Text_delete_100 ?_
        refine lv_iload hx hb d_Text_delete_103 (lv_at hl 0 rfl) ?_
        obtain ⟨r105, h105, hm⟩ := xb1_some hm
        refine xc_i (va_runV (C := "EventGraphText$History") (As := [.int r67]) (rest := []) ⟨hx, hb, hml, hown, hts⟩ (c_History_numberOf l dC dI dT ad r67 w96 r105 h105) (cwV 1 hts (xgV wd_275 wd_276 wd_277 wd_2 wd_278) rfl rfl rfl pd_History_numberOf ⟨Nat.le_of_ble_eq_true rfl, Nat.le_of_ble_eq_true rfl⟩) (xpreV (C := "EventGraphText$History") (T := T_History) (N := 9) hP hK hN rfl cW_H) rfl rfl hl.1 rfl (lv_room (Nat.le_of_ble_eq_true rfl)) d_Text_delete_105 ⟨Nat.le_of_ble_eq_true rfl, Nat.le_of_ble_eq_true rfl⟩) hP hS (fun H locs hP hS => ?_)
        exact hret hm hP hS d_Text_delete_108
      · replace hm := xi_pos h hm
        refine lv_sipush (v := (-1000 : Int32)) hx hb d_Text_delete_55 (by decide) ?_
        exact hret hm hP hS d_Text_delete_58
    · replace hm := xi_neg h hm
      refine lv_sipush (v := (-1000 : Int32)) hx hb d_Text_delete_17 (by decide) ?_
      exact hret hm hP hS d_Text_delete_20
set_option maxHeartbeats 4000000 in
set_option maxRecDepth 100000 in
theorem c_Text_length (l : Launch) (dC : Nat → ClassId) (dI : Nat → Nat → Nat) (dT : Nat → ClassId) (ad : Nat → Nat) (a1 : Int32) (u : xS) (out : Int32) (hm : m_Text_length a1 u = some out) : Met l y_Text_length (Cond.code y_Text_length b_Text_length 2 (some .int) :: xG) (xrm 3 67) (va_Pc [.ref (ad 0), .int a1] (xR (dC, dI) xCl (xT dT) (cW dT ad u))) (va_Qi (fun r9 (_ : Unit) => r9 = out) (fun _ _ => True) xN) 0 0 xN := by
  refine xm_roi (cc := b_Text_length) (maxL := 2) (by decide) rfl (Nat.le_of_ble_eq_true rfl) ?_
  intro p e s m args below meth c Q ls hx hb hml hts hown hK hN hP hl hret
  have hT : ∀ w ∈ xG, w.before args s = true := fun w h => hts w (List.mem_cons_of_mem _ h)
  have hown : s.vm.findClass "EventGraphText" = some m.cls := hown
  have hl : lv_has ls 2 [(0, .ref (ad 0)), (1, .int a1)] := hl
  have hS : va_S xN s.heap s.heap [] := va_S.rf
  unfold m_Text_length at hm
  refine lv_iload_n hx hb d_Text_length_0 rfl (lv_at hl 1 rfl) ?_
  obtain ⟨r1, h1, hm⟩ := xb1_some hm
  refine xc_i (va_runS (As := [.int a1]) (rest := []) ⟨hx, hb, hml, hown, hts⟩ (c_Text_isSite l a1 r1 h1) (va_cwS 1 hts (xgS wd_204 wd_205 wd_1 wd_206) rfl rfl rfl pd_Text_isSite.2 ⟨Nat.le_of_ble_eq_true rfl, Nat.le_of_ble_eq_true rfl⟩) xpreS0 rfl rfl hl.1 rfl (lv_room (Nat.le_of_ble_eq_true rfl)) d_Text_length_1 ⟨Nat.le_of_ble_eq_true rfl, Nat.le_of_ble_eq_true rfl⟩) hP hS (fun H locs hP hS => ?_)
  refine lv_if_eq (tgt := 29) hx hb d_Text_length_4 rfl (fun h => ?_) (fun h => ?_)
  · replace hm := xi_pos h hm
    refine lv_sipush (v := (-1000 : Int32)) hx hb d_Text_length_29 (by decide) ?_
    exact hret hm hS d_Text_length_32
  · replace hm := xi_neg h hm
    refine lv_aload_n hx hb d_Text_length_7 rfl (lv_at hl 0 rfl) ?_
    refine va_get (D := (dC, dI)) (ci := 7) (v := .ref (ad 10)) (C := "EventGraphText") (T := T_Text) (N := 5) hx hb hT hin_Text hown hK hP 0 cW_E rfl 1 (by decide) (hT _ wd_185) (fun _ h9 => h9) rfl d_Text_length_8 ?_
    refine lv_aload_n hx hb d_Text_length_11 rfl (lv_at hl 0 rfl) ?_
    refine va_get (D := (dC, dI)) (ci := 7) (v := .ref (ad 18)) (C := "EventGraphText") (T := T_Text) (N := 5) hx hb hT hin_Text hown hK hP 0 cW_E rfl 3 (by decide) (hT _ wd_187) (fun _ h9 => h9) rfl d_Text_length_12 ?_
    refine lv_iload_n hx hb d_Text_length_15 rfl (lv_at hl 1 rfl) ?_
    obtain ⟨g1, hm⟩ := xg_some hm
    refine va_aldq hx hb hK hP 18 3 rfl rfl g1 d_Text_length_16 ?_
    refine W.eq (g2 := F0 m 17 ls [.ref (ad (19 + 4 * (a1.toNatClampNeg))), .ref (ad 10)]) rfl ?_
    refine va_getN (D := (dC, dI)) (ci := 6) (v := .long (xs_l u (2 + (a1.toNatClampNeg)))) (C := "EventGraphText$Site") (T := T_Site) (N := 3) hx hb hT hin_Site hown hK hP (19 + 4 * (a1.toNatClampNeg)) (cW_S (xin_lt g1)) rfl 2 (by decide) (va_Nw.use rfl (nf_6 hN)) (fun _ h9 => h9) rfl d_Text_length_17 ?_
    obtain ⟨r20, h20, hm⟩ := xb1_some hm
    refine xc_l (va_runV (C := "EventGraphText$CharacterList") (As := [.long (xs_l u (2 + (a1.toNatClampNeg)))]) (rest := []) ⟨hx, hb, hml, hown, hts⟩ (c_CharacterList_shownIn l dC dI dT ad (xs_l u (2 + (a1.toNatClampNeg))) u r20 h20) (cwV 1 hts (xgV wd_211 wd_212 wd_213 wd_3 wd_214) rfl rfl rfl pd_CharacterList_shownIn ⟨Nat.le_of_ble_eq_true rfl, Nat.le_of_ble_eq_true rfl⟩) (xpreV (C := "EventGraphText$CharacterList") (T := T_CharacterList) (N := 8) hP hK hN rfl cW_L) rfl rfl hl.1 rfl (lv_room (Nat.le_of_ble_eq_true rfl)) d_Text_length_20 ⟨Nat.le_of_ble_eq_true rfl, Nat.le_of_ble_eq_true rfl⟩) hP hS (fun H locs hP hS => ?_)
    obtain ⟨r23, h23, hm⟩ := xb1_some hm
    refine xc_i (va_runS (As := [.long r20]) (rest := []) ⟨hx, hb, hml, hown, hts⟩ (c_Long_bitCount l r20 r23 h23) (va_cwS 1 hts (xgS wd_223 wd_224 wd_10 wd_225) rfl rfl rfl pd_Long_bitCount.2 ⟨Nat.le_of_ble_eq_true rfl, Nat.le_of_ble_eq_true rfl⟩) xpreS0 rfl rfl hl.1 rfl (lv_room (Nat.le_of_ble_eq_true rfl)) d_Text_length_23 ⟨Nat.le_of_ble_eq_true rfl, Nat.le_of_ble_eq_true rfl⟩) hP hS (fun H locs hP hS => ?_)
    refine lv_goto (tgt := 32) hx hb d_Text_length_26 rfl ?_
    exact hret hm hS d_Text_length_32
set_option maxHeartbeats 4000000 in
set_option maxRecDepth 100000 in
theorem c_History_characterOf (l : Launch) (dC : Nat → ClassId) (dI : Nat → Nat → Nat) (dT : Nat → ClassId) (ad : Nat → Nat) (a1 : Int32) (u : xS) (out : Int32) (hm : m_History_characterOf a1 u = some out) : Met l y_History_characterOf (Cond.code y_History_characterOf b_History_characterOf 2 (some .int) :: xG) (xrm 0 0) (va_Pc [.ref (ad 1), .int a1] (xR (dC, dI) xCl (xT dT) (cW dT ad u))) (va_Qi (fun r9 (_ : Unit) => r9 = out) (fun _ _ => True) xN) 0 0 xN := by
  refine xm_roi (cc := b_History_characterOf) (maxL := 2) (by decide) rfl (Nat.le_of_ble_eq_true rfl) ?_
  intro p e s m args below meth c Q ls hx hb hml hts hown hK hN hP hl hret
  have hT : ∀ w ∈ xG, w.before args s = true := fun w h => hts w (List.mem_cons_of_mem _ h)
  have hown : s.vm.findClass "EventGraphText$History" = some m.cls := hown
  have hl : lv_has ls 2 [(0, .ref (ad 1)), (1, .int a1)] := hl
  have hS : va_S xN s.heap s.heap [] := va_S.rf
  unfold m_History_characterOf at hm
  refine lv_aload_n hx hb d_History_characterOf_0 rfl (lv_at hl 0 rfl) ?_
  refine va_get (D := (dC, dI)) (ci := 1) (v := .ref (ad 5)) (C := "EventGraphText$History") (T := T_History) (N := 9) hx hb hT hin_History hown hK hP 1 cW_H rfl 3 (by decide) (hT _ wd_28) (fun _ h9 => h9) rfl d_History_characterOf_1 ?_
  refine lv_iload_n hx hb d_History_characterOf_4 rfl (lv_at hl 1 rfl) ?_
  obtain ⟨g1, hm⟩ := xg_some hm
  refine va_iald hx hb hK hP 5 0 cW_H_characters rfl g1 d_History_characterOf_5 ?_
  exact hret hm hS d_History_characterOf_6
set_option maxHeartbeats 4000000 in
set_option maxRecDepth 100000 in
theorem c_Text_at (l : Launch) (dC : Nat → ClassId) (dI : Nat → Nat → Nat) (dT : Nat → ClassId) (ad : Nat → Nat) (a1 : Int32) (a2 : Int32) (u : xS) (out : Int32) (hm : m_Text_at a1 a2 u = some out) : Met l y_Text_at (Cond.code y_Text_at b_Text_at 4 (some .int) :: xG) (xrm 3 67) (va_Pc [.ref (ad 0), .int a1, .int a2] (xR (dC, dI) xCl (xT dT) (cW dT ad u))) (va_Qi (fun r9 (_ : Unit) => r9 = out) (fun _ _ => True) xN) 0 0 xN := by
  refine xm_roi (cc := b_Text_at) (maxL := 4) (by decide) rfl (Nat.le_of_ble_eq_true rfl) ?_
  intro p e s m args below meth c Q ls hx hb hml hts hown hK hN hP hl hret
  have hT : ∀ w ∈ xG, w.before args s = true := fun w h => hts w (List.mem_cons_of_mem _ h)
  have hown : s.vm.findClass "EventGraphText" = some m.cls := hown
  have hl : lv_has ls 4 [(0, .ref (ad 0)), (1, .int a1), (2, .int a2)] := hl
  have hS : va_S xN s.heap s.heap [] := va_S.rf
  unfold m_Text_at at hm
  refine lv_iload_n hx hb d_Text_at_0 rfl (lv_at hl 1 rfl) ?_
  obtain ⟨r1, h1, hm⟩ := xb1_some hm
  refine xc_i (va_runS (As := [.int a1]) (rest := []) ⟨hx, hb, hml, hown, hts⟩ (c_Text_isSite l a1 r1 h1) (va_cwS 1 hts (xgS wd_204 wd_205 wd_1 wd_206) rfl rfl rfl pd_Text_isSite.2 ⟨Nat.le_of_ble_eq_true rfl, Nat.le_of_ble_eq_true rfl⟩) xpreS0 rfl rfl hl.1 rfl (lv_room (Nat.le_of_ble_eq_true rfl)) d_Text_at_1 ⟨Nat.le_of_ble_eq_true rfl, Nat.le_of_ble_eq_true rfl⟩) hP hS (fun H locs hP hS => ?_)
  refine lv_if_ne (tgt := 11) hx hb d_Text_at_4 rfl (fun h => ?_) (fun h => ?_)
  · replace hm := xi_neg h hm
    refine lv_aload_n hx hb d_Text_at_11 rfl (lv_at hl 0 rfl) ?_
    refine va_get (D := (dC, dI)) (ci := 7) (v := .ref (ad 10)) (C := "EventGraphText") (T := T_Text) (N := 5) hx hb hT hin_Text hown hK hP 0 cW_E rfl 1 (by decide) (hT _ wd_185) (fun _ h9 => h9) rfl d_Text_at_12 ?_
    refine lv_aload_n hx hb d_Text_at_15 rfl (lv_at hl 0 rfl) ?_
    refine va_get (D := (dC, dI)) (ci := 7) (v := .ref (ad 10)) (C := "EventGraphText") (T := T_Text) (N := 5) hx hb hT hin_Text hown hK hP 0 cW_E rfl 1 (by decide) (hT _ wd_185) (fun _ h9 => h9) rfl d_Text_at_16 ?_
    refine lv_aload_n hx hb d_Text_at_19 rfl (lv_at hl 0 rfl) ?_
    refine va_get (D := (dC, dI)) (ci := 7) (v := .ref (ad 18)) (C := "EventGraphText") (T := T_Text) (N := 5) hx hb hT hin_Text hown hK hP 0 cW_E rfl 3 (by decide) (hT _ wd_187) (fun _ h9 => h9) rfl d_Text_at_20 ?_
    refine lv_iload_n hx hb d_Text_at_23 rfl (lv_at hl 1 rfl) ?_
    obtain ⟨g1, hm⟩ := xg_some hm
    refine va_aldq hx hb hK hP 18 3 rfl rfl g1 d_Text_at_24 ?_
    refine W.eq (g2 := F0 m 25 ls [.ref (ad (19 + 4 * (a1.toNatClampNeg))), .ref (ad 10), .ref (ad 10)]) rfl ?_
    refine va_getN (D := (dC, dI)) (ci := 6) (v := .long (xs_l u (2 + (a1.toNatClampNeg)))) (C := "EventGraphText$Site") (T := T_Site) (N := 3) hx hb hT hin_Site hown hK hP (19 + 4 * (a1.toNatClampNeg)) (cW_S (xin_lt g1)) rfl 2 (by decide) (va_Nw.use rfl (nf_6 hN)) (fun _ h9 => h9) rfl d_Text_at_25 ?_
    obtain ⟨r28, h28, hm⟩ := xb1_some hm
    refine xc_l (va_runV (C := "EventGraphText$CharacterList") (As := [.long (xs_l u (2 + (a1.toNatClampNeg)))]) (rest := [.ref (ad 10)]) ⟨hx, hb, hml, hown, hts⟩ (c_CharacterList_shownIn l dC dI dT ad (xs_l u (2 + (a1.toNatClampNeg))) u r28 h28) (cwV 1 hts (xgV wd_211 wd_212 wd_213 wd_3 wd_214) rfl rfl rfl pd_CharacterList_shownIn ⟨Nat.le_of_ble_eq_true rfl, Nat.le_of_ble_eq_true rfl⟩) (xpreV (C := "EventGraphText$CharacterList") (T := T_CharacterList) (N := 8) hP hK hN rfl cW_L) rfl rfl hl.1 rfl (lv_room (Nat.le_of_ble_eq_true rfl)) d_Text_at_28 ⟨Nat.le_of_ble_eq_true rfl, Nat.le_of_ble_eq_true rfl⟩) hP hS (fun H locs hP hS => ?_)
    refine lv_iload_n hx hb d_Text_at_31 rfl (lv_at hl 2 rfl) ?_
    obtain ⟨r32, h32, hm⟩ := xb1_some hm
    refine xc_i (va_runV (C := "EventGraphText$CharacterList") (As := [.long r28, .int a2]) (rest := []) ⟨hx, hb, hml, hown, hts⟩ (c_CharacterList_shownAt l dC dI dT ad r28 a2 u r32 h32) (cwV 2 hts (xgV wd_229 wd_230 wd_231 wd_3 wd_232) rfl rfl rfl pd_CharacterList_shownAt ⟨Nat.le_of_ble_eq_true rfl, Nat.le_of_ble_eq_true rfl⟩) (xpreV (C := "EventGraphText$CharacterList") (T := T_CharacterList) (N := 8) hP hK hN rfl cW_L) rfl rfl hl.1 rfl (lv_room (Nat.le_of_ble_eq_true rfl)) d_Text_at_32 ⟨Nat.le_of_ble_eq_true rfl, Nat.le_of_ble_eq_true rfl⟩) hP hS (fun H locs hP hS => ?_)
    refine lv_istore_n (lv' := [(3, .int r32), (0, .ref (ad 0)), (1, .int a1), (2, .int a2)]) hx hb d_Text_at_35 rfl hl (Nat.le_of_ble_eq_true rfl) rfl (fun ls hl => ?_)
    refine lv_iload_n hx hb d_Text_at_36 rfl (lv_at hl 0 rfl) ?_
    refine lv_iconst (v := (-1 : Int32)) hx hb d_Text_at_37 (by decide) ?_
    refine lv_icmp_ne (tgt := 47) hx hb d_Text_at_38 rfl (fun h => ?_) (fun h => ?_)
    · replace hm := xi_neg h hm
      refine lv_aload_n hx hb d_Text_at_47 rfl (lv_at hl 1 rfl) ?_
      refine va_get (D := (dC, dI)) (ci := 7) (v := .ref (ad 1)) (C := "EventGraphText") (T := T_Text) (N := 5) hx hb hT hin_Text hown hK hP 0 cW_E rfl 0 (by decide) (hT _ wd_184) (fun _ h9 => h9) rfl d_Text_at_48 ?_
      refine lv_iload_n hx hb d_Text_at_51 rfl (lv_at hl 0 rfl) ?_
      obtain ⟨r52, h52, hm⟩ := xb1_some hm
      refine xc_i (va_runV (C := "EventGraphText$History") (As := [.int r32]) (rest := []) ⟨hx, hb, hml, hown, hts⟩ (c_History_characterOf l dC dI dT ad r32 u r52 h52) (cwV 1 hts (xgV wd_295 wd_296 wd_297 wd_2 wd_298) rfl rfl rfl pd_History_characterOf ⟨Nat.le_of_ble_eq_true rfl, Nat.le_of_ble_eq_true rfl⟩) (xpreV (C := "EventGraphText$History") (T := T_History) (N := 9) hP hK hN rfl cW_H) rfl rfl hl.1 rfl (lv_room (Nat.le_of_ble_eq_true rfl)) d_Text_at_52 ⟨Nat.le_of_ble_eq_true rfl, Nat.le_of_ble_eq_true rfl⟩) hP hS (fun H locs hP hS => ?_)
      exact hret hm hS d_Text_at_55
    · replace hm := xi_pos h hm
      refine lv_sipush (v := (-1000 : Int32)) hx hb d_Text_at_41 (by decide) ?_
      refine lv_goto (tgt := 55) hx hb d_Text_at_44 rfl ?_
      exact hret hm hS d_Text_at_55
  · replace hm := xi_pos h hm
    refine lv_sipush (v := (-1000 : Int32)) hx hb d_Text_at_7 (by decide) ?_
    exact hret hm hS d_Text_at_10
set_option maxHeartbeats 4000000 in
set_option maxRecDepth 100000 in
theorem c_Text_areTwoSites (l : Launch) (a0 : Int32) (a1 : Int32) (out : Int32) (hm : m_Text_areTwoSites a0 a1 = some out) : Met l y_Text_areTwoSites (Cond.code y_Text_areTwoSites b_Text_areTwoSites 2 (some .boolean) :: xG) (xrm 1 20) (va_Pc [.int a0, .int a1] (fun _ => True)) (va_Qi (fun r9 (_ : Unit) => r9 = out) (fun _ _ => True) xN) 0 0 xN := by
  refine xm_puz (cc := b_Text_areTwoSites) (maxL := 2) (by decide) rfl (Nat.le_of_ble_eq_true rfl) ?_
  intro p e s m args below meth c Q ls hx hb hml hts hown hl hret
  have hT : ∀ w ∈ xG, w.before args s = true := fun w h => hts w (List.mem_cons_of_mem _ h)
  have hown : s.vm.findClass "EventGraphText" = some m.cls := hown
  have hl : lv_has ls 2 [(0, .int a0), (1, .int a1)] := hl
  have hS : va_S xN s.heap s.heap [] := va_S.rf
  unfold m_Text_areTwoSites at hm
  refine lv_iload_n hx hb d_Text_areTwoSites_0 rfl (lv_at hl 0 rfl) ?_
  obtain ⟨r1, h1, hm⟩ := xb1_some hm
  refine xc_i0 (va_runS (As := [.int a0]) (rest := []) ⟨hx, hb, hml, hown, hts⟩ (c_Text_isSite l a0 r1 h1) (va_cwS 1 hts (xgS wd_204 wd_205 wd_1 wd_206) rfl rfl rfl pd_Text_isSite.2 ⟨Nat.le_of_ble_eq_true rfl, Nat.le_of_ble_eq_true rfl⟩) xpreS0 rfl rfl hl.1 rfl (lv_room (Nat.le_of_ble_eq_true rfl)) d_Text_areTwoSites_1 ⟨Nat.le_of_ble_eq_true rfl, Nat.le_of_ble_eq_true rfl⟩) hS (fun H locs hS => ?_)
  refine lv_if_eq (tgt := 23) hx hb d_Text_areTwoSites_4 rfl (fun h => ?_) (fun h => ?_)
  · replace hm := xi_pos h hm
    refine lv_iconst (v := (0 : Int32)) hx hb d_Text_areTwoSites_23 (by decide) ?_
    exact hret hm rfl hS d_Text_areTwoSites_24
  · replace hm := xi_neg h hm
    refine lv_iload_n hx hb d_Text_areTwoSites_7 rfl (lv_at hl 1 rfl) ?_
    obtain ⟨r8, h8, hm⟩ := xb1_some hm
    refine xc_i0 (va_runS (As := [.int a1]) (rest := []) ⟨hx, hb, hml, hown, hts⟩ (c_Text_isSite l a1 r8 h8) (va_cwS 1 hts (xgS wd_204 wd_205 wd_1 wd_206) rfl rfl rfl pd_Text_isSite.2 ⟨Nat.le_of_ble_eq_true rfl, Nat.le_of_ble_eq_true rfl⟩) xpreS0 rfl rfl hl.1 rfl (lv_room (Nat.le_of_ble_eq_true rfl)) d_Text_areTwoSites_8 ⟨Nat.le_of_ble_eq_true rfl, Nat.le_of_ble_eq_true rfl⟩) hS (fun H locs hS => ?_)
    refine lv_if_eq (tgt := 23) hx hb d_Text_areTwoSites_11 rfl (fun h => ?_) (fun h => ?_)
    · replace hm := xi_pos h hm
      refine lv_iconst (v := (0 : Int32)) hx hb d_Text_areTwoSites_23 (by decide) ?_
      exact hret hm rfl hS d_Text_areTwoSites_24
    · replace hm := xi_neg h hm
      refine lv_iload_n hx hb d_Text_areTwoSites_14 rfl (lv_at hl 0 rfl) ?_
      refine lv_iload_n hx hb d_Text_areTwoSites_15 rfl (lv_at hl 1 rfl) ?_
      refine lv_icmp_eq (tgt := 23) hx hb d_Text_areTwoSites_16 rfl (fun h => ?_) (fun h => ?_)
      · replace hm := xi_pos h hm
        refine lv_iconst (v := (0 : Int32)) hx hb d_Text_areTwoSites_23 (by decide) ?_
        exact hret hm rfl hS d_Text_areTwoSites_24
      · replace hm := xi_neg h hm
        refine lv_iconst (v := (1 : Int32)) hx hb d_Text_areTwoSites_19 (by decide) ?_
        refine lv_goto (tgt := 24) hx hb d_Text_areTwoSites_20 rfl ?_
        exact hret hm rfl hS d_Text_areTwoSites_24
set_option maxHeartbeats 4000000 in
set_option maxRecDepth 100000 in
theorem c_Text_freeNumber (l : Launch) (dC : Nat → ClassId) (dI : Nat → Nat → Nat) (dT : Nat → ClassId) (ad : Nat → Nat) (u : xS) (out : Int32) (hm : m_Text_freeNumber u = some out) : Met l y_Text_freeNumber (Cond.code y_Text_freeNumber b_Text_freeNumber 2 (some .int) :: xG) (xrm 0 0) (va_Pc [.ref (ad 0)] (xR (dC, dI) xCl (xT dT) (cW dT ad u))) (va_Qi (fun r9 (_ : Unit) => r9 = out) (fun _ _ => True) xN) 0 0 xN := by
  refine xm_roi (cc := b_Text_freeNumber) (maxL := 2) (by decide) rfl (Nat.le_of_ble_eq_true rfl) ?_
  intro p e s m args below meth c Q ls hx hb hml hts hown hK hN hP hl hret
  have hT : ∀ w ∈ xG, w.before args s = true := fun w h => hts w (List.mem_cons_of_mem _ h)
  have hown : s.vm.findClass "EventGraphText" = some m.cls := hown
  have hl : lv_has ls 2 [(0, .ref (ad 0))] := hl
  have hS : va_S xN s.heap s.heap [] := va_S.rf
  have hs2 : ∀ (k2 : Int32 → xS → Option Int32) (hk2 : ∀ (b1 : Int32) (H : Heap) (locs : List Loc) (ls : Array Slot), lv_has ls 2 [(0, .ref (ad 0)), (1, .int b1)] → va_P (dC, dI) xCl (cW dT ad u) H → va_S xN s.heap H locs → k2 b1 u = some out → W p l e (xrm 0 0) s m args below meth c H locs 0 0 Q (F0 m 2 ls [])), ∀ (b1 : Int32) (H : Heap) (locs : List Loc) (ls : Array Slot), lv_has ls 2 [(0, .ref (ad 0)), (1, .int b1)] → va_P (dC, dI) xCl (cW dT ad u) H → va_S xN s.heap H locs → m_Text_freeNumber_s2 k2 b1 u = some out → W p l e (xrm 0 0) s m args below meth c H locs 0 0 Q (F0 m 2 ls []) := by
    intro k2 hk2 b1 H locs ls hl hP hS hm
    unfold m_Text_freeNumber_s2 at hm
    refine lv_iload_n hx hb d_Text_freeNumber_2 rfl (lv_at hl 1 rfl) ?_
    refine lv_bipush (v := (6 : Int32)) hx hb d_Text_freeNumber_3 (by decide) ?_
    refine lv_icmp_ge (tgt := 26) hx hb d_Text_freeNumber_5 rfl (fun h => ?_) (fun h => ?_)
    · replace hm := xi_pos h hm
      refine lv_iload_n hx hb d_Text_freeNumber_26 rfl (lv_at hl 1 rfl) ?_
      exact hret hm hS d_Text_freeNumber_27
    · replace hm := xi_neg h hm
      refine lv_aload_n hx hb d_Text_freeNumber_8 rfl (lv_at hl 0 rfl) ?_
      refine va_get (D := (dC, dI)) (ci := 7) (v := .ref (ad 31)) (C := "EventGraphText") (T := T_Text) (N := 5) hx hb hT hin_Text hown hK hP 0 cW_E rfl 4 (by decide) (hT _ wd_188) (fun _ h9 => h9) rfl d_Text_freeNumber_9 ?_
      refine lv_iload_n hx hb d_Text_freeNumber_12 rfl (lv_at hl 1 rfl) ?_
      obtain ⟨g1, hm⟩ := xg_some hm
      refine va_aldq hx hb hK hP 31 4 rfl rfl g1 d_Text_freeNumber_13 ?_
      refine W.eq (g2 := F0 m 14 ls [.ref (ad (32 + 3 * (b1.toNatClampNeg)))]) rfl ?_
      refine va_getN (D := (dC, dI)) (ci := 4) (v := .int (xs_i u (12 + (b1.toNatClampNeg)))) (C := "EventGraphText$Message") (T := T_Message) (N := 5) hx hb hT hin_Message hown hK hP (32 + 3 * (b1.toNatClampNeg)) (cW_M (xin_lt g1)) rfl 1 (by decide) (va_Nw.use rfl (nf_8 hN)) (fun _ h9 => h9) rfl d_Text_freeNumber_14 ?_
      refine lv_if_eq (tgt := 26) hx hb d_Text_freeNumber_17 rfl (fun h => ?_) (fun h => ?_)
      · replace hm := xi_pos h hm
        refine lv_iload_n hx hb d_Text_freeNumber_26 rfl (lv_at hl 1 rfl) ?_
        exact hret hm hS d_Text_freeNumber_27
      · replace hm := xi_neg h hm
        refine lv_iinc (k := 1) (v := (b1 + (1 : Int32))) (lv' := [(1, .int (b1 + (1 : Int32))), (0, .ref (ad 0))]) hx hb d_Text_freeNumber_20 hl rfl rfl (Nat.le_of_ble_eq_true rfl) rfl (fun ls hl => ?_)
        refine lv_goto (tgt := 2) hx hb d_Text_freeNumber_23 rfl ?_
        exact hk2 (b1 + (1 : Int32)) _ _ _ (lv_sub hl [1, 0] rfl) hP hS hm
  have hl2 : ∀ (fu : Nat), ∀ (b1 : Int32) (H : Heap) (locs : List Loc) (ls : Array Slot), lv_has ls 2 [(0, .ref (ad 0)), (1, .int b1)] → va_P (dC, dI) xCl (cW dT ad u) H → va_S xN s.heap H locs → m_Text_freeNumber_l2 fu b1 u = some out → W p l e (xrm 0 0) s m args below meth c H locs 0 0 Q (F0 m 2 ls []) := by
    intro fu
    induction fu with
    | zero => intro b1 H locs ls hl hP hS hm; exact absurd hm (fun z => by cases z)
    | succ n ih => intro b1 H locs ls hl hP hS hm; exact hs2 (m_Text_freeNumber_l2 n) ih b1 H locs ls hl hP hS hm
  unfold m_Text_freeNumber at hm
  refine lv_iconst (v := (0 : Int32)) hx hb d_Text_freeNumber_0 (by decide) ?_
  refine lv_istore_n (lv' := [(1, .int (0 : Int32)), (0, .ref (ad 0))]) hx hb d_Text_freeNumber_1 rfl hl (Nat.le_of_ble_eq_true rfl) rfl (fun ls hl => ?_)
  exact hl2 xFU (0 : Int32) _ _ _ (lv_sub hl [1, 0] rfl) hP hS hm
set_option maxHeartbeats 4000000 in
set_option maxRecDepth 100000 in
theorem c_History_leastOf (l : Launch) (dC : Nat → ClassId) (dI : Nat → Nat → Nat) (dT : Nat → ClassId) (ad : Nat → Nat) (a1 : Int64) (u : xS) (out : Int32) (hm : m_History_leastOf a1 u = some out) : Met l y_History_leastOf (Cond.code y_History_leastOf b_History_leastOf 5 (some .int) :: xG) (xrm 2 42) (va_Pc [.ref (ad 1), .long a1] (xR (dC, dI) xCl (xT dT) (cW dT ad u))) (va_Qi (fun r9 (_ : Unit) => r9 = out) (fun _ _ => True) xN) 0 0 xN := by
  refine xm_roi (cc := b_History_leastOf) (maxL := 5) (by decide) rfl (Nat.le_of_ble_eq_true rfl) ?_
  intro p e s m args below meth c Q ls hx hb hml hts hown hK hN hP hl hret
  have hT : ∀ w ∈ xG, w.before args s = true := fun w h => hts w (List.mem_cons_of_mem _ h)
  have hown : s.vm.findClass "EventGraphText$History" = some m.cls := hown
  have hl : lv_has ls 5 [(0, .ref (ad 1)), (1, .long a1)] := hl
  have hS : va_S xN s.heap s.heap [] := va_S.rf
  have hs5 : ∀ (k5 : Int64 → Int32 → Int32 → xS → Option Int32) (hk5 : ∀ (b1 : Int64) (b3 : Int32) (b4 : Int32) (H : Heap) (locs : List Loc) (ls : Array Slot), lv_has ls 5 [(0, .ref (ad 1)), (1, .long b1), (3, .int b3), (4, .int b4)] → va_P (dC, dI) xCl (cW dT ad u) H → va_S xN s.heap H locs → k5 b1 b3 b4 u = some out → W p l e (xrm 2 42) s m args below meth c H locs 0 0 Q (F0 m 5 ls [])), ∀ (b1 : Int64) (b3 : Int32) (b4 : Int32) (H : Heap) (locs : List Loc) (ls : Array Slot), lv_has ls 5 [(0, .ref (ad 1)), (1, .long b1), (3, .int b3), (4, .int b4)] → va_P (dC, dI) xCl (cW dT ad u) H → va_S xN s.heap H locs → m_History_leastOf_s5 k5 b1 b3 b4 u = some out → W p l e (xrm 2 42) s m args below meth c H locs 0 0 Q (F0 m 5 ls []) := by
    intro k5 hk5 b1 b3 b4 H locs ls hl hP hS hm
    unfold m_History_leastOf_s5 at hm
    refine lv_iload hx hb d_History_leastOf_5 (lv_at hl 3 rfl) ?_
    refine lv_aload_n hx hb d_History_leastOf_7 rfl (lv_at hl 0 rfl) ?_
    refine va_get (D := (dC, dI)) (ci := 1) (v := .int (xs_i u 0)) (C := "EventGraphText$History") (T := T_History) (N := 9) hx hb hT hin_History hown hK hP 1 cW_H rfl 8 (by decide) (hT _ wd_33) (fun _ h9 => h9) rfl d_History_leastOf_8 ?_
    refine lv_icmp_ge (tgt := 47) hx hb d_History_leastOf_11 rfl (fun h => ?_) (fun h => ?_)
    · replace hm := xi_pos h hm
      refine lv_iload_n hx hb d_History_leastOf_47 rfl (lv_at hl 2 rfl) ?_
      exact hret hm hS d_History_leastOf_48
    · replace hm := xi_neg h hm
      refine lv_lload_n hx hb d_History_leastOf_14 rfl (lv_at hl 1 rfl) ?_
      refine lv_iload hx hb d_History_leastOf_15 (lv_at hl 3 rfl) ?_
      obtain ⟨r17, h17, hm⟩ := xb1_some hm
      refine xc_i (va_runSN (As := [.long b1, .int b4]) (rest := []) ⟨hx, hb, hml, hown, hts⟩ (c_Text_has l b1 b4 r17 h17) ⟨va_cnB 2 hts (xg0 wd_217) rfl rfl rfl (nmm_9 hN) (hT _ wd_1) pd_Text_has.2 ⟨Nat.le_of_ble_eq_true rfl, Nat.le_of_ble_eq_true rfl⟩, hT _ wd_216, trivial⟩ xpreS0 rfl rfl hl.1 rfl (lv_room (Nat.le_of_ble_eq_true rfl)) d_History_leastOf_17 ⟨Nat.le_of_ble_eq_true rfl, Nat.le_of_ble_eq_true rfl⟩) hP hS (fun H locs hP hS => ?_)
      refine lv_if_eq (tgt := 41) hx hb d_History_leastOf_20 rfl (fun h => ?_) (fun h => ?_)
      · replace hm := xi_pos h hm
        refine lv_iinc (k := 3) (v := (b4 + (1 : Int32))) (lv' := [(4, .int (b4 + (1 : Int32))), (0, .ref (ad 1)), (1, .long b1), (3, .int b3)]) hx hb d_History_leastOf_41 hl rfl rfl (Nat.le_of_ble_eq_true rfl) rfl (fun ls hl => ?_)
        refine lv_goto (tgt := 5) hx hb d_History_leastOf_44 rfl ?_
        exact hk5 b1 b3 (b4 + (1 : Int32)) _ _ _ (lv_sub hl [1, 2, 3, 0] rfl) hP hS hm
      · replace hm := xi_neg h hm
        refine lv_iload_n hx hb d_History_leastOf_23 rfl (lv_at hl 2 rfl) ?_
        refine lv_iconst (v := (-1 : Int32)) hx hb d_History_leastOf_24 (by decide) ?_
        refine lv_icmp_eq (tgt := 38) hx hb d_History_leastOf_25 rfl (fun h => ?_) (fun h => ?_)
        · replace hm := xi_pos h hm
          refine lv_iload hx hb d_History_leastOf_38 (lv_at hl 3 rfl) ?_
          refine lv_istore_n (lv' := [(3, .int b4), (0, .ref (ad 1)), (1, .long b1), (4, .int b4)]) hx hb d_History_leastOf_40 rfl hl (Nat.le_of_ble_eq_true rfl) rfl (fun ls hl => ?_)
          refine lv_iinc (k := 3) (v := (b4 + (1 : Int32))) (lv' := [(4, .int (b4 + (1 : Int32))), (3, .int b4), (0, .ref (ad 1)), (1, .long b1)]) hx hb d_History_leastOf_41 hl rfl rfl (Nat.le_of_ble_eq_true rfl) rfl (fun ls hl => ?_)
          refine lv_goto (tgt := 5) hx hb d_History_leastOf_44 rfl ?_
          exact hk5 b1 b4 (b4 + (1 : Int32)) _ _ _ (lv_sub hl [2, 3, 1, 0] rfl) hP hS hm
        · replace hm := xi_neg h hm
          refine lv_aload_n hx hb d_History_leastOf_28 rfl (lv_at hl 0 rfl) ?_
          refine lv_iload hx hb d_History_leastOf_29 (lv_at hl 3 rfl) ?_
          refine lv_iload_n hx hb d_History_leastOf_31 rfl (lv_at hl 2 rfl) ?_
          obtain ⟨r32, h32, hm⟩ := xb1_some hm
          refine xc_i (va_runV (C := "EventGraphText$History") (As := [.int b4, .int b3]) (rest := []) ⟨hx, hb, hml, hown, hts⟩ (c_History_comesBefore l dC dI dT ad b4 b3 u r32 h32) (cwV 2 hts (xgV wd_324 wd_268 wd_269 wd_2 wd_270) rfl rfl rfl pd_History_comesBefore ⟨Nat.le_of_ble_eq_true rfl, Nat.le_of_ble_eq_true rfl⟩) (xpreV (C := "EventGraphText$History") (T := T_History) (N := 9) hP hK hN rfl cW_H) rfl rfl hl.1 rfl (lv_room (Nat.le_of_ble_eq_true rfl)) d_History_leastOf_32 ⟨Nat.le_of_ble_eq_true rfl, Nat.le_of_ble_eq_true rfl⟩) hP hS (fun H locs hP hS => ?_)
          refine lv_if_eq (tgt := 41) hx hb d_History_leastOf_35 rfl (fun h => ?_) (fun h => ?_)
          · replace hm := xi_pos h hm
            refine lv_iinc (k := 3) (v := (b4 + (1 : Int32))) (lv' := [(4, .int (b4 + (1 : Int32))), (0, .ref (ad 1)), (1, .long b1), (3, .int b3)]) hx hb d_History_leastOf_41 hl rfl rfl (Nat.le_of_ble_eq_true rfl) rfl (fun ls hl => ?_)
            refine lv_goto (tgt := 5) hx hb d_History_leastOf_44 rfl ?_
            exact hk5 b1 b3 (b4 + (1 : Int32)) _ _ _ (lv_sub hl [1, 2, 3, 0] rfl) hP hS hm
          · replace hm := xi_neg h hm
            refine lv_iload hx hb d_History_leastOf_38 (lv_at hl 3 rfl) ?_
            refine lv_istore_n (lv' := [(3, .int b4), (0, .ref (ad 1)), (1, .long b1), (4, .int b4)]) hx hb d_History_leastOf_40 rfl hl (Nat.le_of_ble_eq_true rfl) rfl (fun ls hl => ?_)
            refine lv_iinc (k := 3) (v := (b4 + (1 : Int32))) (lv' := [(4, .int (b4 + (1 : Int32))), (3, .int b4), (0, .ref (ad 1)), (1, .long b1)]) hx hb d_History_leastOf_41 hl rfl rfl (Nat.le_of_ble_eq_true rfl) rfl (fun ls hl => ?_)
            refine lv_goto (tgt := 5) hx hb d_History_leastOf_44 rfl ?_
            exact hk5 b1 b4 (b4 + (1 : Int32)) _ _ _ (lv_sub hl [2, 3, 1, 0] rfl) hP hS hm
  have hl5 : ∀ (fu : Nat), ∀ (b1 : Int64) (b3 : Int32) (b4 : Int32) (H : Heap) (locs : List Loc) (ls : Array Slot), lv_has ls 5 [(0, .ref (ad 1)), (1, .long b1), (3, .int b3), (4, .int b4)] → va_P (dC, dI) xCl (cW dT ad u) H → va_S xN s.heap H locs → m_History_leastOf_l5 fu b1 b3 b4 u = some out → W p l e (xrm 2 42) s m args below meth c H locs 0 0 Q (F0 m 5 ls []) := by
    intro fu
    induction fu with
    | zero => intro b1 b3 b4 H locs ls hl hP hS hm; exact absurd hm (fun z => by cases z)
    | succ n ih => intro b1 b3 b4 H locs ls hl hP hS hm; exact hs5 (m_History_leastOf_l5 n) ih b1 b3 b4 H locs ls hl hP hS hm
  unfold m_History_leastOf at hm
  refine lv_iconst (v := (-1 : Int32)) hx hb d_History_leastOf_0 (by decide) ?_
  refine lv_istore_n (lv' := [(3, .int (-1 : Int32)), (0, .ref (ad 1)), (1, .long a1)]) hx hb d_History_leastOf_1 rfl hl (Nat.le_of_ble_eq_true rfl) rfl (fun ls hl => ?_)
  refine lv_iconst (v := (0 : Int32)) hx hb d_History_leastOf_2 (by decide) ?_
  refine lv_istore (lv' := [(4, .int (0 : Int32)), (3, .int (-1 : Int32)), (0, .ref (ad 1)), (1, .long a1)]) hx hb d_History_leastOf_3 hl (Nat.le_of_ble_eq_true rfl) rfl (fun ls hl => ?_)
  exact hl5 xFU a1 (-1 : Int32) (0 : Int32) _ _ _ (lv_sub hl [2, 3, 1, 0] rfl) hP hS hm
