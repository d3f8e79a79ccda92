set_option maxHeartbeats 4000000 in
set_option maxRecDepth 100000 in
theorem c_Message_write (l : Launch) (dC : Nat → ClassId) (dI : Nat → Nat → Nat) (dT : Nat → ClassId) (ad : Nat → Nat) (hD : ∀ u, va_D (xA ad 50) (cW dT ad u)) (j : Nat) (u : xS) (hj : j < 6) (u1 : xS) (hm : m_Message_write j u = some u1) : Met l y_Message_write (Cond.code y_Message_write b_Message_write 3 none :: xG) (xrm 5 119) (va_Pc [.ref (ad (32 + 3 * j)), .ref (ad 1), .ref (ad 16)] (xR (dC, dI) xCl (xT dT) (cW dT ad u))) (va_Qv (fun (u9 : xS) => u9 = u1) (fun u9 t => va_P (dC, dI) xCl (cW dT ad u9) t.heap) (xA ad 50)) 0 0 (xA ad 50) := by
  refine xm_rwv (Wd := cW dT ad) (cc := b_Message_write) (maxL := 3) (by decide) rfl (Nat.le_of_ble_eq_true rfl) ?_
  intro p e s m args below meth c Q ls hx hb hml hts hown hK hN hP hl hret
  have hT : ∀ w ∈ xG, w.before args s = true := fun w h => hts w (List.mem_cons_of_mem _ h)
  have hown : s.vm.findClass "EventGraphText$Message" = some m.cls := hown
  have hl : lv_has ls 3 [(0, .ref (ad (32 + 3 * j))), (1, .ref (ad 1)), (2, .ref (ad 16))] := hl
  have hS : va_S (xA ad 50) s.heap s.heap [] := va_S.rf
  unfold m_Message_write at hm
  refine lv_aload_n hx hb d_Message_write_0 rfl (lv_at hl 0 rfl) ?_
  refine va_get (D := (dC, dI)) (ci := 4) (v := .ref (ad (33 + 3 * j))) (C := "EventGraphText$Message") (T := T_Message) (N := 5) hx hb hT hin_Message hown hK hP (32 + 3 * j) (cW_M hj) rfl 0 (by decide) (hT _ wd_163) (fun _ h9 => h9) rfl d_Message_write_1 ?_
  obtain ⟨u4, h4, hm⟩ := xb1_some hm
  refine xc_vw (Wd := cW dT ad) (va_runV (C := "EventGraphText$OctetRow") (As := []) (rest := []) ⟨hx, hb, hml, hown, hts⟩ (c_OctetRow_clear l dC dI dT ad hD j u hj u4 h4) (cwV 0 hts (xgV wd_335 wd_336 wd_337 wd_8 wd_338) rfl rfl rfl pd_OctetRow_clear ⟨Nat.le_of_ble_eq_true rfl, Nat.le_of_ble_eq_true rfl⟩) (xpreV (C := "EventGraphText$OctetRow") (T := T_OctetRow) (N := 2) hP hK hN rfl (cW_O hj)) rfl rfl hl.1 rfl (lv_room (Nat.le_of_ble_eq_true rfl)) d_Message_write_4 ⟨Nat.le_of_ble_eq_true rfl, Nat.le_of_ble_eq_true rfl⟩) hS (fun _ h => h) (fun H locs hP hS => ?_)
  refine lv_aload_n hx hb d_Message_write_7 rfl (lv_at hl 0 rfl) ?_
  refine va_get (D := (dC, dI)) (ci := 4) (v := .ref (ad (33 + 3 * j))) (C := "EventGraphText$Message") (T := T_Message) (N := 5) hx hb hT hin_Message hown hK hP (32 + 3 * j) (cW_M hj) rfl 0 (by decide) (hT _ wd_163) (fun _ h9 => h9) rfl d_Message_write_8 ?_
  refine lv_aload_n hx hb d_Message_write_11 rfl (lv_at hl 2 rfl) ?_
  obtain ⟨r12, h12, hm⟩ := xb1_some hm
  refine xc_i (va_runV (C := "EventGraphText$Line") (As := []) (rest := [.ref (ad (33 + 3 * j))]) ⟨hx, hb, hml, hown, hts⟩ (c_Line_size l dC dI dT ad u4 r12 h12) (cwV 0 hts (xgV wd_339 wd_340 wd_341 wd_4 wd_342) rfl rfl rfl pd_Line_size ⟨Nat.le_of_ble_eq_true rfl, Nat.le_of_ble_eq_true rfl⟩) (xpreV (C := "EventGraphText$Line") (T := T_Line) (N := 2) hP hK hN rfl cW_N) rfl rfl hl.1 rfl (lv_room (Nat.le_of_ble_eq_true rfl)) d_Message_write_12 ⟨Nat.le_of_ble_eq_true rfl, Nat.le_of_ble_eq_true rfl⟩) hP hS (fun H locs hP hS => ?_)
  obtain ⟨u15, h15, hm⟩ := xb1_some hm
  refine xc_vw (Wd := cW dT ad) (va_runV (C := "EventGraphText$OctetRow") (As := [.int r12]) (rest := []) ⟨hx, hb, hml, hown, hts⟩ (c_OctetRow_put l dC dI dT ad hD j r12 u4 hj u15 h15) (cwV 1 hts (xgV wd_343 wd_344 wd_345 wd_8 wd_346) rfl rfl rfl pd_OctetRow_put ⟨Nat.le_of_ble_eq_true rfl, Nat.le_of_ble_eq_true rfl⟩) (xpreV (C := "EventGraphText$OctetRow") (T := T_OctetRow) (N := 2) hP hK hN rfl (cW_O hj)) rfl rfl hl.1 rfl (lv_room (Nat.le_of_ble_eq_true rfl)) d_Message_write_15 ⟨Nat.le_of_ble_eq_true rfl, Nat.le_of_ble_eq_true rfl⟩) hS (fun _ h => h) (fun H locs hP hS => ?_)
  refine lv_aload_n hx hb d_Message_write_18 rfl (lv_at hl 0 rfl) ?_
  refine lv_aload_n hx hb d_Message_write_19 rfl (lv_at hl 1 rfl) ?_
  refine lv_aload_n hx hb d_Message_write_20 rfl (lv_at hl 2 rfl) ?_
  obtain ⟨u21, h21, hm⟩ := xb1_some hm
  refine xc_vw (Wd := cW dT ad) (va_runV (C := "EventGraphText$Message") (As := [.ref (ad 1), .ref (ad 16)]) (rest := []) ⟨hx, hb, hml, hown, hts⟩ (c_Message_writeSites l dC dI dT ad hD j u15 hj u21 h21) (cwV 2 hts (xgV wd_351 wd_353 wds_7 wd_7 wd_354) rfl rfl rfl pd_Message_writeSites ⟨Nat.le_of_ble_eq_true rfl, Nat.le_of_ble_eq_true rfl⟩) (xpreV (C := "EventGraphText$Message") (T := T_Message) (N := 5) hP hK hN rfl (cW_M hj)) rfl rfl hl.1 rfl (lv_room (Nat.le_of_ble_eq_true rfl)) d_Message_write_21 ⟨Nat.le_of_ble_eq_true rfl, Nat.le_of_ble_eq_true rfl⟩) hS (fun _ h => h) (fun H locs hP hS => ?_)
  refine lv_aload_n hx hb d_Message_write_24 rfl (lv_at hl 0 rfl) ?_
  refine lv_aload_n hx hb d_Message_write_25 rfl (lv_at hl 1 rfl) ?_
  refine lv_aload_n hx hb d_Message_write_26 rfl (lv_at hl 2 rfl) ?_
  obtain ⟨u27, h27, hm⟩ := xb1_some hm
  refine xc_vw (Wd := cW dT ad) (va_runV (C := "EventGraphText$Message") (As := [.ref (ad 1), .ref (ad 16)]) (rest := []) ⟨hx, hb, hml, hown, hts⟩ (c_Message_writeKinds l dC dI dT ad hD j u21 hj u27 h27) (cwV 2 hts (xgV wd_364 wd_366 wds_8 wd_7 wd_367) rfl rfl rfl pd_Message_writeKinds ⟨Nat.le_of_ble_eq_true rfl, Nat.le_of_ble_eq_true rfl⟩) (xpreV (C := "EventGraphText$Message") (T := T_Message) (N := 5) hP hK hN rfl (cW_M hj)) rfl rfl hl.1 rfl (lv_room (Nat.le_of_ble_eq_true rfl)) d_Message_write_27 ⟨Nat.le_of_ble_eq_true rfl, Nat.le_of_ble_eq_true rfl⟩) hS (fun _ h => h) (fun H locs hP hS => ?_)
  refine lv_aload_n hx hb d_Message_write_30 rfl (lv_at hl 0 rfl) ?_
  refine lv_aload_n hx hb d_Message_write_31 rfl (lv_at hl 1 rfl) ?_
  refine lv_aload_n hx hb d_Message_write_32 rfl (lv_at hl 2 rfl) ?_
  obtain ⟨u33, h33, hm⟩ := xb1_some hm
  refine xc_vw (Wd := cW dT ad) (va_runV (C := "EventGraphText$Message") (As := [.ref (ad 1), .ref (ad 16)]) (rest := []) ⟨hx, hb, hml, hown, hts⟩ (c_Message_writeIndices l dC dI dT ad hD j u27 hj u33 h33) (cwV 2 hts (xgV wd_372 wd_374 wds_9 wd_7 wd_375) rfl rfl rfl pd_Message_writeIndices ⟨Nat.le_of_ble_eq_true rfl, Nat.le_of_ble_eq_true rfl⟩) (xpreV (C := "EventGraphText$Message") (T := T_Message) (N := 5) hP hK hN rfl (cW_M hj)) rfl rfl hl.1 rfl (lv_room (Nat.le_of_ble_eq_true rfl)) d_Message_write_33 ⟨Nat.le_of_ble_eq_true rfl, Nat.le_of_ble_eq_true rfl⟩) hS (fun _ h => h) (fun H locs hP hS => ?_)
  refine lv_aload_n hx hb d_Message_write_36 rfl (lv_at hl 0 rfl) ?_
  refine lv_aload_n hx hb d_Message_write_37 rfl (lv_at hl 1 rfl) ?_
  refine lv_aload_n hx hb d_Message_write_38 rfl (lv_at hl 2 rfl) ?_
  obtain ⟨u39, h39, hm⟩ := xb1_some hm
  refine xc_vw (Wd := cW dT ad) (va_runV (C := "EventGraphText$Message") (As := [.ref (ad 1), .ref (ad 16)]) (rest := []) ⟨hx, hb, hml, hown, hts⟩ (c_Message_writeCharacters l dC dI dT ad hD j u33 hj u39 h39) (cwV 2 hts (xgV wd_385 wd_387 wds_10 wd_7 wd_388) rfl rfl rfl pd_Message_writeCharacters ⟨Nat.le_of_ble_eq_true rfl, Nat.le_of_ble_eq_true rfl⟩) (xpreV (C := "EventGraphText$Message") (T := T_Message) (N := 5) hP hK hN rfl (cW_M hj)) rfl rfl hl.1 rfl (lv_room (Nat.le_of_ble_eq_true rfl)) d_Message_write_39 ⟨Nat.le_of_ble_eq_true rfl, Nat.le_of_ble_eq_true rfl⟩) hS (fun _ h => h) (fun H locs hP hS => ?_)
  refine lv_aload_n hx hb d_Message_write_42 rfl (lv_at hl 0 rfl) ?_
  refine lv_aload_n hx hb d_Message_write_43 rfl (lv_at hl 1 rfl) ?_
  refine lv_aload_n hx hb d_Message_write_44 rfl (lv_at hl 2 rfl) ?_
  obtain ⟨u45, h45, hm⟩ := xb1_some hm
  refine xc_vw (Wd := cW dT ad) (va_runV (C := "EventGraphText$Message") (As := [.ref (ad 1), .ref (ad 16)]) (rest := []) ⟨hx, hb, hml, hown, hts⟩ (c_Message_writeParents l dC dI dT ad hD j u39 hj u45 h45) (cwV 2 hts (xgV wd_390 wd_392 wds_11 wd_7 wd_393) rfl rfl rfl pd_Message_writeParents ⟨Nat.le_of_ble_eq_true rfl, Nat.le_of_ble_eq_true rfl⟩) (xpreV (C := "EventGraphText$Message") (T := T_Message) (N := 5) hP hK hN rfl (cW_M hj)) rfl rfl hl.1 rfl (lv_room (Nat.le_of_ble_eq_true rfl)) d_Message_write_45 ⟨Nat.le_of_ble_eq_true rfl, Nat.le_of_ble_eq_true rfl⟩) hS (fun _ h => h) (fun H locs hP hS => ?_)
  exact hret hm hP hS d_Message_write_48
set_option maxHeartbeats 4000000 in
set_option maxRecDepth 100000 in
theorem c_Text_send (l : Launch) (dC : Nat → ClassId) (dI : Nat → Nat → Nat) (dT : Nat → ClassId) (ad : Nat → Nat) (hD : ∀ u, va_D (xA ad 50) (cW dT ad u)) (a1 : Int32) (a2 : Int32) (u : xS) (out : Int32) (u1 : xS) (hm : m_Text_send a1 a2 u = some (out, u1)) : Met l y_Text_send (Cond.code y_Text_send b_Text_send 7 (some .int) :: xG) (xrm 6 141) (va_Pc [.ref (ad 0), .int a1, .int a2] (xR (dC, dI) xCl (xT dT) (cW dT ad u))) (va_Qi (fun r9 (u9 : xS) => r9 = out ∧ u9 = u1) (fun u9 t => va_P (dC, dI) xCl (cW dT ad u9) t.heap) (xA ad 50)) 0 0 (xA ad 50) := by
  refine xm_rwi (Wd := cW dT ad) (cc := b_Text_send) (maxL := 7) (by decide) rfl (Nat.le_of_ble_eq_true rfl) ?_
  intro p e s m args below meth c Q ls hx hb hml hts hown hK hN hP hl hret
  have hT : ∀ w ∈ xG, w.before args s = true := fun w h => hts w (List.mem_cons_of_mem _ h)
  have hown : s.vm.findClass "EventGraphText" = some m.cls := hown
  have hl : lv_has ls 7 [(0, .ref (ad 0)), (1, .int a1), (2, .int a2)] := hl
  have hS : va_S (xA ad 50) s.heap s.heap [] := va_S.rf
  unfold m_Text_send at hm
  refine lv_iload_n hx hb d_Text_send_0 rfl (lv_at hl 1 rfl) ?_
  refine lv_iload_n hx hb d_Text_send_1 rfl (lv_at hl 2 rfl) ?_
  obtain ⟨r2, h2, hm⟩ := xb1_some hm
  refine xc_i (va_runS (As := [.int a1, .int a2]) (rest := []) ⟨hx, hb, hml, hown, hts⟩ (c_Text_areTwoSites l a1 a2 r2 h2) (va_cwS 2 hts (xgS wd_303 wd_304 wd_1 wd_305) rfl rfl rfl pd_Text_areTwoSites.2 ⟨Nat.le_of_ble_eq_true rfl, Nat.le_of_ble_eq_true rfl⟩) xpreS0 rfl rfl hl.1 rfl (lv_room (Nat.le_of_ble_eq_true rfl)) d_Text_send_2 ⟨Nat.le_of_ble_eq_true rfl, Nat.le_of_ble_eq_true rfl⟩) hP hS (fun H locs hP hS => ?_)
  refine lv_if_ne (tgt := 12) hx hb d_Text_send_5 rfl (fun h => ?_) (fun h => ?_)
  · replace hm := xi_neg h hm
    refine lv_aload_n hx hb d_Text_send_12 rfl (lv_at hl 0 rfl) ?_
    refine va_get (D := (dC, dI)) (ci := 7) (v := .ref (ad 18)) (C := "EventGraphText") (T := T_Text) (N := 5) hx hb hT hin_Text hown hK hP 0 cW_E rfl 3 (by decide) (hT _ wd_187) (fun _ h9 => h9) rfl d_Text_send_13 ?_
    refine lv_iload_n hx hb d_Text_send_16 rfl (lv_at hl 1 rfl) ?_
    obtain ⟨g1, hm⟩ := xg_some hm
    refine va_aldq hx hb hK hP 18 3 rfl rfl g1 d_Text_send_17 ?_
    refine W.eq (g2 := F0 m 18 ls [.ref (ad (19 + 4 * (a1.toNatClampNeg)))]) rfl ?_
    refine lv_astore_n (lv' := [(3, .ref (ad (19 + 4 * (a1.toNatClampNeg)))), (0, .ref (ad 0)), (1, .int a1), (2, .int a2)]) hx hb d_Text_send_18 rfl hl (Nat.le_of_ble_eq_true rfl) rfl (fun ls hl => ?_)
    refine lv_aload_n hx hb d_Text_send_19 rfl (lv_at hl 0 rfl) ?_
    refine va_getN (D := (dC, dI)) (ci := 6) (v := .long (xs_l u (2 + (a1.toNatClampNeg)))) (C := "EventGraphText$Site") (T := T_Site) (N := 3) hx hb hT hin_Site hown hK hP (19 + 4 * (a1.toNatClampNeg)) (cW_S (xin_lt g1)) rfl 2 (by decide) (va_Nw.use rfl (nf_6 hN)) (fun _ h9 => h9) rfl d_Text_send_20 ?_
    refine lv_aload_n hx hb d_Text_send_23 rfl (lv_at hl 0 rfl) ?_
    refine va_getN (D := (dC, dI)) (ci := 6) (v := .ref (ad (20 + 4 * (a1.toNatClampNeg)))) (C := "EventGraphText$Site") (T := T_Site) (N := 3) hx hb hT hin_Site hown hK hP (19 + 4 * (a1.toNatClampNeg)) (cW_S (xin_lt g1)) rfl 0 (by decide) (va_Nw.use rfl (nf_4 hN)) (fun _ h9 => h9) rfl d_Text_send_24 ?_
    refine lv_iload_n hx hb d_Text_send_27 rfl (lv_at hl 3 rfl) ?_
    obtain ⟨g2, hm⟩ := xg_some hm
    refine va_lald hx hb hK hP (20 + 4 * (a1.toNatClampNeg)) 1 (cW_S_beliefs (xin_lt g1)) rfl g2 d_Text_send_28 ?_
    refine lv_ldc2 (v := (-1 : Int64)) hx hb hown (hT _ wd_306) d_Text_send_29 ?_
    refine lv_lxor hx hb d_Text_send_32 ?_
    refine lv_land hx hb d_Text_send_33 ?_
    refine lv_lstore (lv' := [(4, .long ((xs_l u (2 + (a1.toNatClampNeg))) &&& ((xs_L u (3 + (a1.toNatClampNeg)) a2.toNatClampNeg) ^^^ (-1 : Int64)))), (3, .ref (ad (19 + 4 * (a1.toNatClampNeg)))), (0, .ref (ad 0)), (1, .int a1), (2, .int a2)]) hx hb d_Text_send_34 hl (Nat.le_of_ble_eq_true rfl) rfl (fun ls hl => ?_)
    refine lv_aload_n hx hb d_Text_send_36 rfl (lv_at hl 2 rfl) ?_
    obtain ⟨r37, h37, hm⟩ := xb1_some hm
    refine xc_i (va_runV (C := "EventGraphText") (As := []) (rest := []) ⟨hx, hb, hml, hown, hts⟩ (c_Text_freeNumber l dC dI dT ad u r37 h37) (cwV 0 hts (xgV wd_307 wd_309 wds_12 wd_1 wd_310) rfl rfl rfl pd_Text_freeNumber ⟨Nat.le_of_ble_eq_true rfl, Nat.le_of_ble_eq_true rfl⟩) (xpreV (C := "EventGraphText") (T := T_Text) (N := 5) hP hK hN rfl cW_E) rfl rfl hl.1 rfl (lv_room (Nat.le_of_ble_eq_true rfl)) d_Text_send_37 ⟨Nat.le_of_ble_eq_true rfl, Nat.le_of_ble_eq_true rfl⟩) hP hS (fun H locs hP hS => ?_)
    refine lv_istore (lv' := [(6, .int r37), (4, .long ((xs_l u (2 + (a1.toNatClampNeg))) &&& ((xs_L u (3 + (a1.toNatClampNeg)) a2.toNatClampNeg) ^^^ (-1 : Int64)))), (3, .ref (ad (19 + 4 * (a1.toNatClampNeg)))), (0, .ref (ad 0)), (1, .int a1), (2, .int a2)]) hx hb d_Text_send_40 hl (Nat.le_of_ble_eq_true rfl) rfl (fun ls hl => ?_)
    refine lv_lload hx hb d_Text_send_42 (lv_at hl 1 rfl) ?_
    refine lv_lconst (v := (0 : Int64)) hx hb d_Text_send_44 (by decide) ?_
    refine xl_cmp_eq (tgt := 56) hx hb d_Text_send_45 d_Text_send_46 rfl (fun h => ?_) (fun h => ?_)
    · replace hm := xi_pos h hm
      refine lv_sipush (v := (-1000 : Int32)) hx hb d_Text_send_56 (by decide) ?_
      exact hret hm hP hS d_Text_send_59
    · replace hm := xi_neg h hm
      refine lv_iload hx hb d_Text_send_49 (lv_at hl 0 rfl) ?_
      refine lv_bipush (v := (6 : Int32)) hx hb d_Text_send_51 (by decide) ?_
      refine lv_icmp_ne (tgt := 60) hx hb d_Text_send_53 rfl (fun h => ?_) (fun h => ?_)
      · replace hm := xi_neg h hm
        refine lv_aload_n hx hb d_Text_send_60 rfl (lv_at hl 3 rfl) ?_
        refine va_get (D := (dC, dI)) (ci := 7) (v := .ref (ad 16)) (C := "EventGraphText") (T := T_Text) (N := 5) hx hb hT hin_Text hown hK hP 0 cW_E rfl 2 (by decide) (hT _ wd_186) (fun _ h9 => h9) rfl d_Text_send_61 ?_
        refine lv_aload_n hx hb d_Text_send_64 rfl (lv_at hl 3 rfl) ?_
        refine va_get (D := (dC, dI)) (ci := 7) (v := .ref (ad 1)) (C := "EventGraphText") (T := T_Text) (N := 5) hx hb hT hin_Text hown hK hP 0 cW_E rfl 0 (by decide) (hT _ wd_184) (fun _ h9 => h9) rfl d_Text_send_65 ?_
        refine lv_lload hx hb d_Text_send_68 (lv_at hl 1 rfl) ?_
        obtain ⟨u70, h70, hm⟩ := xb1_some hm
        refine xc_vw (Wd := cW dT ad) (va_runV (C := "EventGraphText$Line") (As := [.ref (ad 1), .long ((xs_l u (2 + (a1.toNatClampNeg))) &&& ((xs_L u (3 + (a1.toNatClampNeg)) a2.toNatClampNeg) ^^^ (-1 : Int64)))]) (rest := []) ⟨hx, hb, hml, hown, hts⟩ (c_Line_arrange l dC dI dT ad hD ((xs_l u (2 + (a1.toNatClampNeg))) &&& ((xs_L u (3 + (a1.toNatClampNeg)) a2.toNatClampNeg) ^^^ (-1 : Int64))) u u70 h70) (cwV 2 hts (xgV wd_311 wd_312 wd_313 wd_4 wd_314) rfl rfl rfl pd_Line_arrange ⟨Nat.le_of_ble_eq_true rfl, Nat.le_of_ble_eq_true rfl⟩) (xpreV (C := "EventGraphText$Line") (T := T_Line) (N := 2) hP hK hN rfl cW_N) rfl rfl hl.1 rfl (lv_room (Nat.le_of_ble_eq_true rfl)) d_Text_send_70 ⟨Nat.le_of_ble_eq_true rfl, Nat.le_of_ble_eq_true rfl⟩) hS (fun _ h => h) (fun H locs hP hS => ?_)
        refine lv_aload_n hx hb d_Text_send_73 rfl (lv_at hl 3 rfl) ?_
        refine va_get (D := (dC, dI)) (ci := 7) (v := .ref (ad 31)) (C := "EventGraphText") (T := T_Text) (N := 5) hx hb hT hin_Text hown hK hP 0 cW_E rfl 4 (by decide) (hT _ wd_188) (fun _ h9 => h9) rfl d_Text_send_74 ?_
        refine lv_iload hx hb d_Text_send_77 (lv_at hl 0 rfl) ?_
        obtain ⟨g3, hm⟩ := xg_some hm
        refine va_aldq hx hb hK hP 31 4 rfl rfl g3 d_Text_send_79 ?_
        refine W.eq (g2 := F0 m 80 ls [.ref (ad (32 + 3 * (r37.toNatClampNeg)))]) rfl ?_
        refine lv_iload_n hx hb d_Text_send_80 rfl (lv_at hl 4 rfl) ?_
        refine lv_iload_n hx hb d_Text_send_81 rfl (lv_at hl 5 rfl) ?_
        refine lv_lload hx hb d_Text_send_82 (lv_at hl 1 rfl) ?_
        obtain ⟨u84, h84, hm⟩ := xb1_some hm
        refine xc_vw (Wd := cW dT ad) (va_runV (C := "EventGraphText$Message") (As := [.int a1, .int a2, .long ((xs_l u (2 + (a1.toNatClampNeg))) &&& ((xs_L u (3 + (a1.toNatClampNeg)) a2.toNatClampNeg) ^^^ (-1 : Int64)))]) (rest := []) ⟨hx, hb, hml, hown, hts⟩ (c_Message_start l dC dI dT ad hD (r37.toNatClampNeg) a1 a2 ((xs_l u (2 + (a1.toNatClampNeg))) &&& ((xs_L u (3 + (a1.toNatClampNeg)) a2.toNatClampNeg) ^^^ (-1 : Int64))) u70 (xin_lt g3) u84 h84) (cwV 3 hts (xgV wd_327 wd_328 wd_329 wd_7 wd_330) rfl rfl rfl pd_Message_start ⟨Nat.le_of_ble_eq_true rfl, Nat.le_of_ble_eq_true rfl⟩) (xpreV (C := "EventGraphText$Message") (T := T_Message) (N := 5) hP hK hN rfl (cW_M (xin_lt g3))) rfl rfl hl.1 rfl (lv_room (Nat.le_of_ble_eq_true rfl)) d_Text_send_84 ⟨Nat.le_of_ble_eq_true rfl, Nat.le_of_ble_eq_true rfl⟩) hS (fun _ h => h) (fun H locs hP hS => ?_)
        refine lv_aload_n hx hb d_Text_send_87 rfl (lv_at hl 3 rfl) ?_
        refine va_get (D := (dC, dI)) (ci := 7) (v := .ref (ad 31)) (C := "EventGraphText") (T := T_Text) (N := 5) hx hb hT hin_Text hown hK hP 0 cW_E rfl 4 (by decide) (hT _ wd_188) (fun _ h9 => h9) rfl d_Text_send_88 ?_
        refine lv_iload hx hb d_Text_send_91 (lv_at hl 0 rfl) ?_
        refine va_aldq hx hb hK hP 31 4 rfl rfl g3 d_Text_send_93 ?_
        refine W.eq (g2 := F0 m 94 ls [.ref (ad (32 + 3 * (r37.toNatClampNeg)))]) rfl ?_
        refine lv_aload_n hx hb d_Text_send_94 rfl (lv_at hl 3 rfl) ?_
        refine va_get (D := (dC, dI)) (ci := 7) (v := .ref (ad 1)) (C := "EventGraphText") (T := T_Text) (N := 5) hx hb hT hin_Text hown hK hP 0 cW_E rfl 0 (by decide) (hT _ wd_184) (fun _ h9 => h9) rfl d_Text_send_95 ?_
        refine lv_aload_n hx hb d_Text_send_98 rfl (lv_at hl 3 rfl) ?_
        refine va_get (D := (dC, dI)) (ci := 7) (v := .ref (ad 16)) (C := "EventGraphText") (T := T_Text) (N := 5) hx hb hT hin_Text hown hK hP 0 cW_E rfl 2 (by decide) (hT _ wd_186) (fun _ h9 => h9) rfl d_Text_send_99 ?_
        obtain ⟨u102, h102, hm⟩ := xb1_some hm
        refine xc_vw (Wd := cW dT ad) (va_runV (C := "EventGraphText$Message") (As := [.ref (ad 1), .ref (ad 16)]) (rest := []) ⟨hx, hb, hml, hown, hts⟩ (c_Message_write l dC dI dT ad hD (r37.toNatClampNeg) u84 (xin_lt g3) u102 h102) (cwV 2 hts (xgV wd_331 wd_332 wd_333 wd_7 wd_334) rfl rfl rfl pd_Message_write ⟨Nat.le_of_ble_eq_true rfl, Nat.le_of_ble_eq_true rfl⟩) (xpreV (C := "EventGraphText$Message") (T := T_Message) (N := 5) hP hK hN rfl (cW_M (xin_lt g3))) rfl rfl hl.1 rfl (lv_room (Nat.le_of_ble_eq_true rfl)) d_Text_send_102 ⟨Nat.le_of_ble_eq_true rfl, Nat.le_of_ble_eq_true rfl⟩) hS (fun _ h => h) (fun H locs hP hS => ?_)
        refine lv_aload_n hx hb d_Text_send_105 rfl (lv_at hl 2 rfl) ?_
        refine va_getN (D := (dC, dI)) (ci := 6) (v := .ref (ad (20 + 4 * (a1.toNatClampNeg)))) (C := "EventGraphText$Site") (T := T_Site) (N := 3) hx hb hT hin_Site hown hK hP (19 + 4 * (a1.toNatClampNeg)) (cW_S (xin_lt g1)) rfl 0 (by decide) (va_Nw.use rfl (nf_4 hN)) (fun _ h9 => h9) rfl d_Text_send_106 ?_
        refine lv_iload_n hx hb d_Text_send_109 rfl (lv_at hl 5 rfl) ?_
        refine lv_aload_n hx hb d_Text_send_110 rfl (lv_at hl 2 rfl) ?_
        refine va_getN (D := (dC, dI)) (ci := 6) (v := .long (xs_l u102 (2 + (a1.toNatClampNeg)))) (C := "EventGraphText$Site") (T := T_Site) (N := 3) hx hb hT hin_Site hown hK hP (19 + 4 * (a1.toNatClampNeg)) (cW_S (xin_lt g1)) rfl 2 (by decide) (va_Nw.use rfl (nf_6 hN)) (fun _ h9 => h9) rfl d_Text_send_111 ?_
        obtain ⟨w114, hw114, hm⟩ := xlt_some hm
        refine va_last hx hb hK hP (hD _) hS (20 + 4 * (a1.toNatClampNeg)) 1 (cW_S_beliefs (xin_lt g1)) rfl g2 d_Text_send_114 (fun H locs hP _ hS => ?_)
        replace hP : va_P (dC, dI) xCl (cW dT ad w114) H := xp_conv ((cW_s_S_beliefs (xin_lt g1)).trans (congrArg (cW dT ad) hw114.symm)) hP
        refine lv_iload hx hb d_Text_send_115 (lv_at hl 0 rfl) ?_
        exact hret hm hP hS d_Text_send_117
      · replace hm := xi_pos h hm
        refine lv_sipush (v := (-1000 : Int32)) hx hb d_Text_send_56 (by decide) ?_
        exact hret hm hP hS d_Text_send_59
  · replace hm := xi_pos h hm
    refine lv_sipush (v := (-1000 : Int32)) hx hb d_Text_send_8 (by decide) ?_
    exact hret hm hP hS d_Text_send_11
set_option maxHeartbeats 4000000 in
set_option maxRecDepth 100000 in
theorem c_Text_isUnderWay (l : Launch) (dC : Nat → ClassId) (dI : Nat → Nat → Nat) (dT : Nat → ClassId) (ad : Nat → Nat) (a1 : Int32) (u : xS) (out : Int32) (hm : m_Text_isUnderWay a1 u = some out) : Met l y_Text_isUnderWay (Cond.code y_Text_isUnderWay b_Text_isUnderWay 2 (some .boolean) :: xG) (xrm 0 0) (va_Pc [.ref (ad 0), .int a1] (xR (dC, dI) xCl (xT dT) (cW dT ad u))) (va_Qi (fun r9 (_ : Unit) => r9 = out) (fun _ _ => True) xN) 0 0 xN := by
  refine xm_roz (cc := b_Text_isUnderWay) (maxL := 2) (by decide) rfl (Nat.le_of_ble_eq_true rfl) ?_
  intro p e s m args below meth c Q ls hx hb hml hts hown hK hN hP hl hret
  have hT : ∀ w ∈ xG, w.before args s = true := fun w h => hts w (List.mem_cons_of_mem _ h)
  have hown : s.vm.findClass "EventGraphText" = some m.cls := hown
  have hl : lv_has ls 2 [(0, .ref (ad 0)), (1, .int a1)] := hl
  have hS : va_S xN s.heap s.heap [] := va_S.rf
  unfold m_Text_isUnderWay at hm
  refine lv_iload_n hx hb d_Text_isUnderWay_0 rfl (lv_at hl 1 rfl) ?_
  refine lv_if_lt (tgt := 26) hx hb d_Text_isUnderWay_1 rfl (fun h => ?_) (fun h => ?_)
  · replace hm := xi_pos h hm
    refine lv_iconst (v := (0 : Int32)) hx hb d_Text_isUnderWay_26 (by decide) ?_
    exact hret hm rfl hS d_Text_isUnderWay_27
  · replace hm := xi_neg h hm
    refine lv_iload_n hx hb d_Text_isUnderWay_4 rfl (lv_at hl 1 rfl) ?_
    refine lv_bipush (v := (6 : Int32)) hx hb d_Text_isUnderWay_5 (by decide) ?_
    refine lv_icmp_ge (tgt := 26) hx hb d_Text_isUnderWay_7 rfl (fun h => ?_) (fun h => ?_)
    · replace hm := xi_pos h hm
      refine lv_iconst (v := (0 : Int32)) hx hb d_Text_isUnderWay_26 (by decide) ?_
      exact hret hm rfl hS d_Text_isUnderWay_27
    · replace hm := xi_neg h hm
      refine lv_aload_n hx hb d_Text_isUnderWay_10 rfl (lv_at hl 0 rfl) ?_
      refine va_get (D := (dC, dI)) (ci := 7) (v := .ref (ad 31)) (C := "EventGraphText") (T := T_Text) (N := 5) hx hb hT hin_Text hown hK hP 0 cW_E rfl 4 (by decide) (hT _ wd_188) (fun _ h9 => h9) rfl d_Text_isUnderWay_11 ?_
      refine lv_iload_n hx hb d_Text_isUnderWay_14 rfl (lv_at hl 1 rfl) ?_
      obtain ⟨g1, hm⟩ := xg_some hm
      refine va_aldq hx hb hK hP 31 4 rfl rfl g1 d_Text_isUnderWay_15 ?_
      refine W.eq (g2 := F0 m 16 ls [.ref (ad (32 + 3 * (a1.toNatClampNeg)))]) rfl ?_
      refine va_getN (D := (dC, dI)) (ci := 4) (v := .int (xs_i u (12 + (a1.toNatClampNeg)))) (C := "EventGraphText$Message") (T := T_Message) (N := 5) hx hb hT hin_Message hown hK hP (32 + 3 * (a1.toNatClampNeg)) (cW_M (xin_lt g1)) rfl 1 (by decide) (va_Nw.use rfl (nf_8 hN)) (fun _ h9 => h9) rfl d_Text_isUnderWay_16 ?_
      refine lv_if_eq (tgt := 26) hx hb d_Text_isUnderWay_19 rfl (fun h => ?_) (fun h => ?_)
      · replace hm := xi_pos h hm
        refine lv_iconst (v := (0 : Int32)) hx hb d_Text_isUnderWay_26 (by decide) ?_
        exact hret hm rfl hS d_Text_isUnderWay_27
      · replace hm := xi_neg h hm
        refine lv_iconst (v := (1 : Int32)) hx hb d_Text_isUnderWay_22 (by decide) ?_
        refine lv_goto (tgt := 27) hx hb d_Text_isUnderWay_23 rfl ?_
        exact hret hm rfl hS d_Text_isUnderWay_27
set_option maxHeartbeats 4000000 in
set_option maxRecDepth 100000 in
theorem c_History_withAncestors (l : Launch) (dC : Nat → ClassId) (dI : Nat → Nat → Nat) (dT : Nat → ClassId) (ad : Nat → Nat) (a1 : Int64) (u : xS) (out : Int64) (hm : m_History_withAncestors a1 u = some out) : Met l y_History_withAncestors (Cond.code y_History_withAncestors b_History_withAncestors 6 (some .long) :: xG) (xrm 2 42) (va_Pc [.ref (ad 1), .long a1] (xR (dC, dI) xCl (xT dT) (cW dT ad u))) (va_Ql (fun r9 (_ : Unit) => r9 = out) (fun _ _ => True) xN) 0 0 xN := by
  refine xm_roj (cc := b_History_withAncestors) (maxL := 6) (by decide) rfl (Nat.le_of_ble_eq_true rfl) ?_
  intro p e s m args below meth c Q ls hx hb hml hts hown hK hN hP hl hret
  have hT : ∀ w ∈ xG, w.before args s = true := fun w h => hts w (List.mem_cons_of_mem _ h)
  have hown : s.vm.findClass "EventGraphText$History" = some m.cls := hown
  have hl : lv_has ls 6 [(0, .ref (ad 1)), (1, .long a1)] := hl
  have hS : va_S xN s.heap s.heap [] := va_S.rf
  have hs5 : ∀ (k5 : Int64 → Int64 → Int32 → xS → Option Int64) (hk5 : ∀ (b1 : Int64) (b3 : Int64) (b5 : Int32) (H : Heap) (locs : List Loc) (ls : Array Slot), lv_has ls 6 [(0, .ref (ad 1)), (1, .long b1), (3, .long b3), (5, .int b5)] → va_P (dC, dI) xCl (cW dT ad u) H → va_S xN s.heap H locs → k5 b1 b3 b5 u = some out → W p l e (xrm 2 42) s m args below meth c H locs 0 0 Q (F0 m 5 ls [])), ∀ (b1 : Int64) (b3 : Int64) (b5 : Int32) (H : Heap) (locs : List Loc) (ls : Array Slot), lv_has ls 6 [(0, .ref (ad 1)), (1, .long b1), (3, .long b3), (5, .int b5)] → va_P (dC, dI) xCl (cW dT ad u) H → va_S xN s.heap H locs → m_History_withAncestors_s5 k5 b1 b3 b5 u = some out → W p l e (xrm 2 42) s m args below meth c H locs 0 0 Q (F0 m 5 ls []) := by
    intro k5 hk5 b1 b3 b5 H locs ls hl hP hS hm
    unfold m_History_withAncestors_s5 at hm
    refine lv_iload hx hb d_History_withAncestors_5 (lv_at hl 3 rfl) ?_
    refine lv_aload_n hx hb d_History_withAncestors_7 rfl (lv_at hl 0 rfl) ?_
    refine va_get (D := (dC, dI)) (ci := 1) (v := .int (xs_i u 0)) (C := "EventGraphText$History") (T := T_History) (N := 9) hx hb hT hin_History hown hK hP 1 cW_H rfl 8 (by decide) (hT _ wd_33) (fun _ h9 => h9) rfl d_History_withAncestors_8 ?_
    refine lv_icmp_ge (tgt := 39) hx hb d_History_withAncestors_11 rfl (fun h => ?_) (fun h => ?_)
    · replace hm := xi_pos h hm
      refine lv_lload_n hx hb d_History_withAncestors_39 rfl (lv_at hl 2 rfl) ?_
      exact hret hm hS d_History_withAncestors_40
    · replace hm := xi_neg h hm
      refine lv_lload_n hx hb d_History_withAncestors_14 rfl (lv_at hl 1 rfl) ?_
      refine lv_iload hx hb d_History_withAncestors_15 (lv_at hl 3 rfl) ?_
      obtain ⟨r17, h17, hm⟩ := xb1_some hm
      refine xc_i (va_runSN (As := [.long b1, .int b5]) (rest := []) ⟨hx, hb, hml, hown, hts⟩ (c_Text_has l b1 b5 r17 h17) ⟨va_cnB 2 hts (xg0 wd_217) rfl rfl rfl (nmm_9 hN) (hT _ wd_1) pd_Text_has.2 ⟨Nat.le_of_ble_eq_true rfl, Nat.le_of_ble_eq_true rfl⟩, hT _ wd_216, trivial⟩ xpreS0 rfl rfl hl.1 rfl (lv_room (Nat.le_of_ble_eq_true rfl)) d_History_withAncestors_17 ⟨Nat.le_of_ble_eq_true rfl, Nat.le_of_ble_eq_true rfl⟩) hP hS (fun H locs hP hS => ?_)
      refine lv_if_eq (tgt := 33) hx hb d_History_withAncestors_20 rfl (fun h => ?_) (fun h => ?_)
      · replace hm := xi_pos h hm
        refine lv_iinc (k := 3) (v := (b5 + (1 : Int32))) (lv' := [(5, .int (b5 + (1 : Int32))), (0, .ref (ad 1)), (1, .long b1), (3, .long b3)]) hx hb d_History_withAncestors_33 hl rfl rfl (Nat.le_of_ble_eq_true rfl) rfl (fun ls hl => ?_)
        refine lv_goto (tgt := 5) hx hb d_History_withAncestors_36 rfl ?_
        exact hk5 b1 b3 (b5 + (1 : Int32)) _ _ _ (lv_sub hl [1, 2, 3, 0] rfl) hP hS hm
      · replace hm := xi_neg h hm
        refine lv_lload_n hx hb d_History_withAncestors_23 rfl (lv_at hl 2 rfl) ?_
        refine lv_aload_n hx hb d_History_withAncestors_24 rfl (lv_at hl 0 rfl) ?_
        refine va_get (D := (dC, dI)) (ci := 1) (v := .ref (ad 7)) (C := "EventGraphText$History") (T := T_History) (N := 9) hx hb hT hin_History hown hK hP 1 cW_H rfl 5 (by decide) (hT _ wd_30) (fun _ h9 => h9) rfl d_History_withAncestors_25 ?_
        refine lv_iload hx hb d_History_withAncestors_28 (lv_at hl 3 rfl) ?_
        obtain ⟨g1, hm⟩ := xg_some hm
        refine va_lald hx hb hK hP 7 1 cW_H_ancestors rfl g1 d_History_withAncestors_30 ?_
        refine lv_lor hx hb d_History_withAncestors_31 ?_
        refine lv_lstore_n (lv' := [(3, .long (b3 ||| (xs_L u 1 b5.toNatClampNeg))), (0, .ref (ad 1)), (1, .long b1), (5, .int b5)]) hx hb d_History_withAncestors_32 rfl hl (Nat.le_of_ble_eq_true rfl) rfl (fun ls hl => ?_)
        refine lv_iinc (k := 3) (v := (b5 + (1 : Int32))) (lv' := [(5, .int (b5 + (1 : Int32))), (3, .long (b3 ||| (xs_L u 1 b5.toNatClampNeg))), (0, .ref (ad 1)), (1, .long b1)]) hx hb d_History_withAncestors_33 hl rfl rfl (Nat.le_of_ble_eq_true rfl) rfl (fun ls hl => ?_)
        refine lv_goto (tgt := 5) hx hb d_History_withAncestors_36 rfl ?_
        exact hk5 b1 (b3 ||| (xs_L u 1 b5.toNatClampNeg)) (b5 + (1 : Int32)) _ _ _ (lv_sub hl [2, 3, 1, 0] rfl) hP hS hm
  have hl5 : ∀ (fu : Nat), ∀ (b1 : Int64) (b3 : Int64) (b5 : Int32) (H : Heap) (locs : List Loc) (ls : Array Slot), lv_has ls 6 [(0, .ref (ad 1)), (1, .long b1), (3, .long b3), (5, .int b5)] → va_P (dC, dI) xCl (cW dT ad u) H → va_S xN s.heap H locs → m_History_withAncestors_l5 fu b1 b3 b5 u = some out → W p l e (xrm 2 42) s m args below meth c H locs 0 0 Q (F0 m 5 ls []) := by
    intro fu
    induction fu with
    | zero => intro b1 b3 b5 H locs ls hl hP hS hm; exact absurd hm (fun z => by cases z)
    | succ n ih => intro b1 b3 b5 H locs ls hl hP hS hm; exact hs5 (m_History_withAncestors_l5 n) ih b1 b3 b5 H locs ls hl hP hS hm
  unfold m_History_withAncestors at hm
  refine lv_lload_n hx hb d_History_withAncestors_0 rfl (lv_at hl 1 rfl) ?_
  refine lv_lstore_n (lv' := [(3, .long a1), (0, .ref (ad 1)), (1, .long a1)]) hx hb d_History_withAncestors_1 rfl hl (Nat.le_of_ble_eq_true rfl) rfl (fun ls hl => ?_)
  refine lv_iconst (v := (0 : Int32)) hx hb d_History_withAncestors_2 (by decide) ?_
  refine lv_istore (lv' := [(5, .int (0 : Int32)), (3, .long a1), (0, .ref (ad 1)), (1, .long a1)]) hx hb d_History_withAncestors_3 hl (Nat.le_of_ble_eq_true rfl) rfl (fun ls hl => ?_)
  exact hl5 xFU a1 a1 (0 : Int32) _ _ _ (lv_sub hl [2, 3, 1, 0] rfl) hP hS hm
set_option maxHeartbeats 4000000 in
set_option maxRecDepth 100000 in
theorem c_History_upTo (l : Launch) (dC : Nat → ClassId) (dI : Nat → Nat → Nat) (dT : Nat → ClassId) (ad : Nat → Nat) (a1 : Int32) (u : xS) (out : Int64) (hm : m_History_upTo a1 u = some out) : Met l y_History_upTo (Cond.code y_History_upTo b_History_upTo 2 (some .long) :: xG) (xrm 1 20) (va_Pc [.ref (ad 1), .int a1] (xR (dC, dI) xCl (xT dT) (cW dT ad u))) (va_Ql (fun r9 (_ : Unit) => r9 = out) (fun _ _ => True) xN) 0 0 xN := by
  refine xm_roj (cc := b_History_upTo) (maxL := 2) (by decide) rfl (Nat.le_of_ble_eq_true rfl) ?_
  intro p e s m args below meth c Q ls hx hb hml hts hown hK hN hP hl hret
  have hT : ∀ w ∈ xG, w.before args s = true := fun w h => hts w (List.mem_cons_of_mem _ h)
  have hown : s.vm.findClass "EventGraphText$History" = some m.cls := hown
  have hl : lv_has ls 2 [(0, .ref (ad 1)), (1, .int a1)] := hl
  have hS : va_S xN s.heap s.heap [] := va_S.rf
  unfold m_History_upTo at hm
  refine lv_iload_n hx hb d_History_upTo_0 rfl (lv_at hl 1 rfl) ?_
  refine lv_iconst (v := (-1 : Int32)) hx hb d_History_upTo_1 (by decide) ?_
  refine lv_icmp_ne (tgt := 9) hx hb d_History_upTo_2 rfl (fun h => ?_) (fun h => ?_)
  · replace hm := xi_neg h hm
    refine lv_aload_n hx hb d_History_upTo_9 rfl (lv_at hl 0 rfl) ?_
    refine va_get (D := (dC, dI)) (ci := 1) (v := .ref (ad 7)) (C := "EventGraphText$History") (T := T_History) (N := 9) hx hb hT hin_History hown hK hP 1 cW_H rfl 5 (by decide) (hT _ wd_30) (fun _ h9 => h9) rfl d_History_upTo_10 ?_
    refine lv_iload_n hx hb d_History_upTo_13 rfl (lv_at hl 1 rfl) ?_
    obtain ⟨g1, hm⟩ := xg_some hm
    refine va_lald hx hb hK hP 7 1 cW_H_ancestors rfl g1 d_History_upTo_14 ?_
    refine lv_iload_n hx hb d_History_upTo_15 rfl (lv_at hl 1 rfl) ?_
    obtain ⟨r16, h16, hm⟩ := xb1_some hm
    refine xc_l (va_runSN (As := [.int a1]) (rest := [.long (xs_L u 1 a1.toNatClampNeg)]) ⟨hx, hb, hml, hown, hts⟩ (c_Text_bit l a1 r16 h16) ⟨va_cnB 1 hts (xg0 wd_220) rfl rfl rfl (nmm_10 hN) (hT _ wd_1) pd_Text_bit.2 ⟨Nat.le_of_ble_eq_true rfl, Nat.le_of_ble_eq_true rfl⟩, hT _ wd_219, trivial⟩ xpreS0 rfl rfl hl.1 rfl (lv_room (Nat.le_of_ble_eq_true rfl)) d_History_upTo_16 ⟨Nat.le_of_ble_eq_true rfl, Nat.le_of_ble_eq_true rfl⟩) hP hS (fun H locs hP hS => ?_)
    refine lv_lor hx hb d_History_upTo_19 ?_
    exact hret hm hS d_History_upTo_20
  · replace hm := xi_pos h hm
    refine lv_lconst (v := (0 : Int64)) hx hb d_History_upTo_5 (by decide) ?_
    refine lv_goto (tgt := 20) hx hb d_History_upTo_6 rfl ?_
    exact hret hm hS d_History_upTo_20
set_option maxHeartbeats 4000000 in
set_option maxRecDepth 100000 in
theorem c_History_descendantsOf (l : Launch) (dC : Nat → ClassId) (dI : Nat → Nat → Nat) (dT : Nat → ClassId) (ad : Nat → Nat) (a1 : Int32) (a2 : Int64) (u : xS) (out : Int64) (hm : m_History_descendantsOf a1 a2 u = some out) : Met l y_History_descendantsOf (Cond.code y_History_descendantsOf b_History_descendantsOf 7 (some .long) :: xG) (xrm 2 42) (va_Pc [.ref (ad 1), .int a1, .long a2] (xR (dC, dI) xCl (xT dT) (cW dT ad u))) (va_Ql (fun r9 (_ : Unit) => r9 = out) (fun _ _ => True) xN) 0 0 xN := by
  refine xm_roj (cc := b_History_descendantsOf) (maxL := 7) (by decide) rfl (Nat.le_of_ble_eq_true rfl) ?_
  intro p e s m args below meth c Q ls hx hb hml hts hown hK hN hP hl hret
  have hT : ∀ w ∈ xG, w.before args s = true := fun w h => hts w (List.mem_cons_of_mem _ h)
  have hown : s.vm.findClass "EventGraphText$History" = some m.cls := hown
  have hl : lv_has ls 7 [(0, .ref (ad 1)), (1, .int a1), (2, .long a2)] := hl
  have hS : va_S xN s.heap s.heap [] := va_S.rf
  have hs8 : ∀ (k8 : Int32 → Int64 → Int64 → Int32 → xS → Option Int64) (hk8 : ∀ (b1 : Int32) (b2 : Int64) (b4 : Int64) (b6 : Int32) (H : Heap) (locs : List Loc) (ls : Array Slot), lv_has ls 7 [(0, .ref (ad 1)), (1, .int b1), (2, .long b2), (4, .long b4), (6, .int b6)] → va_P (dC, dI) xCl (cW dT ad u) H → va_S xN s.heap H locs → k8 b1 b2 b4 b6 u = some out → W p l e (xrm 2 42) s m args below meth c H locs 0 0 Q (F0 m 8 ls [])), ∀ (b1 : Int32) (b2 : Int64) (b4 : Int64) (b6 : Int32) (H : Heap) (locs : List Loc) (ls : Array Slot), lv_has ls 7 [(0, .ref (ad 1)), (1, .int b1), (2, .long b2), (4, .long b4), (6, .int b6)] → va_P (dC, dI) xCl (cW dT ad u) H → va_S xN s.heap H locs → m_History_descendantsOf_s8 k8 b1 b2 b4 b6 u = some out → W p l e (xrm 2 42) s m args below meth c H locs 0 0 Q (F0 m 8 ls []) := by
    intro k8 hk8 b1 b2 b4 b6 H locs ls hl hP hS hm
    unfold m_History_descendantsOf_s8 at hm
    refine lv_iload hx hb d_History_descendantsOf_8 (lv_at hl 4 rfl) ?_
    refine lv_aload_n hx hb d_History_descendantsOf_10 rfl (lv_at hl 0 rfl) ?_
    refine va_get (D := (dC, dI)) (ci := 1) (v := .int (xs_i u 0)) (C := "EventGraphText$History") (T := T_History) (N := 9) hx hb hT hin_History hown hK hP 1 cW_H rfl 8 (by decide) (hT _ wd_33) (fun _ h9 => h9) rfl d_History_descendantsOf_11 ?_
    refine lv_icmp_ge (tgt := 56) hx hb d_History_descendantsOf_14 rfl (fun h => ?_) (fun h => ?_)
    · replace hm := xi_pos h hm
      refine lv_lload hx hb d_History_descendantsOf_56 (lv_at hl 3 rfl) ?_
      exact hret hm hS d_History_descendantsOf_58
    · replace hm := xi_neg h hm
      refine lv_lload_n hx hb d_History_descendantsOf_17 rfl (lv_at hl 2 rfl) ?_
      refine lv_iload hx hb d_History_descendantsOf_18 (lv_at hl 4 rfl) ?_
      obtain ⟨r20, h20, hm⟩ := xb1_some hm
      refine xc_i (va_runSN (As := [.long b2, .int b6]) (rest := []) ⟨hx, hb, hml, hown, hts⟩ (c_Text_has l b2 b6 r20 h20) ⟨va_cnB 2 hts (xg0 wd_217) rfl rfl rfl (nmm_9 hN) (hT _ wd_1) pd_Text_has.2 ⟨Nat.le_of_ble_eq_true rfl, Nat.le_of_ble_eq_true rfl⟩, hT _ wd_216, trivial⟩ xpreS0 rfl rfl hl.1 rfl (lv_room (Nat.le_of_ble_eq_true rfl)) d_History_descendantsOf_20 ⟨Nat.le_of_ble_eq_true rfl, Nat.le_of_ble_eq_true rfl⟩) hP hS (fun H locs hP hS => ?_)
      refine lv_if_eq (tgt := 50) hx hb d_History_descendantsOf_23 rfl (fun h => ?_) (fun h => ?_)
      · replace hm := xi_pos h hm
        refine lv_iinc (k := 4) (v := (b6 + (1 : Int32))) (lv' := [(6, .int (b6 + (1 : Int32))), (0, .ref (ad 1)), (1, .int b1), (2, .long b2), (4, .long b4)]) hx hb d_History_descendantsOf_50 hl rfl rfl (Nat.le_of_ble_eq_true rfl) rfl (fun ls hl => ?_)
        refine lv_goto (tgt := 8) hx hb d_History_descendantsOf_53 rfl ?_
        exact hk8 b1 b2 b4 (b6 + (1 : Int32)) _ _ _ (lv_sub hl [1, 2, 3, 4, 0] rfl) hP hS hm
      · replace hm := xi_neg h hm
        refine lv_aload_n hx hb d_History_descendantsOf_26 rfl (lv_at hl 0 rfl) ?_
        refine va_get (D := (dC, dI)) (ci := 1) (v := .ref (ad 7)) (C := "EventGraphText$History") (T := T_History) (N := 9) hx hb hT hin_History hown hK hP 1 cW_H rfl 5 (by decide) (hT _ wd_30) (fun _ h9 => h9) rfl d_History_descendantsOf_27 ?_
        refine lv_iload hx hb d_History_descendantsOf_30 (lv_at hl 4 rfl) ?_
        obtain ⟨g1, hm⟩ := xg_some hm
        refine va_lald hx hb hK hP 7 1 cW_H_ancestors rfl g1 d_History_descendantsOf_32 ?_
        refine lv_iload_n hx hb d_History_descendantsOf_33 rfl (lv_at hl 1 rfl) ?_
        obtain ⟨r34, h34, hm⟩ := xb1_some hm
        refine xc_i (va_runSN (As := [.long (xs_L u 1 b6.toNatClampNeg), .int b1]) (rest := []) ⟨hx, hb, hml, hown, hts⟩ (c_Text_has l (xs_L u 1 b6.toNatClampNeg) b1 r34 h34) ⟨va_cnB 2 hts (xg0 wd_217) rfl rfl rfl (nmm_9 hN) (hT _ wd_1) pd_Text_has.2 ⟨Nat.le_of_ble_eq_true rfl, Nat.le_of_ble_eq_true rfl⟩, hT _ wd_216, trivial⟩ xpreS0 rfl rfl hl.1 rfl (lv_room (Nat.le_of_ble_eq_true rfl)) d_History_descendantsOf_34 ⟨Nat.le_of_ble_eq_true rfl, Nat.le_of_ble_eq_true rfl⟩) hP hS (fun H locs hP hS => ?_)
        refine lv_if_eq (tgt := 50) hx hb d_History_descendantsOf_37 rfl (fun h => ?_) (fun h => ?_)
        · replace hm := xi_pos h hm
          refine lv_iinc (k := 4) (v := (b6 + (1 : Int32))) (lv' := [(6, .int (b6 + (1 : Int32))), (0, .ref (ad 1)), (1, .int b1), (2, .long b2), (4, .long b4)]) hx hb d_History_descendantsOf_50 hl rfl rfl (Nat.le_of_ble_eq_true rfl) rfl (fun ls hl => ?_)
          refine lv_goto (tgt := 8) hx hb d_History_descendantsOf_53 rfl ?_
          exact hk8 b1 b2 b4 (b6 + (1 : Int32)) _ _ _ (lv_sub hl [1, 2, 3, 4, 0] rfl) hP hS hm
        · replace hm := xi_neg h hm
          refine lv_lload hx hb d_History_descendantsOf_40 (lv_at hl 3 rfl) ?_
          refine lv_iload hx hb d_History_descendantsOf_42 (lv_at hl 4 rfl) ?_
          obtain ⟨r44, h44, hm⟩ := xb1_some hm
          refine xc_l (va_runSN (As := [.int b6]) (rest := [.long b4]) ⟨hx, hb, hml, hown, hts⟩ (c_Text_bit l b6 r44 h44) ⟨va_cnB 1 hts (xg0 wd_220) rfl rfl rfl (nmm_10 hN) (hT _ wd_1) pd_Text_bit.2 ⟨Nat.le_of_ble_eq_true rfl, Nat.le_of_ble_eq_true rfl⟩, hT _ wd_219, trivial⟩ xpreS0 rfl rfl hl.1 rfl (lv_room (Nat.le_of_ble_eq_true rfl)) d_History_descendantsOf_44 ⟨Nat.le_of_ble_eq_true rfl, Nat.le_of_ble_eq_true rfl⟩) hP hS (fun H locs hP hS => ?_)
          refine lv_lor hx hb d_History_descendantsOf_47 ?_
          refine lv_lstore (lv' := [(4, .long (b4 ||| r44)), (0, .ref (ad 1)), (1, .int b1), (2, .long b2), (6, .int b6)]) hx hb d_History_descendantsOf_48 hl (Nat.le_of_ble_eq_true rfl) rfl (fun ls hl => ?_)
          refine lv_iinc (k := 4) (v := (b6 + (1 : Int32))) (lv' := [(6, .int (b6 + (1 : Int32))), (4, .long (b4 ||| r44)), (0, .ref (ad 1)), (1, .int b1), (2, .long b2)]) hx hb d_History_descendantsOf_50 hl rfl rfl (Nat.le_of_ble_eq_true rfl) rfl (fun ls hl => ?_)
          refine lv_goto (tgt := 8) hx hb d_History_descendantsOf_53 rfl ?_
          exact hk8 b1 b2 (b4 ||| r44) (b6 + (1 : Int32)) _ _ _ (lv_sub hl [2, 3, 4, 1, 0] rfl) hP hS hm
  have hl8 : ∀ (fu : Nat), ∀ (b1 : Int32) (b2 : Int64) (b4 : Int64) (b6 : Int32) (H : Heap) (locs : List Loc) (ls : Array Slot), lv_has ls 7 [(0, .ref (ad 1)), (1, .int b1), (2, .long b2), (4, .long b4), (6, .int b6)] → va_P (dC, dI) xCl (cW dT ad u) H → va_S xN s.heap H locs → m_History_descendantsOf_l8 fu b1 b2 b4 b6 u = some out → W p l e (xrm 2 42) s m args below meth c H locs 0 0 Q (F0 m 8 ls []) := by
    intro fu
    induction fu with
    | zero => intro b1 b2 b4 b6 H locs ls hl hP hS hm; exact absurd hm (fun z => by cases z)
    | succ n ih => intro b1 b2 b4 b6 H locs ls hl hP hS hm; exact hs8 (m_History_descendantsOf_l8 n) ih b1 b2 b4 b6 H locs ls hl hP hS hm
  unfold m_History_descendantsOf at hm
  refine lv_lconst (v := (0 : Int64)) hx hb d_History_descendantsOf_0 (by decide) ?_
  refine lv_lstore (lv' := [(4, .long (0 : Int64)), (0, .ref (ad 1)), (1, .int a1), (2, .long a2)]) hx hb d_History_descendantsOf_1 hl (Nat.le_of_ble_eq_true rfl) rfl (fun ls hl => ?_)
  refine lv_iload_n hx hb d_History_descendantsOf_3 rfl (lv_at hl 2 rfl) ?_
  refine lv_iconst (v := (1 : Int32)) hx hb d_History_descendantsOf_4 (by decide) ?_
  refine lv_iadd hx hb d_History_descendantsOf_5 ?_
  refine lv_istore (lv' := [(6, .int (a1 + (1 : Int32))), (4, .long (0 : Int64)), (0, .ref (ad 1)), (1, .int a1), (2, .long a2)]) hx hb d_History_descendantsOf_6 hl (Nat.le_of_ble_eq_true rfl) rfl (fun ls hl => ?_)
  exact hl8 xFU a1 a2 (0 : Int64) (a1 + (1 : Int32)) _ _ _ (lv_sub hl [2, 3, 4, 1, 0] rfl) hP hS hm
set_option maxHeartbeats 4000000 in
set_option maxRecDepth 100000 in
theorem c_History_isCritical (l : Launch) (dC : Nat → ClassId) (dI : Nat → Nat → Nat) (dT : Nat → ClassId) (ad : Nat → Nat) (a1 : Int32) (a2 : Int64) (u : xS) (out : Int32) (hm : m_History_isCritical a1 a2 u = some out) : Met l y_History_isCritical (Cond.code y_History_isCritical b_History_isCritical 4 (some .boolean) :: xG) (xrm 3 68) (va_Pc [.ref (ad 1), .int a1, .long a2] (xR (dC, dI) xCl (xT dT) (cW dT ad u))) (va_Qi (fun r9 (_ : Unit) => r9 = out) (fun _ _ => True) xN) 0 0 xN := by
  refine xm_roz (cc := b_History_isCritical) (maxL := 4) (by decide) rfl (Nat.le_of_ble_eq_true rfl) ?_
  intro p e s m args below meth c Q ls hx hb hml hts hown hK hN hP hl hret
  have hT : ∀ w ∈ xG, w.before args s = true := fun w h => hts w (List.mem_cons_of_mem _ h)
  have hown : s.vm.findClass "EventGraphText$History" = some m.cls := hown
  have hl : lv_has ls 4 [(0, .ref (ad 1)), (1, .int a1), (2, .long a2)] := hl
  have hS : va_S xN s.heap s.heap [] := va_S.rf
  unfold m_History_isCritical at hm
  refine lv_lload_n hx hb d_History_isCritical_0 rfl (lv_at hl 2 rfl) ?_
  refine lv_aload_n hx hb d_History_isCritical_1 rfl (lv_at hl 0 rfl) ?_
  refine lv_iload_n hx hb d_History_isCritical_2 rfl (lv_at hl 1 rfl) ?_
  obtain ⟨r3, h3, hm⟩ := xb1_some hm
  refine xc_l (va_runV (C := "EventGraphText$History") (As := [.int a1]) (rest := [.long a2]) ⟨hx, hb, hml, hown, hts⟩ (c_History_upTo l dC dI dT ad a1 u r3 h3) (cwV 1 hts (xgV wd_435 wd_436 wd_437 wd_2 wd_438) rfl rfl rfl pd_History_upTo ⟨Nat.le_of_ble_eq_true rfl, Nat.le_of_ble_eq_true rfl⟩) (xpreV (C := "EventGraphText$History") (T := T_History) (N := 9) hP hK hN rfl cW_H) rfl rfl hl.1 rfl (lv_room (Nat.le_of_ble_eq_true rfl)) d_History_isCritical_3 ⟨Nat.le_of_ble_eq_true rfl, Nat.le_of_ble_eq_true rfl⟩) hP hS (fun H locs hP hS => ?_)
  refine lv_aload_n hx hb d_History_isCritical_6 rfl (lv_at hl 0 rfl) ?_
  refine lv_iload_n hx hb d_History_isCritical_7 rfl (lv_at hl 1 rfl) ?_
  refine lv_lload_n hx hb d_History_isCritical_8 rfl (lv_at hl 2 rfl) ?_
  obtain ⟨r9, h9, hm⟩ := xb1_some hm
  refine xc_l (va_runV (C := "EventGraphText$History") (As := [.int a1, .long a2]) (rest := [.long r3, .long a2]) ⟨hx, hb, hml, hown, hts⟩ (c_History_descendantsOf l dC dI dT ad a1 a2 u r9 h9) (cwV 2 hts (xgV wd_439 wd_440 wd_441 wd_2 wd_442) rfl rfl rfl pd_History_descendantsOf ⟨Nat.le_of_ble_eq_true rfl, Nat.le_of_ble_eq_true rfl⟩) (xpreV (C := "EventGraphText$History") (T := T_History) (N := 9) hP hK hN rfl cW_H) rfl rfl hl.1 rfl (lv_room (Nat.le_of_ble_eq_true rfl)) d_History_isCritical_9 ⟨Nat.le_of_ble_eq_true rfl, Nat.le_of_ble_eq_true rfl⟩) hP hS (fun H locs hP hS => ?_)
  refine lv_lor hx hb d_History_isCritical_12 ?_
  refine lv_ldc2 (v := (-1 : Int64)) hx hb hown (hT _ wd_246) d_History_isCritical_13 ?_
  refine lv_lxor hx hb d_History_isCritical_16 ?_
  refine lv_land hx hb d_History_isCritical_17 ?_
  refine lv_lconst (v := (0 : Int64)) hx hb d_History_isCritical_18 (by decide) ?_
  refine xl_cmp_ne (tgt := 27) hx hb d_History_isCritical_19 d_History_isCritical_20 rfl (fun h => ?_) (fun h => ?_)
  · replace hm := xi_neg h hm
    refine lv_iconst (v := (0 : Int32)) hx hb d_History_isCritical_27 (by decide) ?_
    exact hret hm rfl hS d_History_isCritical_28
  · replace hm := xi_pos h hm
    refine lv_iconst (v := (1 : Int32)) hx hb d_History_isCritical_23 (by decide) ?_
    refine lv_goto (tgt := 28) hx hb d_History_isCritical_24 rfl ?_
    exact hret hm rfl hS d_History_isCritical_28
set_option maxHeartbeats 4000000 in
set_option maxRecDepth 100000 in
theorem c_History_lastCritical (l : Launch) (dC : Nat → ClassId) (dI : Nat → Nat → Nat) (dT : Nat → ClassId) (ad : Nat → Nat) (a1 : Int64) (a3 : Int64) (u : xS) (out : Int32) (hm : m_History_lastCritical a1 a3 u = some out) : Met l y_History_lastCritical (Cond.code y_History_lastCritical b_History_lastCritical 6 (some .int) :: xG) (xrm 4 91) (va_Pc [.ref (ad 1), .long a1, .long a3] (xR (dC, dI) xCl (xT dT) (cW dT ad u))) (va_Qi (fun r9 (_ : Unit) => r9 = out) (fun _ _ => True) xN) 0 0 xN := by
  refine xm_roi (cc := b_History_lastCritical) (maxL := 6) (by decide) rfl (Nat.le_of_ble_eq_true rfl) ?_
  intro p e s m args below meth c Q ls hx hb hml hts hown hK hN hP hl hret
  have hT : ∀ w ∈ xG, w.before args s = true := fun w h => hts w (List.mem_cons_of_mem _ h)
  have hown : s.vm.findClass "EventGraphText$History" = some m.cls := hown
  have hl : lv_has ls 6 [(0, .ref (ad 1)), (1, .long a1), (3, .long a3)] := hl
  have hS : va_S xN s.heap s.heap [] := va_S.rf
  have hs8 : ∀ (k8 : Int64 → Int64 → Int32 → xS → Option Int32) (hk8 : ∀ (b1 : Int64) (b3 : Int64) (b5 : Int32) (H : Heap) (locs : List Loc) (ls : Array Slot), lv_has ls 6 [(0, .ref (ad 1)), (1, .long b1), (3, .long b3), (5, .int b5)] → va_P (dC, dI) xCl (cW dT ad u) H → va_S xN s.heap H locs → k8 b1 b3 b5 u = some out → W p l e (xrm 4 91) s m args below meth c H locs 0 0 Q (F0 m 8 ls [])), ∀ (b1 : Int64) (b3 : Int64) (b5 : Int32) (H : Heap) (locs : List Loc) (ls : Array Slot), lv_has ls 6 [(0, .ref (ad 1)), (1, .long b1), (3, .long b3), (5, .int b5)] → va_P (dC, dI) xCl (cW dT ad u) H → va_S xN s.heap H locs → m_History_lastCritical_s8 k8 b1 b3 b5 u = some out → W p l e (xrm 4 91) s m args below meth c H locs 0 0 Q (F0 m 8 ls []) := by
    intro k8 hk8 b1 b3 b5 H locs ls hl hP hS hm
    unfold m_History_lastCritical_s8 at hm
    refine lv_iload hx hb d_History_lastCritical_8 (lv_at hl 3 rfl) ?_
    refine lv_if_lt (tgt := 41) hx hb d_History_lastCritical_10 rfl (fun h => ?_) (fun h => ?_)
    · replace hm := xi_pos h hm
      refine lv_iconst (v := (-1 : Int32)) hx hb d_History_lastCritical_41 (by decide) ?_
      exact hret hm hS d_History_lastCritical_42
    · replace hm := xi_neg h hm
      refine lv_lload_n hx hb d_History_lastCritical_13 rfl (lv_at hl 2 rfl) ?_
      refine lv_iload hx hb d_History_lastCritical_14 (lv_at hl 3 rfl) ?_
      obtain ⟨r16, h16, hm⟩ := xb1_some hm
      refine xc_i (va_runSN (As := [.long b3, .int b5]) (rest := []) ⟨hx, hb, hml, hown, hts⟩ (c_Text_has l b3 b5 r16 h16) ⟨va_cnB 2 hts (xg0 wd_217) rfl rfl rfl (nmm_9 hN) (hT _ wd_1) pd_Text_has.2 ⟨Nat.le_of_ble_eq_true rfl, Nat.le_of_ble_eq_true rfl⟩, hT _ wd_216, trivial⟩ xpreS0 rfl rfl hl.1 rfl (lv_room (Nat.le_of_ble_eq_true rfl)) d_History_lastCritical_16 ⟨Nat.le_of_ble_eq_true rfl, Nat.le_of_ble_eq_true rfl⟩) hP hS (fun H locs hP hS => ?_)
      refine lv_if_eq (tgt := 35) hx hb d_History_lastCritical_19 rfl (fun h => ?_) (fun h => ?_)
      · replace hm := xi_pos h hm
        refine lv_iinc (k := 3) (v := (b5 + (-1 : Int32))) (lv' := [(5, .int (b5 + (-1 : Int32))), (0, .ref (ad 1)), (1, .long b1), (3, .long b3)]) hx hb d_History_lastCritical_35 hl rfl rfl (Nat.le_of_ble_eq_true rfl) rfl (fun ls hl => ?_)
        refine lv_goto (tgt := 8) hx hb d_History_lastCritical_38 rfl ?_
        exact hk8 b1 b3 (b5 + (-1 : Int32)) _ _ _ (lv_sub hl [1, 2, 3, 0] rfl) hP hS hm
      · replace hm := xi_neg h hm
        refine lv_aload_n hx hb d_History_lastCritical_22 rfl (lv_at hl 0 rfl) ?_
        refine lv_iload hx hb d_History_lastCritical_23 (lv_at hl 3 rfl) ?_
        refine lv_lload_n hx hb d_History_lastCritical_25 rfl (lv_at hl 1 rfl) ?_
        obtain ⟨r26, h26, hm⟩ := xb1_some hm
        refine xc_i (va_runV (C := "EventGraphText$History") (As := [.int b5, .long b1]) (rest := []) ⟨hx, hb, hml, hown, hts⟩ (c_History_isCritical l dC dI dT ad b5 b1 u r26 h26) (cwV 2 hts (xgV wd_431 wd_432 wd_433 wd_2 wd_434) rfl rfl rfl pd_History_isCritical ⟨Nat.le_of_ble_eq_true rfl, Nat.le_of_ble_eq_true rfl⟩) (xpreV (C := "EventGraphText$History") (T := T_History) (N := 9) hP hK hN rfl cW_H) rfl rfl hl.1 rfl (lv_room (Nat.le_of_ble_eq_true rfl)) d_History_lastCritical_26 ⟨Nat.le_of_ble_eq_true rfl, Nat.le_of_ble_eq_true rfl⟩) hP hS (fun H locs hP hS => ?_)
        refine lv_if_eq (tgt := 35) hx hb d_History_lastCritical_29 rfl (fun h => ?_) (fun h => ?_)
        · replace hm := xi_pos h hm
          refine lv_iinc (k := 3) (v := (b5 + (-1 : Int32))) (lv' := [(5, .int (b5 + (-1 : Int32))), (0, .ref (ad 1)), (1, .long b1), (3, .long b3)]) hx hb d_History_lastCritical_35 hl rfl rfl (Nat.le_of_ble_eq_true rfl) rfl (fun ls hl => ?_)
          refine lv_goto (tgt := 8) hx hb d_History_lastCritical_38 rfl ?_
          exact hk8 b1 b3 (b5 + (-1 : Int32)) _ _ _ (lv_sub hl [1, 2, 3, 0] rfl) hP hS hm
        · replace hm := xi_neg h hm
          refine lv_iload hx hb d_History_lastCritical_32 (lv_at hl 3 rfl) ?_
          exact hret hm hS d_History_lastCritical_34
  have hl8 : ∀ (fu : Nat), ∀ (b1 : Int64) (b3 : Int64) (b5 : Int32) (H : Heap) (locs : List Loc) (ls : Array Slot), lv_has ls 6 [(0, .ref (ad 1)), (1, .long b1), (3, .long b3), (5, .int b5)] → va_P (dC, dI) xCl (cW dT ad u) H → va_S xN s.heap H locs → m_History_lastCritical_l8 fu b1 b3 b5 u = some out → W p l e (xrm 4 91) s m args below meth c H locs 0 0 Q (F0 m 8 ls []) := by
    intro fu
    induction fu with
    | zero => intro b1 b3 b5 H locs ls hl hP hS hm; exact absurd hm (fun z => by cases z)
    | succ n ih => intro b1 b3 b5 H locs ls hl hP hS hm; exact hs8 (m_History_lastCritical_l8 n) ih b1 b3 b5 H locs ls hl hP hS hm
  unfold m_History_lastCritical at hm
  refine lv_aload_n hx hb d_History_lastCritical_0 rfl (lv_at hl 0 rfl) ?_
  refine va_get (D := (dC, dI)) (ci := 1) (v := .int (xs_i u 0)) (C := "EventGraphText$History") (T := T_History) (N := 9) hx hb hT hin_History hown hK hP 1 cW_H rfl 8 (by decide) (hT _ wd_33) (fun _ h9 => h9) rfl d_History_lastCritical_1 ?_
  refine lv_iconst (v := (1 : Int32)) hx hb d_History_lastCritical_4 (by decide) ?_
  refine lv_isub hx hb d_History_lastCritical_5 ?_
  refine lv_istore (lv' := [(5, .int ((xs_i u 0) - (1 : Int32))), (0, .ref (ad 1)), (1, .long a1), (3, .long a3)]) hx hb d_History_lastCritical_6 hl (Nat.le_of_ble_eq_true rfl) rfl (fun ls hl => ?_)
  exact hl8 xFU a1 a3 ((xs_i u 0) - (1 : Int32)) _ _ _ (lv_sub hl [1, 2, 3, 0] rfl) hP hS hm
set_option maxHeartbeats 4000000 in
set_option maxRecDepth 100000 in
theorem c_History_ancestorsOf (l : Launch) (dC : Nat → ClassId) (dI : Nat → Nat → Nat) (dT : Nat → ClassId) (ad : Nat → Nat) (a1 : Int32) (u : xS) (out : Int64) (hm : m_History_ancestorsOf a1 u = some out) : Met l y_History_ancestorsOf (Cond.code y_History_ancestorsOf b_History_ancestorsOf 2 (some .long) :: xG) (xrm 0 0) (va_Pc [.ref (ad 1), .int a1] (xR (dC, dI) xCl (xT dT) (cW dT ad u))) (va_Ql (fun r9 (_ : Unit) => r9 = out) (fun _ _ => True) xN) 0 0 xN := by
  refine xm_roj (cc := b_History_ancestorsOf) (maxL := 2) (by decide) rfl (Nat.le_of_ble_eq_true rfl) ?_
  intro p e s m args below meth c Q ls hx hb hml hts hown hK hN hP hl hret
  have hT : ∀ w ∈ xG, w.before args s = true := fun w h => hts w (List.mem_cons_of_mem _ h)
  have hown : s.vm.findClass "EventGraphText$History" = some m.cls := hown
  have hl : lv_has ls 2 [(0, .ref (ad 1)), (1, .int a1)] := hl
  have hS : va_S xN s.heap s.heap [] := va_S.rf
  unfold m_History_ancestorsOf at hm
  refine lv_aload_n hx hb d_History_ancestorsOf_0 rfl (lv_at hl 0 rfl) ?_
  refine va_get (D := (dC, dI)) (ci := 1) (v := .ref (ad 7)) (C := "EventGraphText$History") (T := T_History) (N := 9) hx hb hT hin_History hown hK hP 1 cW_H rfl 5 (by decide) (hT _ wd_30) (fun _ h9 => h9) rfl d_History_ancestorsOf_1 ?_
  refine lv_iload_n hx hb d_History_ancestorsOf_4 rfl (lv_at hl 1 rfl) ?_
  obtain ⟨g1, hm⟩ := xg_some hm
  refine va_lald hx hb hK hP 7 1 cW_H_ancestors rfl g1 d_History_ancestorsOf_5 ?_
  exact hret hm hS d_History_ancestorsOf_6
set_option maxHeartbeats 4000000 in
set_option maxRecDepth 100000 in
theorem c_Merge_passThrough (l : Launch) (dC : Nat → ClassId) (dI : Nat → Nat → Nat) (dT : Nat → ClassId) (ad : Nat → Nat) (hD : ∀ u, va_D (xA ad 50) (cW dT ad u)) (j : Nat) (a3 : Int64) (u : xS) (hj : j < 3) (out : Int64) (u1 : xS) (hm : m_Merge_passThrough j a3 u = some (out, u1)) : Met l y_Merge_passThrough (Cond.code y_Merge_passThrough b_Merge_passThrough 9 (some .long) :: xG) (xrm 2 41) (va_Pc [.ref (ad (21 + 4 * j)), .ref (ad 1), .ref (ad 16), .long a3] (xR (dC, dI) xCl (xT dT) (cW dT ad u))) (va_Ql (fun r9 (u9 : xS) => r9 = out ∧ u9 = u1) (fun u9 t => va_P (dC, dI) xCl (cW dT ad u9) t.heap) (xA ad 50)) 0 0 (xA ad 50) := by
  refine xm_rwj (Wd := cW dT ad) (cc := b_Merge_passThrough) (maxL := 9) (by decide) rfl (Nat.le_of_ble_eq_true rfl) ?_
  intro p e s m args below meth c Q ls hx hb hml hts hown hK hN hP hl hret
  have hT : ∀ w ∈ xG, w.before args s = true := fun w h => hts w (List.mem_cons_of_mem _ h)
  have hown : s.vm.findClass "EventGraphText$Merge" = some m.cls := hown
  have hl : lv_has ls 9 [(0, .ref (ad (21 + 4 * j))), (1, .ref (ad 1)), (2, .ref (ad 16)), (3, .long a3)] := hl
  have hS : va_S (xA ad 50) s.heap s.heap [] := va_S.rf
  have hs6 : ∀ (k6 : Nat → Int64 → Int32 → xS → Option (Int64 × xS)) (hk6 : ∀ (b5 : Int64) (b7 : Int32) (u : xS) (H : Heap) (locs : List Loc) (ls : Array Slot), lv_has ls 9 [(0, .ref (ad (21 + 4 * j))), (1, .ref (ad 1)), (2, .ref (ad 16)), (5, .long b5), (7, .int b7)] → va_P (dC, dI) xCl (cW dT ad u) H → va_S (xA ad 50) s.heap H locs → k6 j b5 b7 u = some (out, u1) → W p l e (xrm 2 41) s m args below meth c H locs 0 0 Q (F0 m 6 ls [])), ∀ (b5 : Int64) (b7 : Int32) (u : xS) (H : Heap) (locs : List Loc) (ls : Array Slot), lv_has ls 9 [(0, .ref (ad (21 + 4 * j))), (1, .ref (ad 1)), (2, .ref (ad 16)), (5, .long b5), (7, .int b7)] → va_P (dC, dI) xCl (cW dT ad u) H → va_S (xA ad 50) s.heap H locs → m_Merge_passThrough_s6 k6 j b5 b7 u = some (out, u1) → W p l e (xrm 2 41) s m args below meth c H locs 0 0 Q (F0 m 6 ls []) := by
    intro k6 hk6 b5 b7 u H locs ls hl hP hS hm
    unfold m_Merge_passThrough_s6 at hm
    refine lv_iload hx hb d_Merge_passThrough_6 (lv_at hl 4 rfl) ?_
    refine lv_aload_n hx hb d_Merge_passThrough_8 rfl (lv_at hl 2 rfl) ?_
    obtain ⟨r9, h9, hm⟩ := xb1_some hm
    refine xc_i (va_runV (C := "EventGraphText$Line") (As := []) (rest := [.int b7]) ⟨hx, hb, hml, hown, hts⟩ (c_Line_size l dC dI dT ad u r9 h9) (cwV 0 hts (xgV wd_451 wd_340 wd_341 wd_4 wd_342) rfl rfl rfl pd_Line_size ⟨Nat.le_of_ble_eq_true rfl, Nat.le_of_ble_eq_true rfl⟩) (xpreV (C := "EventGraphText$Line") (T := T_Line) (N := 2) hP hK hN rfl cW_N) rfl rfl hl.1 rfl (lv_room (Nat.le_of_ble_eq_true rfl)) d_Merge_passThrough_9 ⟨Nat.le_of_ble_eq_true rfl, Nat.le_of_ble_eq_true rfl⟩) hP hS (fun H locs hP hS => ?_)
    refine lv_icmp_ge (tgt := 58) hx hb d_Merge_passThrough_12 rfl (fun h => ?_) (fun h => ?_)
    · replace hm := xi_pos h hm
      refine lv_lload hx hb d_Merge_passThrough_58 (lv_at hl 3 rfl) ?_
      exact hret hm hP hS d_Merge_passThrough_60
    · replace hm := xi_neg h hm
      refine lv_aload_n hx hb d_Merge_passThrough_15 rfl (lv_at hl 2 rfl) ?_
      refine lv_iload hx hb d_Merge_passThrough_16 (lv_at hl 4 rfl) ?_
      obtain ⟨r18, h18, hm⟩ := xb1_some hm
      refine xc_i (va_runV (C := "EventGraphText$Line") (As := [.int b7]) (rest := []) ⟨hx, hb, hml, hown, hts⟩ (c_Line_get l dC dI dT ad b7 u r18 h18) (cwV 1 hts (xgV wd_452 wd_356 wd_357 wd_4 wd_358) rfl rfl rfl pd_Line_get ⟨Nat.le_of_ble_eq_true rfl, Nat.le_of_ble_eq_true rfl⟩) (xpreV (C := "EventGraphText$Line") (T := T_Line) (N := 2) hP hK hN rfl cW_N) rfl rfl hl.1 rfl (lv_room (Nat.le_of_ble_eq_true rfl)) d_Merge_passThrough_18 ⟨Nat.le_of_ble_eq_true rfl, Nat.le_of_ble_eq_true rfl⟩) hP hS (fun H locs hP hS => ?_)
      refine lv_istore (lv' := [(8, .int r18), (0, .ref (ad (21 + 4 * j))), (1, .ref (ad 1)), (2, .ref (ad 16)), (5, .long b5), (7, .int b7)]) hx hb d_Merge_passThrough_21 hl (Nat.le_of_ble_eq_true rfl) rfl (fun ls hl => ?_)
      refine lv_aload_n hx hb d_Merge_passThrough_23 rfl (lv_at hl 1 rfl) ?_
      refine lv_dup hx hb d_Merge_passThrough_24 rfl ?_
      refine va_get (D := (dC, dI)) (ci := 3) (v := .int (xs_i u (9 + j))) (C := "EventGraphText$Merge") (T := T_Merge) (N := 4) hx hb hT hin_Merge hown hK hP (21 + 4 * j) (cW_G hj) rfl 3 (by decide) (hT _ wd_119) (fun _ h9 => h9) rfl d_Merge_passThrough_25 ?_
      refine lv_lload hx hb d_Merge_passThrough_28 (lv_at hl 4 rfl) ?_
      refine lv_aload_n hx hb d_Merge_passThrough_30 rfl (lv_at hl 2 rfl) ?_
      refine lv_iload hx hb d_Merge_passThrough_31 (lv_at hl 0 rfl) ?_
      obtain ⟨r33, h33, hm⟩ := xb1_some hm
      refine xc_l (va_runV (C := "EventGraphText$History") (As := [.int r18]) (rest := [.long b5, .int (xs_i u (9 + j)), .ref (ad (21 + 4 * j))]) ⟨hx, hb, hml, hown, hts⟩ (c_History_ancestorsOf l dC dI dT ad r18 u r33 h33) (cwV 1 hts (xgV wd_453 wd_454 wd_455 wd_2 wd_456) rfl rfl rfl pd_History_ancestorsOf ⟨Nat.le_of_ble_eq_true rfl, Nat.le_of_ble_eq_true rfl⟩) (xpreV (C := "EventGraphText$History") (T := T_History) (N := 9) hP hK hN rfl cW_H) rfl rfl hl.1 rfl (lv_room (Nat.le_of_ble_eq_true rfl)) d_Merge_passThrough_33 ⟨Nat.le_of_ble_eq_true rfl, Nat.le_of_ble_eq_true rfl⟩) hP hS (fun H locs hP hS => ?_)
      refine lv_lxor hx hb d_Merge_passThrough_36 ?_
      obtain ⟨r37, h37, hm⟩ := xb1_some hm
      refine xc_i (va_runS (As := [.long (b5 ^^^ r33)]) (rest := [.int (xs_i u (9 + j)), .ref (ad (21 + 4 * j))]) ⟨hx, hb, hml, hown, hts⟩ (c_Long_bitCount l (b5 ^^^ r33) r37 h37) (va_cwS 1 hts (xgS wd_445 wd_224 wd_10 wd_225) rfl rfl rfl pd_Long_bitCount.2 ⟨Nat.le_of_ble_eq_true rfl, Nat.le_of_ble_eq_true rfl⟩) xpreS0 rfl rfl hl.1 rfl (lv_room (Nat.le_of_ble_eq_true rfl)) d_Merge_passThrough_37 ⟨Nat.le_of_ble_eq_true rfl, Nat.le_of_ble_eq_true rfl⟩) hP hS (fun H locs hP hS => ?_)
      refine lv_iadd hx hb d_Merge_passThrough_40 ?_
      obtain ⟨w41, hw41, hm⟩ := xlt_some hm
      refine va_put (D := (dC, dI)) (ci := 3) (v := .int ((xs_i u (9 + j)) + r37)) (ty := .int) (C := "EventGraphText$Merge") (T := T_Merge) (N := 4) hx hb hT hin_Merge ty_Merge tyok_Merge nm_Merge hown hK hP (hD _) hS (21 + 4 * j) (cW_G hj) rfl 3 (by decide) (hT _ wd_119) (fun _ h9 => h9) rfl (by decide +kernel) rfl rfl (Nat.le_of_ble_eq_true rfl) d_Merge_passThrough_41 (fun H locs hP _ hS => ?_)
      replace hP : va_P (dC, dI) xCl (cW dT ad w41) H := xp_conv ((cW_f_G_moves hj).trans (congrArg (cW dT ad) hw41.symm)) hP
      refine lv_aload_n hx hb d_Merge_passThrough_44 rfl (lv_at hl 2 rfl) ?_
      refine lv_iload hx hb d_Merge_passThrough_45 (lv_at hl 0 rfl) ?_
      obtain ⟨r47, h47, hm⟩ := xb1_some hm
      refine xc_l (va_runV (C := "EventGraphText$History") (As := [.int r18]) (rest := []) ⟨hx, hb, hml, hown, hts⟩ (c_History_upTo l dC dI dT ad r18 w41 r47 h47) (cwV 1 hts (xgV wd_443 wd_436 wd_437 wd_2 wd_438) rfl rfl rfl pd_History_upTo ⟨Nat.le_of_ble_eq_true rfl, Nat.le_of_ble_eq_true rfl⟩) (xpreV (C := "EventGraphText$History") (T := T_History) (N := 9) hP hK hN rfl cW_H) rfl rfl hl.1 rfl (lv_room (Nat.le_of_ble_eq_true rfl)) d_Merge_passThrough_47 ⟨Nat.le_of_ble_eq_true rfl, Nat.le_of_ble_eq_true rfl⟩) hP hS (fun H locs hP hS => ?_)
      refine lv_lstore (lv' := [(5, .long r47), (8, .int r18), (0, .ref (ad (21 + 4 * j))), (1, .ref (ad 1)), (2, .ref (ad 16)), (7, .int b7)]) hx hb d_Merge_passThrough_50 hl (Nat.le_of_ble_eq_true rfl) rfl (fun ls hl => ?_)
      refine lv_iinc (k := 5) (v := (b7 + (1 : Int32))) (lv' := [(7, .int (b7 + (1 : Int32))), (5, .long r47), (8, .int r18), (0, .ref (ad (21 + 4 * j))), (1, .ref (ad 1)), (2, .ref (ad 16))]) hx hb d_Merge_passThrough_52 hl rfl rfl (Nat.le_of_ble_eq_true rfl) rfl (fun ls hl => ?_)
      refine lv_goto (tgt := 6) hx hb d_Merge_passThrough_55 rfl ?_
      exact hk6 r47 (b7 + (1 : Int32)) w41 _ _ _ (lv_sub hl [3, 4, 5, 1, 0] rfl) hP hS hm
  have hl6 : ∀ (fu : Nat), ∀ (b5 : Int64) (b7 : Int32) (u : xS) (H : Heap) (locs : List Loc) (ls : Array Slot), lv_has ls 9 [(0, .ref (ad (21 + 4 * j))), (1, .ref (ad 1)), (2, .ref (ad 16)), (5, .long b5), (7, .int b7)] → va_P (dC, dI) xCl (cW dT ad u) H → va_S (xA ad 50) s.heap H locs → m_Merge_passThrough_l6 fu j b5 b7 u = some (out, u1) → W p l e (xrm 2 41) s m args below meth c H locs 0 0 Q (F0 m 6 ls []) := by
    intro fu
    induction fu with
    | zero => intro b5 b7 u H locs ls hl hP hS hm; exact absurd hm (fun z => by cases z)
    | succ n ih => intro b5 b7 u H locs ls hl hP hS hm; exact hs6 (m_Merge_passThrough_l6 n) ih b5 b7 u H locs ls hl hP hS hm
  unfold m_Merge_passThrough at hm
  refine lv_lload_n hx hb d_Merge_passThrough_0 rfl (lv_at hl 3 rfl) ?_
  refine lv_lstore (lv' := [(5, .long a3), (0, .ref (ad (21 + 4 * j))), (1, .ref (ad 1)), (2, .ref (ad 16)), (3, .long a3)]) hx hb d_Merge_passThrough_1 hl (Nat.le_of_ble_eq_true rfl) rfl (fun ls hl => ?_)
  refine lv_iconst (v := (0 : Int32)) hx hb d_Merge_passThrough_3 (by decide) ?_
  refine lv_istore (lv' := [(7, .int (0 : Int32)), (5, .long a3), (0, .ref (ad (21 + 4 * j))), (1, .ref (ad 1)), (2, .ref (ad 16)), (3, .long a3)]) hx hb d_Merge_passThrough_4 hl (Nat.le_of_ble_eq_true rfl) rfl (fun ls hl => ?_)
  exact hl6 xFU a3 (0 : Int32) u _ _ _ (lv_sub hl [2, 3, 4, 1, 0] rfl) hP hS hm
