set_option maxHeartbeats 4000000 in
set_option maxRecDepth 100000 in
theorem c_Text_believed (l : Launch) (dC : Nat → ClassId) (dI : Nat → Nat → Nat) (dT : Nat → ClassId) (ad : Nat → Nat) (a1 : Int32) (a2 : Int32) (u : xS) (out : Int32) (hm : m_Text_believed a1 a2 u = some out) : Met l y_Text_believed (Cond.code y_Text_believed b_Text_believed 3 (some .int) :: xG) (xrm 2 41) (va_Pc [.ref (ad 0), .int a1, .int a2] (xR (dC, dI) xCl (xT dT) (cW dT ad u))) (va_Qi (fun r9 (_ : Unit) => r9 = out) (fun _ _ => True) xN) 0 0 xN := by
  refine xm_roi (cc := b_Text_believed) (maxL := 3) (by decide) rfl (Nat.le_of_ble_eq_true rfl) ?_
  intro p e s m args below meth c Q ls hx hb hml hts hown hK hN hP hl hret
  have hT : ∀ w ∈ xG, w.before args s = true := fun w h => hts w (List.mem_cons_of_mem _ h)
  have hown : s.vm.findClass "EventGraphText" = some m.cls := hown
  have hl : lv_has ls 3 [(0, .ref (ad 0)), (1, .int a1), (2, .int a2)] := hl
  have hS : va_S xN s.heap s.heap [] := va_S.rf
  unfold m_Text_believed at hm
  refine lv_iload_n hx hb d_Text_believed_0 rfl (lv_at hl 1 rfl) ?_
  refine lv_iload_n hx hb d_Text_believed_1 rfl (lv_at hl 2 rfl) ?_
  obtain ⟨r2, h2, hm⟩ := xb1_some hm
  refine xc_i (va_runS (As := [.int a1, .int a2]) (rest := []) ⟨hx, hb, hml, hown, hts⟩ (c_Text_areTwoSites l a1 a2 r2 h2) (va_cwS 2 hts (xgS wd_303 wd_304 wd_1 wd_305) rfl rfl rfl pd_Text_areTwoSites.2 ⟨Nat.le_of_ble_eq_true rfl, Nat.le_of_ble_eq_true rfl⟩) xpreS0 rfl rfl hl.1 rfl (lv_room (Nat.le_of_ble_eq_true rfl)) d_Text_believed_2 ⟨Nat.le_of_ble_eq_true rfl, Nat.le_of_ble_eq_true rfl⟩) hP hS (fun H locs hP hS => ?_)
  refine lv_if_eq (tgt := 25) hx hb d_Text_believed_5 rfl (fun h => ?_) (fun h => ?_)
  · replace hm := xi_pos h hm
    refine lv_sipush (v := (-1000 : Int32)) hx hb d_Text_believed_25 (by decide) ?_
    exact hret hm hS d_Text_believed_28
  · replace hm := xi_neg h hm
    refine lv_aload_n hx hb d_Text_believed_8 rfl (lv_at hl 0 rfl) ?_
    refine va_get (D := (dC, dI)) (ci := 7) (v := .ref (ad 18)) (C := "EventGraphText") (T := T_Text) (N := 5) hx hb hT hin_Text hown hK hP 0 cW_E rfl 3 (by decide) (hT _ wd_187) (fun _ h9 => h9) rfl d_Text_believed_9 ?_
    refine lv_iload_n hx hb d_Text_believed_12 rfl (lv_at hl 1 rfl) ?_
    obtain ⟨g1, hm⟩ := xg_some hm
    refine va_aldq hx hb hK hP 18 3 rfl rfl g1 d_Text_believed_13 ?_
    refine W.eq (g2 := F0 m 14 ls [.ref (ad (19 + 4 * (a1.toNatClampNeg)))]) rfl ?_
    refine va_getN (D := (dC, dI)) (ci := 6) (v := .ref (ad (20 + 4 * (a1.toNatClampNeg)))) (C := "EventGraphText$Site") (T := T_Site) (N := 3) hx hb hT hin_Site hown hK hP (19 + 4 * (a1.toNatClampNeg)) (cW_S (xin_lt g1)) rfl 0 (by decide) (va_Nw.use rfl (nf_4 hN)) (fun _ h9 => h9) rfl d_Text_believed_14 ?_
    refine lv_iload_n hx hb d_Text_believed_17 rfl (lv_at hl 2 rfl) ?_
    obtain ⟨g2, hm⟩ := xg_some hm
    refine va_lald hx hb hK hP (20 + 4 * (a1.toNatClampNeg)) 1 (cW_S_beliefs (xin_lt g1)) rfl g2 d_Text_believed_18 ?_
    obtain ⟨r19, h19, hm⟩ := xb1_some hm
    refine xc_i (va_runS (As := [.long (xs_L u (3 + (a1.toNatClampNeg)) a2.toNatClampNeg)]) (rest := []) ⟨hx, hb, hml, hown, hts⟩ (c_Long_bitCount l (xs_L u (3 + (a1.toNatClampNeg)) a2.toNatClampNeg) r19 h19) (va_cwS 1 hts (xgS wd_223 wd_224 wd_10 wd_225) rfl rfl rfl pd_Long_bitCount.2 ⟨Nat.le_of_ble_eq_true rfl, Nat.le_of_ble_eq_true rfl⟩) xpreS0 rfl rfl hl.1 rfl (lv_room (Nat.le_of_ble_eq_true rfl)) d_Text_believed_19 ⟨Nat.le_of_ble_eq_true rfl, Nat.le_of_ble_eq_true rfl⟩) hP hS (fun H locs hP hS => ?_)
    refine lv_goto (tgt := 28) hx hb d_Text_believed_22 rfl ?_
    exact hret hm hS d_Text_believed_28
set_option maxHeartbeats 4000000 in
set_option maxRecDepth 100000 in
theorem c_OctetRow_size (l : Launch) (dC : Nat → ClassId) (dI : Nat → Nat → Nat) (dT : Nat → ClassId) (ad : Nat → Nat) (j : Nat) (u : xS) (hj : j < 6) (out : Int32) (hm : m_OctetRow_size j u = some out) : Met l y_OctetRow_size (Cond.code y_OctetRow_size b_OctetRow_size 1 (some .int) :: xG) (xrm 0 0) (va_Pc [.ref (ad (33 + 3 * j))] (xR (dC, dI) xCl (xT dT) (cW dT ad u))) (va_Qi (fun r9 (_ : Unit) => r9 = out) (fun _ _ => True) xN) 0 0 xN := by
  refine xm_roi (cc := b_OctetRow_size) (maxL := 1) (by decide) rfl (Nat.le_of_ble_eq_true rfl) ?_
  intro p e s m args below meth c Q ls hx hb hml hts hown hK hN hP hl hret
  have hT : ∀ w ∈ xG, w.before args s = true := fun w h => hts w (List.mem_cons_of_mem _ h)
  have hown : s.vm.findClass "EventGraphText$OctetRow" = some m.cls := hown
  have hl : lv_has ls 1 [(0, .ref (ad (33 + 3 * j)))] := hl
  have hS : va_S xN s.heap s.heap [] := va_S.rf
  unfold m_OctetRow_size at hm
  refine lv_aload_n hx hb d_OctetRow_size_0 rfl (lv_at hl 0 rfl) ?_
  refine va_get (D := (dC, dI)) (ci := 5) (v := .int (xs_i u (30 + j))) (C := "EventGraphText$OctetRow") (T := T_OctetRow) (N := 2) hx hb hT hin_OctetRow hown hK hP (33 + 3 * j) (cW_O hj) rfl 1 (by decide) (hT _ wd_157) (fun _ h9 => h9) rfl d_OctetRow_size_1 ?_
  exact hret hm hS d_OctetRow_size_4
set_option maxHeartbeats 4000000 in
set_option maxRecDepth 100000 in
theorem c_Text_octets (l : Launch) (dC : Nat → ClassId) (dI : Nat → Nat → Nat) (dT : Nat → ClassId) (ad : Nat → Nat) (a1 : Int32) (u : xS) (out : Int32) (hm : m_Text_octets a1 u = some out) : Met l y_Text_octets (Cond.code y_Text_octets b_Text_octets 2 (some .int) :: xG) (xrm 1 21) (va_Pc [.ref (ad 0), .int a1] (xR (dC, dI) xCl (xT dT) (cW dT ad u))) (va_Qi (fun r9 (_ : Unit) => r9 = out) (fun _ _ => True) xN) 0 0 xN := by
  refine xm_roi (cc := b_Text_octets) (maxL := 2) (by decide) rfl (Nat.le_of_ble_eq_true rfl) ?_
  intro p e s m args below meth c Q ls hx hb hml hts hown hK hN hP hl hret
  have hT : ∀ w ∈ xG, w.before args s = true := fun w h => hts w (List.mem_cons_of_mem _ h)
  have hown : s.vm.findClass "EventGraphText" = some m.cls := hown
  have hl : lv_has ls 2 [(0, .ref (ad 0)), (1, .int a1)] := hl
  have hS : va_S xN s.heap s.heap [] := va_S.rf
  unfold m_Text_octets at hm
  refine lv_aload_n hx hb d_Text_octets_0 rfl (lv_at hl 0 rfl) ?_
  refine lv_iload_n hx hb d_Text_octets_1 rfl (lv_at hl 1 rfl) ?_
  obtain ⟨r2, h2, hm⟩ := xb1_some hm
  refine xc_i (va_runV (C := "EventGraphText") (As := [.int a1]) (rest := []) ⟨hx, hb, hml, hown, hts⟩ (c_Text_isUnderWay l dC dI dT ad a1 u r2 h2) (cwV 1 hts (xgV wd_414 wd_416 wds_15 wd_1 wd_417) rfl rfl rfl pd_Text_isUnderWay ⟨Nat.le_of_ble_eq_true rfl, Nat.le_of_ble_eq_true rfl⟩) (xpreV (C := "EventGraphText") (T := T_Text) (N := 5) hP hK hN rfl cW_E) rfl rfl hl.1 rfl (lv_room (Nat.le_of_ble_eq_true rfl)) d_Text_octets_2 ⟨Nat.le_of_ble_eq_true rfl, Nat.le_of_ble_eq_true rfl⟩) hP hS (fun H locs hP hS => ?_)
  refine lv_if_eq (tgt := 23) hx hb d_Text_octets_5 rfl (fun h => ?_) (fun h => ?_)
  · replace hm := xi_pos h hm
    refine lv_sipush (v := (-1000 : Int32)) hx hb d_Text_octets_23 (by decide) ?_
    exact hret hm hS d_Text_octets_26
  · replace hm := xi_neg h hm
    refine lv_aload_n hx hb d_Text_octets_8 rfl (lv_at hl 0 rfl) ?_
    refine va_get (D := (dC, dI)) (ci := 7) (v := .ref (ad 31)) (C := "EventGraphText") (T := T_Text) (N := 5) hx hb hT hin_Text hown hK hP 0 cW_E rfl 4 (by decide) (hT _ wd_188) (fun _ h9 => h9) rfl d_Text_octets_9 ?_
    refine lv_iload_n hx hb d_Text_octets_12 rfl (lv_at hl 1 rfl) ?_
    obtain ⟨g1, hm⟩ := xg_some hm
    refine va_aldq hx hb hK hP 31 4 rfl rfl g1 d_Text_octets_13 ?_
    refine W.eq (g2 := F0 m 14 ls [.ref (ad (32 + 3 * (a1.toNatClampNeg)))]) rfl ?_
    refine va_getN (D := (dC, dI)) (ci := 4) (v := .ref (ad (33 + 3 * (a1.toNatClampNeg)))) (C := "EventGraphText$Message") (T := T_Message) (N := 5) hx hb hT hin_Message hown hK hP (32 + 3 * (a1.toNatClampNeg)) (cW_M (xin_lt g1)) rfl 0 (by decide) (va_Nw.use rfl (nf_7 hN)) (fun _ h9 => h9) rfl d_Text_octets_14 ?_
    obtain ⟨r17, h17, hm⟩ := xb1_some hm
    refine xc_i (va_runV (C := "EventGraphText$OctetRow") (As := []) (rest := []) ⟨hx, hb, hml, hown, hts⟩ (c_OctetRow_size l dC dI dT ad (a1.toNatClampNeg) u (xin_lt g1) r17 h17) (cwV 0 hts (xgV wd_493 wd_494 wd_495 wd_8 wd_496) rfl rfl rfl pd_OctetRow_size ⟨Nat.le_of_ble_eq_true rfl, Nat.le_of_ble_eq_true rfl⟩) (xpreV (C := "EventGraphText$OctetRow") (T := T_OctetRow) (N := 2) hP hK hN rfl (cW_O (xin_lt g1))) rfl rfl hl.1 rfl (lv_room (Nat.le_of_ble_eq_true rfl)) d_Text_octets_17 ⟨Nat.le_of_ble_eq_true rfl, Nat.le_of_ble_eq_true rfl⟩) hP hS (fun H locs hP hS => ?_)
    refine lv_goto (tgt := 26) hx hb d_Text_octets_20 rfl ?_
    exact hret hm hS d_Text_octets_26
set_option maxHeartbeats 4000000 in
set_option maxRecDepth 100000 in
theorem c_OctetRow_get (l : Launch) (dC : Nat → ClassId) (dI : Nat → Nat → Nat) (dT : Nat → ClassId) (ad : Nat → Nat) (j : Nat) (a1 : Int32) (u : xS) (hj : j < 6) (out : Int32) (hm : m_OctetRow_get j a1 u = some out) : Met l y_OctetRow_get (Cond.code y_OctetRow_get b_OctetRow_get 2 (some .int) :: xG) (xrm 0 0) (va_Pc [.ref (ad (33 + 3 * j)), .int a1] (xR (dC, dI) xCl (xT dT) (cW dT ad u))) (va_Qi (fun r9 (_ : Unit) => r9 = out) (fun _ _ => True) xN) 0 0 xN := by
  refine xm_roi (cc := b_OctetRow_get) (maxL := 2) (by decide) rfl (Nat.le_of_ble_eq_true rfl) ?_
  intro p e s m args below meth c Q ls hx hb hml hts hown hK hN hP hl hret
  have hT : ∀ w ∈ xG, w.before args s = true := fun w h => hts w (List.mem_cons_of_mem _ h)
  have hown : s.vm.findClass "EventGraphText$OctetRow" = some m.cls := hown
  have hl : lv_has ls 2 [(0, .ref (ad (33 + 3 * j))), (1, .int a1)] := hl
  have hS : va_S xN s.heap s.heap [] := va_S.rf
  unfold m_OctetRow_get at hm
  refine lv_iload_n hx hb d_OctetRow_get_0 rfl (lv_at hl 1 rfl) ?_
  refine lv_if_lt (tgt := 21) hx hb d_OctetRow_get_1 rfl (fun h => ?_) (fun h => ?_)
  · replace hm := xi_pos h hm
    refine lv_sipush (v := (-1000 : Int32)) hx hb d_OctetRow_get_21 (by decide) ?_
    exact hret hm hS d_OctetRow_get_24
  · replace hm := xi_neg h hm
    refine lv_iload_n hx hb d_OctetRow_get_4 rfl (lv_at hl 1 rfl) ?_
    refine lv_aload_n hx hb d_OctetRow_get_5 rfl (lv_at hl 0 rfl) ?_
    refine va_get (D := (dC, dI)) (ci := 5) (v := .int (xs_i u (30 + j))) (C := "EventGraphText$OctetRow") (T := T_OctetRow) (N := 2) hx hb hT hin_OctetRow hown hK hP (33 + 3 * j) (cW_O hj) rfl 1 (by decide) (hT _ wd_157) (fun _ h9 => h9) rfl d_OctetRow_get_6 ?_
    refine lv_icmp_ge (tgt := 21) hx hb d_OctetRow_get_9 rfl (fun h => ?_) (fun h => ?_)
    · replace hm := xi_pos h hm
      refine lv_sipush (v := (-1000 : Int32)) hx hb d_OctetRow_get_21 (by decide) ?_
      exact hret hm hS d_OctetRow_get_24
    · replace hm := xi_neg h hm
      refine lv_aload_n hx hb d_OctetRow_get_12 rfl (lv_at hl 0 rfl) ?_
      refine va_get (D := (dC, dI)) (ci := 5) (v := .ref (ad (34 + 3 * j))) (C := "EventGraphText$OctetRow") (T := T_OctetRow) (N := 2) hx hb hT hin_OctetRow hown hK hP (33 + 3 * j) (cW_O hj) rfl 0 (by decide) (hT _ wd_156) (fun _ h9 => h9) rfl d_OctetRow_get_13 ?_
      refine lv_iload_n hx hb d_OctetRow_get_16 rfl (lv_at hl 1 rfl) ?_
      obtain ⟨g1, hm⟩ := xg_some hm
      refine va_iald hx hb hK hP (34 + 3 * j) 0 (cW_O_row hj) rfl g1 d_OctetRow_get_17 ?_
      refine lv_goto (tgt := 24) hx hb d_OctetRow_get_18 rfl ?_
      exact hret hm hS d_OctetRow_get_24
set_option maxHeartbeats 4000000 in
set_option maxRecDepth 100000 in
theorem c_Text_octet (l : Launch) (dC : Nat → ClassId) (dI : Nat → Nat → Nat) (dT : Nat → ClassId) (ad : Nat → Nat) (a1 : Int32) (a2 : Int32) (u : xS) (out : Int32) (hm : m_Text_octet a1 a2 u = some out) : Met l y_Text_octet (Cond.code y_Text_octet b_Text_octet 3 (some .int) :: xG) (xrm 1 21) (va_Pc [.ref (ad 0), .int a1, .int a2] (xR (dC, dI) xCl (xT dT) (cW dT ad u))) (va_Qi (fun r9 (_ : Unit) => r9 = out) (fun _ _ => True) xN) 0 0 xN := by
  refine xm_roi (cc := b_Text_octet) (maxL := 3) (by decide) rfl (Nat.le_of_ble_eq_true rfl) ?_
  intro p e s m args below meth c Q ls hx hb hml hts hown hK hN hP hl hret
  have hT : ∀ w ∈ xG, w.before args s = true := fun w h => hts w (List.mem_cons_of_mem _ h)
  have hown : s.vm.findClass "EventGraphText" = some m.cls := hown
  have hl : lv_has ls 3 [(0, .ref (ad 0)), (1, .int a1), (2, .int a2)] := hl
  have hS : va_S xN s.heap s.heap [] := va_S.rf
  unfold m_Text_octet at hm
  refine lv_aload_n hx hb d_Text_octet_0 rfl (lv_at hl 0 rfl) ?_
  refine lv_iload_n hx hb d_Text_octet_1 rfl (lv_at hl 1 rfl) ?_
  obtain ⟨r2, h2, hm⟩ := xb1_some hm
  refine xc_i (va_runV (C := "EventGraphText") (As := [.int a1]) (rest := []) ⟨hx, hb, hml, hown, hts⟩ (c_Text_isUnderWay l dC dI dT ad a1 u r2 h2) (cwV 1 hts (xgV wd_414 wd_416 wds_15 wd_1 wd_417) rfl rfl rfl pd_Text_isUnderWay ⟨Nat.le_of_ble_eq_true rfl, Nat.le_of_ble_eq_true rfl⟩) (xpreV (C := "EventGraphText") (T := T_Text) (N := 5) hP hK hN rfl cW_E) rfl rfl hl.1 rfl (lv_room (Nat.le_of_ble_eq_true rfl)) d_Text_octet_2 ⟨Nat.le_of_ble_eq_true rfl, Nat.le_of_ble_eq_true rfl⟩) hP hS (fun H locs hP hS => ?_)
  refine lv_if_eq (tgt := 24) hx hb d_Text_octet_5 rfl (fun h => ?_) (fun h => ?_)
  · replace hm := xi_pos h hm
    refine lv_sipush (v := (-1000 : Int32)) hx hb d_Text_octet_24 (by decide) ?_
    exact hret hm hS d_Text_octet_27
  · replace hm := xi_neg h hm
    refine lv_aload_n hx hb d_Text_octet_8 rfl (lv_at hl 0 rfl) ?_
    refine va_get (D := (dC, dI)) (ci := 7) (v := .ref (ad 31)) (C := "EventGraphText") (T := T_Text) (N := 5) hx hb hT hin_Text hown hK hP 0 cW_E rfl 4 (by decide) (hT _ wd_188) (fun _ h9 => h9) rfl d_Text_octet_9 ?_
    refine lv_iload_n hx hb d_Text_octet_12 rfl (lv_at hl 1 rfl) ?_
    obtain ⟨g1, hm⟩ := xg_some hm
    refine va_aldq hx hb hK hP 31 4 rfl rfl g1 d_Text_octet_13 ?_
    refine W.eq (g2 := F0 m 14 ls [.ref (ad (32 + 3 * (a1.toNatClampNeg)))]) rfl ?_
    refine va_getN (D := (dC, dI)) (ci := 4) (v := .ref (ad (33 + 3 * (a1.toNatClampNeg)))) (C := "EventGraphText$Message") (T := T_Message) (N := 5) hx hb hT hin_Message hown hK hP (32 + 3 * (a1.toNatClampNeg)) (cW_M (xin_lt g1)) rfl 0 (by decide) (va_Nw.use rfl (nf_7 hN)) (fun _ h9 => h9) rfl d_Text_octet_14 ?_
    refine lv_iload_n hx hb d_Text_octet_17 rfl (lv_at hl 2 rfl) ?_
    obtain ⟨r18, h18, hm⟩ := xb1_some hm
    refine xc_i (va_runV (C := "EventGraphText$OctetRow") (As := [.int a2]) (rest := []) ⟨hx, hb, hml, hown, hts⟩ (c_OctetRow_get l dC dI dT ad (a1.toNatClampNeg) a2 u (xin_lt g1) r18 h18) (cwV 1 hts (xgV wd_501 wd_502 wd_503 wd_8 wd_504) rfl rfl rfl pd_OctetRow_get ⟨Nat.le_of_ble_eq_true rfl, Nat.le_of_ble_eq_true rfl⟩) (xpreV (C := "EventGraphText$OctetRow") (T := T_OctetRow) (N := 2) hP hK hN rfl (cW_O (xin_lt g1))) rfl rfl hl.1 rfl (lv_room (Nat.le_of_ble_eq_true rfl)) d_Text_octet_18 ⟨Nat.le_of_ble_eq_true rfl, Nat.le_of_ble_eq_true rfl⟩) hP hS (fun H locs hP hS => ?_)
    refine lv_goto (tgt := 27) hx hb d_Text_octet_21 rfl ?_
    exact hret hm hS d_Text_octet_27
set_option maxHeartbeats 4000000 in
set_option maxRecDepth 100000 in
theorem c_Text_events (l : Launch) (dC : Nat → ClassId) (dI : Nat → Nat → Nat) (dT : Nat → ClassId) (ad : Nat → Nat) (a1 : Int32) (u : xS) (out : Int32) (hm : m_Text_events a1 u = some out) : Met l y_Text_events (Cond.code y_Text_events b_Text_events 2 (some .int) :: xG) (xrm 1 21) (va_Pc [.ref (ad 0), .int a1] (xR (dC, dI) xCl (xT dT) (cW dT ad u))) (va_Qi (fun r9 (_ : Unit) => r9 = out) (fun _ _ => True) xN) 0 0 xN := by
  refine xm_roi (cc := b_Text_events) (maxL := 2) (by decide) rfl (Nat.le_of_ble_eq_true rfl) ?_
  intro p e s m args below meth c Q ls hx hb hml hts hown hK hN hP hl hret
  have hT : ∀ w ∈ xG, w.before args s = true := fun w h => hts w (List.mem_cons_of_mem _ h)
  have hown : s.vm.findClass "EventGraphText" = some m.cls := hown
  have hl : lv_has ls 2 [(0, .ref (ad 0)), (1, .int a1)] := hl
  have hS : va_S xN s.heap s.heap [] := va_S.rf
  unfold m_Text_events at hm
  refine lv_iload_n hx hb d_Text_events_0 rfl (lv_at hl 1 rfl) ?_
  obtain ⟨r1, h1, hm⟩ := xb1_some hm
  refine xc_i (va_runS (As := [.int a1]) (rest := []) ⟨hx, hb, hml, hown, hts⟩ (c_Text_isSite l a1 r1 h1) (va_cwS 1 hts (xgS wd_204 wd_205 wd_1 wd_206) rfl rfl rfl pd_Text_isSite.2 ⟨Nat.le_of_ble_eq_true rfl, Nat.le_of_ble_eq_true rfl⟩) xpreS0 rfl rfl hl.1 rfl (lv_room (Nat.le_of_ble_eq_true rfl)) d_Text_events_1 ⟨Nat.le_of_ble_eq_true rfl, Nat.le_of_ble_eq_true rfl⟩) hP hS (fun H locs hP hS => ?_)
  refine lv_if_eq (tgt := 22) hx hb d_Text_events_4 rfl (fun h => ?_) (fun h => ?_)
  · replace hm := xi_pos h hm
    refine lv_sipush (v := (-1000 : Int32)) hx hb d_Text_events_22 (by decide) ?_
    exact hret hm hS d_Text_events_25
  · replace hm := xi_neg h hm
    refine lv_aload_n hx hb d_Text_events_7 rfl (lv_at hl 0 rfl) ?_
    refine va_get (D := (dC, dI)) (ci := 7) (v := .ref (ad 18)) (C := "EventGraphText") (T := T_Text) (N := 5) hx hb hT hin_Text hown hK hP 0 cW_E rfl 3 (by decide) (hT _ wd_187) (fun _ h9 => h9) rfl d_Text_events_8 ?_
    refine lv_iload_n hx hb d_Text_events_11 rfl (lv_at hl 1 rfl) ?_
    obtain ⟨g1, hm⟩ := xg_some hm
    refine va_aldq hx hb hK hP 18 3 rfl rfl g1 d_Text_events_12 ?_
    refine W.eq (g2 := F0 m 13 ls [.ref (ad (19 + 4 * (a1.toNatClampNeg)))]) rfl ?_
    refine va_getN (D := (dC, dI)) (ci := 6) (v := .long (xs_l u (2 + (a1.toNatClampNeg)))) (C := "EventGraphText$Site") (T := T_Site) (N := 3) hx hb hT hin_Site hown hK hP (19 + 4 * (a1.toNatClampNeg)) (cW_S (xin_lt g1)) rfl 2 (by decide) (va_Nw.use rfl (nf_6 hN)) (fun _ h9 => h9) rfl d_Text_events_13 ?_
    obtain ⟨r16, h16, hm⟩ := xb1_some hm
    refine xc_i (va_runS (As := [.long (xs_l u (2 + (a1.toNatClampNeg)))]) (rest := []) ⟨hx, hb, hml, hown, hts⟩ (c_Long_bitCount l (xs_l u (2 + (a1.toNatClampNeg))) r16 h16) (va_cwS 1 hts (xgS wd_223 wd_224 wd_10 wd_225) rfl rfl rfl pd_Long_bitCount.2 ⟨Nat.le_of_ble_eq_true rfl, Nat.le_of_ble_eq_true rfl⟩) xpreS0 rfl rfl hl.1 rfl (lv_room (Nat.le_of_ble_eq_true rfl)) d_Text_events_16 ⟨Nat.le_of_ble_eq_true rfl, Nat.le_of_ble_eq_true rfl⟩) hP hS (fun H locs hP hS => ?_)
    refine lv_goto (tgt := 25) hx hb d_Text_events_19 rfl ?_
    exact hret hm hS d_Text_events_25
set_option maxHeartbeats 4000000 in
set_option maxRecDepth 100000 in
theorem c_Text_heads (l : Launch) (dC : Nat → ClassId) (dI : Nat → Nat → Nat) (dT : Nat → ClassId) (ad : Nat → Nat) (a1 : Int32) (u : xS) (out : Int32) (hm : m_Text_heads a1 u = some out) : Met l y_Text_heads (Cond.code y_Text_heads b_Text_heads 2 (some .int) :: xG) (xrm 4 89) (va_Pc [.ref (ad 0), .int a1] (xR (dC, dI) xCl (xT dT) (cW dT ad u))) (va_Qi (fun r9 (_ : Unit) => r9 = out) (fun _ _ => True) xN) 0 0 xN := by
  refine xm_roi (cc := b_Text_heads) (maxL := 2) (by decide) rfl (Nat.le_of_ble_eq_true rfl) ?_
  intro p e s m args below meth c Q ls hx hb hml hts hown hK hN hP hl hret
  have hT : ∀ w ∈ xG, w.before args s = true := fun w h => hts w (List.mem_cons_of_mem _ h)
  have hown : s.vm.findClass "EventGraphText" = some m.cls := hown
  have hl : lv_has ls 2 [(0, .ref (ad 0)), (1, .int a1)] := hl
  have hS : va_S xN s.heap s.heap [] := va_S.rf
  unfold m_Text_heads at hm
  refine lv_iload_n hx hb d_Text_heads_0 rfl (lv_at hl 1 rfl) ?_
  obtain ⟨r1, h1, hm⟩ := xb1_some hm
  refine xc_i (va_runS (As := [.int a1]) (rest := []) ⟨hx, hb, hml, hown, hts⟩ (c_Text_isSite l a1 r1 h1) (va_cwS 1 hts (xgS wd_204 wd_205 wd_1 wd_206) rfl rfl rfl pd_Text_isSite.2 ⟨Nat.le_of_ble_eq_true rfl, Nat.le_of_ble_eq_true rfl⟩) xpreS0 rfl rfl hl.1 rfl (lv_room (Nat.le_of_ble_eq_true rfl)) d_Text_heads_1 ⟨Nat.le_of_ble_eq_true rfl, Nat.le_of_ble_eq_true rfl⟩) hP hS (fun H locs hP hS => ?_)
  refine lv_if_eq (tgt := 29) hx hb d_Text_heads_4 rfl (fun h => ?_) (fun h => ?_)
  · replace hm := xi_pos h hm
    refine lv_sipush (v := (-1000 : Int32)) hx hb d_Text_heads_29 (by decide) ?_
    exact hret hm hS d_Text_heads_32
  · replace hm := xi_neg h hm
    refine lv_aload_n hx hb d_Text_heads_7 rfl (lv_at hl 0 rfl) ?_
    refine va_get (D := (dC, dI)) (ci := 7) (v := .ref (ad 1)) (C := "EventGraphText") (T := T_Text) (N := 5) hx hb hT hin_Text hown hK hP 0 cW_E rfl 0 (by decide) (hT _ wd_184) (fun _ h9 => h9) rfl d_Text_heads_8 ?_
    refine lv_aload_n hx hb d_Text_heads_11 rfl (lv_at hl 0 rfl) ?_
    refine va_get (D := (dC, dI)) (ci := 7) (v := .ref (ad 18)) (C := "EventGraphText") (T := T_Text) (N := 5) hx hb hT hin_Text hown hK hP 0 cW_E rfl 3 (by decide) (hT _ wd_187) (fun _ h9 => h9) rfl d_Text_heads_12 ?_
    refine lv_iload_n hx hb d_Text_heads_15 rfl (lv_at hl 1 rfl) ?_
    obtain ⟨g1, hm⟩ := xg_some hm
    refine va_aldq hx hb hK hP 18 3 rfl rfl g1 d_Text_heads_16 ?_
    refine W.eq (g2 := F0 m 17 ls [.ref (ad (19 + 4 * (a1.toNatClampNeg))), .ref (ad 1)]) rfl ?_
    refine va_getN (D := (dC, dI)) (ci := 6) (v := .long (xs_l u (2 + (a1.toNatClampNeg)))) (C := "EventGraphText$Site") (T := T_Site) (N := 3) hx hb hT hin_Site hown hK hP (19 + 4 * (a1.toNatClampNeg)) (cW_S (xin_lt g1)) rfl 2 (by decide) (va_Nw.use rfl (nf_6 hN)) (fun _ h9 => h9) rfl d_Text_heads_17 ?_
    obtain ⟨r20, h20, hm⟩ := xb1_some hm
    refine xc_l (va_runV (C := "EventGraphText$History") (As := [.long (xs_l u (2 + (a1.toNatClampNeg)))]) (rest := []) ⟨hx, hb, hml, hown, hts⟩ (c_History_headsOf l dC dI dT ad (xs_l u (2 + (a1.toNatClampNeg))) u r20 h20) (cwV 1 hts (xgV wd_484 wd_238 wd_239 wd_2 wd_240) rfl rfl rfl pd_History_headsOf ⟨Nat.le_of_ble_eq_true rfl, Nat.le_of_ble_eq_true rfl⟩) (xpreV (C := "EventGraphText$History") (T := T_History) (N := 9) hP hK hN rfl cW_H) rfl rfl hl.1 rfl (lv_room (Nat.le_of_ble_eq_true rfl)) d_Text_heads_20 ⟨Nat.le_of_ble_eq_true rfl, Nat.le_of_ble_eq_true rfl⟩) hP hS (fun H locs hP hS => ?_)
    obtain ⟨r23, h23, hm⟩ := xb1_some hm
    refine xc_i (va_runS (As := [.long r20]) (rest := []) ⟨hx, hb, hml, hown, hts⟩ (c_Long_bitCount l r20 r23 h23) (va_cwS 1 hts (xgS wd_223 wd_224 wd_10 wd_225) rfl rfl rfl pd_Long_bitCount.2 ⟨Nat.le_of_ble_eq_true rfl, Nat.le_of_ble_eq_true rfl⟩) xpreS0 rfl rfl hl.1 rfl (lv_room (Nat.le_of_ble_eq_true rfl)) d_Text_heads_23 ⟨Nat.le_of_ble_eq_true rfl, Nat.le_of_ble_eq_true rfl⟩) hP hS (fun H locs hP hS => ?_)
    refine lv_goto (tgt := 32) hx hb d_Text_heads_26 rfl ?_
    exact hret hm hS d_Text_heads_32
set_option maxHeartbeats 4000000 in
set_option maxRecDepth 100000 in
theorem c_Text_head (l : Launch) (dC : Nat → ClassId) (dI : Nat → Nat → Nat) (dT : Nat → ClassId) (ad : Nat → Nat) (a1 : Int32) (a2 : Int32) (u : xS) (out : Int32) (hm : m_Text_head a1 a2 u = some out) : Met l y_Text_head (Cond.code y_Text_head b_Text_head 7 (some .int) :: xG) (xrm 4 89) (va_Pc [.ref (ad 0), .int a1, .int a2] (xR (dC, dI) xCl (xT dT) (cW dT ad u))) (va_Qi (fun r9 (_ : Unit) => r9 = out) (fun _ _ => True) xN) 0 0 xN := by
  refine xm_roi (cc := b_Text_head) (maxL := 7) (by decide) rfl (Nat.le_of_ble_eq_true rfl) ?_
  intro p e s m args below meth c Q ls hx hb hml hts hown hK hN hP hl hret
  have hT : ∀ w ∈ xG, w.before args s = true := fun w h => hts w (List.mem_cons_of_mem _ h)
  have hown : s.vm.findClass "EventGraphText" = some m.cls := hown
  have hl : lv_has ls 7 [(0, .ref (ad 0)), (1, .int a1), (2, .int a2)] := hl
  have hS : va_S xN s.heap s.heap [] := va_S.rf
  have hb85 : ∀ (b5 : Int32) (H : Heap) (locs : List Loc) (ls : Array Slot), lv_has ls 7 [(0, .ref (ad 0)), (5, .int b5)] → va_P (dC, dI) xCl (cW dT ad u) H → va_S xN s.heap H locs → m_Text_head_b85 b5 u = some out → W p l e (xrm 4 89) s m args below meth c H locs 0 0 Q (F0 m 85 ls []) := by
    intro b5 H locs ls hl hP hS hm
    unfold m_Text_head_b85 at hm
    refine lv_iload hx hb d_Text_head_85 (lv_at hl 1 rfl) ?_
    refine lv_iconst (v := (-1 : Int32)) hx hb d_Text_head_87 (by decide) ?_
    refine lv_icmp_ne (tgt := 97) hx hb d_Text_head_88 rfl (fun h => ?_) (fun h => ?_)
    · replace hm := xi_neg h hm
      refine lv_aload_n hx hb d_Text_head_97 rfl (lv_at hl 0 rfl) ?_
      refine va_get (D := (dC, dI)) (ci := 7) (v := .ref (ad 1)) (C := "EventGraphText") (T := T_Text) (N := 5) hx hb hT hin_Text hown hK hP 0 cW_E rfl 0 (by decide) (hT _ wd_184) (fun _ h9 => h9) rfl d_Text_head_98 ?_
      refine lv_iload hx hb d_Text_head_101 (lv_at hl 1 rfl) ?_
      obtain ⟨r103, h103, hm⟩ := xb1_some hm
      refine xc_i (va_runV (C := "EventGraphText$History") (As := [.int b5]) (rest := []) ⟨hx, hb, hml, hown, hts⟩ (c_History_codeOf l dC dI dT ad b5 u r103 h103) (cwV 1 hts (xgV wd_518 wd_406 wd_407 wd_2 wd_408) rfl rfl rfl pd_History_codeOf ⟨Nat.le_of_ble_eq_true rfl, Nat.le_of_ble_eq_true rfl⟩) (xpreV (C := "EventGraphText$History") (T := T_History) (N := 9) hP hK hN rfl cW_H) rfl rfl hl.1 rfl (lv_room (Nat.le_of_ble_eq_true rfl)) d_Text_head_103 ⟨Nat.le_of_ble_eq_true rfl, Nat.le_of_ble_eq_true rfl⟩) hP hS (fun H locs hP hS => ?_)
      exact hret hm hS d_Text_head_106
    · replace hm := xi_pos h hm
      refine lv_sipush (v := (-1000 : Int32)) hx hb d_Text_head_91 (by decide) ?_
      refine lv_goto (tgt := 106) hx hb d_Text_head_94 rfl ?_
      exact hret hm hS d_Text_head_106
  have hs45 : ∀ (k45 : Int32 → Int64 → Int32 → Int32 → xS → Option Int32) (hk45 : ∀ (b2 : Int32) (b3 : Int64) (b5 : Int32) (b6 : Int32) (H : Heap) (locs : List Loc) (ls : Array Slot), lv_has ls 7 [(0, .ref (ad 0)), (2, .int b2), (3, .long b3), (5, .int b5), (6, .int b6)] → va_P (dC, dI) xCl (cW dT ad u) H → va_S xN s.heap H locs → k45 b2 b3 b5 b6 u = some out → W p l e (xrm 4 89) s m args below meth c H locs 0 0 Q (F0 m 45 ls [])), ∀ (b2 : Int32) (b3 : Int64) (b5 : Int32) (b6 : Int32) (H : Heap) (locs : List Loc) (ls : Array Slot), lv_has ls 7 [(0, .ref (ad 0)), (2, .int b2), (3, .long b3), (5, .int b5), (6, .int b6)] → va_P (dC, dI) xCl (cW dT ad u) H → va_S xN s.heap H locs → m_Text_head_s45 k45 b2 b3 b5 b6 u = some out → W p l e (xrm 4 89) s m args below meth c H locs 0 0 Q (F0 m 45 ls []) := by
    intro k45 hk45 b2 b3 b5 b6 H locs ls hl hP hS hm
    unfold m_Text_head_s45 at hm
    refine lv_iload hx hb d_Text_head_45 (lv_at hl 4 rfl) ?_
    refine lv_iload_n hx hb d_Text_head_47 rfl (lv_at hl 1 rfl) ?_
    refine lv_icmp_ge (tgt := 85) hx hb d_Text_head_48 rfl (fun h => ?_) (fun h => ?_)
    · replace hm := xi_pos h hm
      exact hb85 b5 _ _ _ (lv_sub hl [0, 3] rfl) hP hS hm
    · replace hm := xi_neg h hm
      refine lv_iload hx hb d_Text_head_51 (lv_at hl 3 rfl) ?_
      refine lv_iconst (v := (-1 : Int32)) hx hb d_Text_head_53 (by decide) ?_
      refine lv_icmp_eq (tgt := 85) hx hb d_Text_head_54 rfl (fun h => ?_) (fun h => ?_)
      · replace hm := xi_pos h hm
        exact hb85 b5 _ _ _ (lv_sub hl [0, 3] rfl) hP hS hm
      · replace hm := xi_neg h hm
        refine lv_lload_n hx hb d_Text_head_57 rfl (lv_at hl 2 rfl) ?_
        refine lv_iload hx hb d_Text_head_58 (lv_at hl 3 rfl) ?_
        obtain ⟨r60, h60, hm⟩ := xb1_some hm
        refine xc_l (va_runS (As := [.int b5]) (rest := [.long b3]) ⟨hx, hb, hml, hown, hts⟩ (c_Text_bit l b5 r60 h60) (va_cwS 1 hts (xgS wd_218 wd_219 wd_1 wd_220) rfl rfl rfl pd_Text_bit.2 ⟨Nat.le_of_ble_eq_true rfl, Nat.le_of_ble_eq_true rfl⟩) xpreS0 rfl rfl hl.1 rfl (lv_room (Nat.le_of_ble_eq_true rfl)) d_Text_head_60 ⟨Nat.le_of_ble_eq_true rfl, Nat.le_of_ble_eq_true rfl⟩) hP hS (fun H locs hP hS => ?_)
        refine lv_ldc2 (v := (-1 : Int64)) hx hb hown (hT _ wd_306) d_Text_head_63 ?_
        refine lv_lxor hx hb d_Text_head_66 ?_
        refine lv_land hx hb d_Text_head_67 ?_
        refine lv_lstore_n (lv' := [(3, .long (b3 &&& (r60 ^^^ (-1 : Int64)))), (0, .ref (ad 0)), (2, .int b2), (5, .int b5), (6, .int b6)]) hx hb d_Text_head_68 rfl hl (Nat.le_of_ble_eq_true rfl) rfl (fun ls hl => ?_)
        refine lv_aload_n hx hb d_Text_head_69 rfl (lv_at hl 1 rfl) ?_
        refine va_get (D := (dC, dI)) (ci := 7) (v := .ref (ad 1)) (C := "EventGraphText") (T := T_Text) (N := 5) hx hb hT hin_Text hown hK hP 0 cW_E rfl 0 (by decide) (hT _ wd_184) (fun _ h9 => h9) rfl d_Text_head_70 ?_
        refine lv_lload_n hx hb d_Text_head_73 rfl (lv_at hl 0 rfl) ?_
        obtain ⟨r74, h74, hm⟩ := xb1_some hm
        refine xc_i (va_runV (C := "EventGraphText$History") (As := [.long (b3 &&& (r60 ^^^ (-1 : Int64)))]) (rest := []) ⟨hx, hb, hml, hown, hts⟩ (c_History_leastOf l dC dI dT ad (b3 &&& (r60 ^^^ (-1 : Int64))) u r74 h74) (cwV 1 hts (xgV wd_517 wd_321 wd_322 wd_2 wd_323) rfl rfl rfl pd_History_leastOf ⟨Nat.le_of_ble_eq_true rfl, Nat.le_of_ble_eq_true rfl⟩) (xpreV (C := "EventGraphText$History") (T := T_History) (N := 9) hP hK hN rfl cW_H) rfl rfl hl.1 rfl (lv_room (Nat.le_of_ble_eq_true rfl)) d_Text_head_74 ⟨Nat.le_of_ble_eq_true rfl, Nat.le_of_ble_eq_true rfl⟩) hP hS (fun H locs hP hS => ?_)
        refine lv_istore (lv' := [(5, .int r74), (3, .long (b3 &&& (r60 ^^^ (-1 : Int64)))), (0, .ref (ad 0)), (2, .int b2), (6, .int b6)]) hx hb d_Text_head_77 hl (Nat.le_of_ble_eq_true rfl) rfl (fun ls hl => ?_)
        refine lv_iinc (k := 4) (v := (b6 + (1 : Int32))) (lv' := [(6, .int (b6 + (1 : Int32))), (5, .int r74), (3, .long (b3 &&& (r60 ^^^ (-1 : Int64)))), (0, .ref (ad 0)), (2, .int b2)]) hx hb d_Text_head_79 hl rfl rfl (Nat.le_of_ble_eq_true rfl) rfl (fun ls hl => ?_)
        refine lv_goto (tgt := 45) hx hb d_Text_head_82 rfl ?_
        exact hk45 b2 (b3 &&& (r60 ^^^ (-1 : Int64))) r74 (b6 + (1 : Int32)) _ _ _ (lv_sub hl [3, 4, 2, 1, 0] rfl) hP hS hm
  have hl45 : ∀ (fu : Nat), ∀ (b2 : Int32) (b3 : Int64) (b5 : Int32) (b6 : Int32) (H : Heap) (locs : List Loc) (ls : Array Slot), lv_has ls 7 [(0, .ref (ad 0)), (2, .int b2), (3, .long b3), (5, .int b5), (6, .int b6)] → va_P (dC, dI) xCl (cW dT ad u) H → va_S xN s.heap H locs → m_Text_head_l45 fu b2 b3 b5 b6 u = some out → W p l e (xrm 4 89) s m args below meth c H locs 0 0 Q (F0 m 45 ls []) := by
    intro fu
    induction fu with
    | zero => intro b2 b3 b5 b6 H locs ls hl hP hS hm; exact absurd hm (fun z => by cases z)
    | succ n ih => intro b2 b3 b5 b6 H locs ls hl hP hS hm; exact hs45 (m_Text_head_l45 n) ih b2 b3 b5 b6 H locs ls hl hP hS hm
  unfold m_Text_head at hm
  refine lv_iload_n hx hb d_Text_head_0 rfl (lv_at hl 1 rfl) ?_
  obtain ⟨r1, h1, hm⟩ := xb1_some hm
  refine xc_i (va_runS (As := [.int a1]) (rest := []) ⟨hx, hb, hml, hown, hts⟩ (c_Text_isSite l a1 r1 h1) (va_cwS 1 hts (xgS wd_204 wd_205 wd_1 wd_206) rfl rfl rfl pd_Text_isSite.2 ⟨Nat.le_of_ble_eq_true rfl, Nat.le_of_ble_eq_true rfl⟩) xpreS0 rfl rfl hl.1 rfl (lv_room (Nat.le_of_ble_eq_true rfl)) d_Text_head_1 ⟨Nat.le_of_ble_eq_true rfl, Nat.le_of_ble_eq_true rfl⟩) hP hS (fun H locs hP hS => ?_)
  refine lv_if_eq (tgt := 11) hx hb d_Text_head_4 rfl (fun h => ?_) (fun h => ?_)
  · replace hm := xi_pos h hm
    refine lv_sipush (v := (-1000 : Int32)) hx hb d_Text_head_11 (by decide) ?_
    exact hret hm hS d_Text_head_14
  · replace hm := xi_neg h hm
    refine lv_iload_n hx hb d_Text_head_7 rfl (lv_at hl 2 rfl) ?_
    refine lv_if_ge (tgt := 15) hx hb d_Text_head_8 rfl (fun h => ?_) (fun h => ?_)
    · replace hm := xi_pos h hm
      refine lv_aload_n hx hb d_Text_head_15 rfl (lv_at hl 0 rfl) ?_
      refine va_get (D := (dC, dI)) (ci := 7) (v := .ref (ad 1)) (C := "EventGraphText") (T := T_Text) (N := 5) hx hb hT hin_Text hown hK hP 0 cW_E rfl 0 (by decide) (hT _ wd_184) (fun _ h9 => h9) rfl d_Text_head_16 ?_
      refine lv_aload_n hx hb d_Text_head_19 rfl (lv_at hl 0 rfl) ?_
      refine va_get (D := (dC, dI)) (ci := 7) (v := .ref (ad 18)) (C := "EventGraphText") (T := T_Text) (N := 5) hx hb hT hin_Text hown hK hP 0 cW_E rfl 3 (by decide) (hT _ wd_187) (fun _ h9 => h9) rfl d_Text_head_20 ?_
      refine lv_iload_n hx hb d_Text_head_23 rfl (lv_at hl 1 rfl) ?_
      obtain ⟨g1, hm⟩ := xg_some hm
      refine va_aldq hx hb hK hP 18 3 rfl rfl g1 d_Text_head_24 ?_
      refine W.eq (g2 := F0 m 25 ls [.ref (ad (19 + 4 * (a1.toNatClampNeg))), .ref (ad 1)]) rfl ?_
      refine va_getN (D := (dC, dI)) (ci := 6) (v := .long (xs_l u (2 + (a1.toNatClampNeg)))) (C := "EventGraphText$Site") (T := T_Site) (N := 3) hx hb hT hin_Site hown hK hP (19 + 4 * (a1.toNatClampNeg)) (cW_S (xin_lt g1)) rfl 2 (by decide) (va_Nw.use rfl (nf_6 hN)) (fun _ h9 => h9) rfl d_Text_head_25 ?_
      obtain ⟨r28, h28, hm⟩ := xb1_some hm
      refine xc_l (va_runV (C := "EventGraphText$History") (As := [.long (xs_l u (2 + (a1.toNatClampNeg)))]) (rest := []) ⟨hx, hb, hml, hown, hts⟩ (c_History_headsOf l dC dI dT ad (xs_l u (2 + (a1.toNatClampNeg))) u r28 h28) (cwV 1 hts (xgV wd_484 wd_238 wd_239 wd_2 wd_240) rfl rfl rfl pd_History_headsOf ⟨Nat.le_of_ble_eq_true rfl, Nat.le_of_ble_eq_true rfl⟩) (xpreV (C := "EventGraphText$History") (T := T_History) (N := 9) hP hK hN rfl cW_H) rfl rfl hl.1 rfl (lv_room (Nat.le_of_ble_eq_true rfl)) d_Text_head_28 ⟨Nat.le_of_ble_eq_true rfl, Nat.le_of_ble_eq_true rfl⟩) hP hS (fun H locs hP hS => ?_)
      refine lv_lstore_n (lv' := [(3, .long r28), (0, .ref (ad 0)), (1, .int a1), (2, .int a2)]) hx hb d_Text_head_31 rfl hl (Nat.le_of_ble_eq_true rfl) rfl (fun ls hl => ?_)
      refine lv_aload_n hx hb d_Text_head_32 rfl (lv_at hl 1 rfl) ?_
      refine va_get (D := (dC, dI)) (ci := 7) (v := .ref (ad 1)) (C := "EventGraphText") (T := T_Text) (N := 5) hx hb hT hin_Text hown hK hP 0 cW_E rfl 0 (by decide) (hT _ wd_184) (fun _ h9 => h9) rfl d_Text_head_33 ?_
      refine lv_lload_n hx hb d_Text_head_36 rfl (lv_at hl 0 rfl) ?_
      obtain ⟨r37, h37, hm⟩ := xb1_some hm
      refine xc_i (va_runV (C := "EventGraphText$History") (As := [.long r28]) (rest := []) ⟨hx, hb, hml, hown, hts⟩ (c_History_leastOf l dC dI dT ad r28 u r37 h37) (cwV 1 hts (xgV wd_517 wd_321 wd_322 wd_2 wd_323) rfl rfl rfl pd_History_leastOf ⟨Nat.le_of_ble_eq_true rfl, Nat.le_of_ble_eq_true rfl⟩) (xpreV (C := "EventGraphText$History") (T := T_History) (N := 9) hP hK hN rfl cW_H) rfl rfl hl.1 rfl (lv_room (Nat.le_of_ble_eq_true rfl)) d_Text_head_37 ⟨Nat.le_of_ble_eq_true rfl, Nat.le_of_ble_eq_true rfl⟩) hP hS (fun H locs hP hS => ?_)
      refine lv_istore (lv' := [(5, .int r37), (3, .long r28), (0, .ref (ad 0)), (1, .int a1), (2, .int a2)]) hx hb d_Text_head_40 hl (Nat.le_of_ble_eq_true rfl) rfl (fun ls hl => ?_)
      refine lv_iconst (v := (0 : Int32)) hx hb d_Text_head_42 (by decide) ?_
      refine lv_istore (lv' := [(6, .int (0 : Int32)), (5, .int r37), (3, .long r28), (0, .ref (ad 0)), (1, .int a1), (2, .int a2)]) hx hb d_Text_head_43 hl (Nat.le_of_ble_eq_true rfl) rfl (fun ls hl => ?_)
      exact hl45 xFU a2 r28 r37 (0 : Int32) _ _ _ (lv_sub hl [3, 5, 2, 1, 0] rfl) hP hS hm
    · replace hm := xi_neg h hm
      refine lv_sipush (v := (-1000 : Int32)) hx hb d_Text_head_11 (by decide) ?_
      exact hret hm hS d_Text_head_14
set_option maxHeartbeats 4000000 in
set_option maxRecDepth 100000 in
theorem c_History_wasMade (l : Launch) (dC : Nat → ClassId) (dI : Nat → Nat → Nat) (dT : Nat → ClassId) (ad : Nat → Nat) (a1 : Int32) (a2 : Int32) (u : xS) (out : Int32) (hm : m_History_wasMade a1 a2 u = some out) : Met l y_History_wasMade (Cond.code y_History_wasMade b_History_wasMade 3 (some .boolean) :: xG) (xrm 1 20) (va_Pc [.ref (ad 1), .int a1, .int a2] (xR (dC, dI) xCl (xT dT) (cW dT ad u))) (va_Qi (fun r9 (_ : Unit) => r9 = out) (fun _ _ => True) xN) 0 0 xN := by
  refine xm_roz (cc := b_History_wasMade) (maxL := 3) (by decide) rfl (Nat.le_of_ble_eq_true rfl) ?_
  intro p e s m args below meth c Q ls hx hb hml hts hown hK hN hP hl hret
  have hT : ∀ w ∈ xG, w.before args s = true := fun w h => hts w (List.mem_cons_of_mem _ h)
  have hown : s.vm.findClass "EventGraphText$History" = some m.cls := hown
  have hl : lv_has ls 3 [(0, .ref (ad 1)), (1, .int a1), (2, .int a2)] := hl
  have hS : va_S xN s.heap s.heap [] := va_S.rf
  unfold m_History_wasMade at hm
  refine lv_iload_n hx hb d_History_wasMade_0 rfl (lv_at hl 1 rfl) ?_
  obtain ⟨r1, h1, hm⟩ := xb1_some hm
  refine xc_i (va_runSN (As := [.int a1]) (rest := []) ⟨hx, hb, hml, hown, hts⟩ (c_Text_isSite l a1 r1 h1) ⟨va_cnB 1 hts (xg0 wd_206) rfl rfl rfl (nmm_15 hN) (hT _ wd_1) pd_Text_isSite.2 ⟨Nat.le_of_ble_eq_true rfl, Nat.le_of_ble_eq_true rfl⟩, hT _ wd_205, trivial⟩ xpreS0 rfl rfl hl.1 rfl (lv_room (Nat.le_of_ble_eq_true rfl)) d_History_wasMade_1 ⟨Nat.le_of_ble_eq_true rfl, Nat.le_of_ble_eq_true rfl⟩) hP hS (fun H locs hP hS => ?_)
  refine lv_if_eq (tgt := 25) hx hb d_History_wasMade_4 rfl (fun h => ?_) (fun h => ?_)
  · replace hm := xi_pos h hm
    refine lv_iconst (v := (0 : Int32)) hx hb d_History_wasMade_25 (by decide) ?_
    exact hret hm rfl hS d_History_wasMade_26
  · replace hm := xi_neg h hm
    refine lv_iload_n hx hb d_History_wasMade_7 rfl (lv_at hl 2 rfl) ?_
    refine lv_if_lt (tgt := 25) hx hb d_History_wasMade_8 rfl (fun h => ?_) (fun h => ?_)
    · replace hm := xi_pos h hm
      refine lv_iconst (v := (0 : Int32)) hx hb d_History_wasMade_25 (by decide) ?_
      exact hret hm rfl hS d_History_wasMade_26
    · replace hm := xi_neg h hm
      refine lv_iload_n hx hb d_History_wasMade_11 rfl (lv_at hl 2 rfl) ?_
      refine lv_aload_n hx hb d_History_wasMade_12 rfl (lv_at hl 0 rfl) ?_
      refine va_get (D := (dC, dI)) (ci := 1) (v := .ref (ad 9)) (C := "EventGraphText$History") (T := T_History) (N := 9) hx hb hT hin_History hown hK hP 1 cW_H rfl 7 (by decide) (hT _ wd_32) (fun _ h9 => h9) rfl d_History_wasMade_13 ?_
      refine lv_iload_n hx hb d_History_wasMade_16 rfl (lv_at hl 1 rfl) ?_
      obtain ⟨g1, hm⟩ := xg_some hm
      refine va_iald hx hb hK hP 9 0 cW_H_made rfl g1 d_History_wasMade_17 ?_
      refine lv_icmp_ge (tgt := 25) hx hb d_History_wasMade_18 rfl (fun h => ?_) (fun h => ?_)
      · replace hm := xi_pos h hm
        refine lv_iconst (v := (0 : Int32)) hx hb d_History_wasMade_25 (by decide) ?_
        exact hret hm rfl hS d_History_wasMade_26
      · replace hm := xi_neg h hm
        refine lv_iconst (v := (1 : Int32)) hx hb d_History_wasMade_21 (by decide) ?_
        refine lv_goto (tgt := 26) hx hb d_History_wasMade_22 rfl ?_
        exact hret hm rfl hS d_History_wasMade_26
set_option maxHeartbeats 4000000 in
set_option maxRecDepth 100000 in
theorem c_History_slotOf (l : Launch) (dC : Nat → ClassId) (dI : Nat → Nat → Nat) (dT : Nat → ClassId) (ad : Nat → Nat) (a1 : Int32) (a2 : Int32) (u : xS) (out : Int32) (hm : m_History_slotOf a1 a2 u = some out) : Met l y_History_slotOf (Cond.code y_History_slotOf b_History_slotOf 3 (some .int) :: xG) (xrm 0 0) (va_Pc [.ref (ad 1), .int a1, .int a2] (xR (dC, dI) xCl (xT dT) (cW dT ad u))) (va_Qi (fun r9 (_ : Unit) => r9 = out) (fun _ _ => True) xN) 0 0 xN := by
  refine xm_roi (cc := b_History_slotOf) (maxL := 3) (by decide) rfl (Nat.le_of_ble_eq_true rfl) ?_
  intro p e s m args below meth c Q ls hx hb hml hts hown hK hN hP hl hret
  have hT : ∀ w ∈ xG, w.before args s = true := fun w h => hts w (List.mem_cons_of_mem _ h)
  have hown : s.vm.findClass "EventGraphText$History" = some m.cls := hown
  have hl : lv_has ls 3 [(0, .ref (ad 1)), (1, .int a1), (2, .int a2)] := hl
  have hS : va_S xN s.heap s.heap [] := va_S.rf
  unfold m_History_slotOf at hm
  refine lv_aload_n hx hb d_History_slotOf_0 rfl (lv_at hl 0 rfl) ?_
  refine va_get (D := (dC, dI)) (ci := 1) (v := .ref (ad 8)) (C := "EventGraphText$History") (T := T_History) (N := 9) hx hb hT hin_History hown hK hP 1 cW_H rfl 6 (by decide) (hT _ wd_31) (fun _ h9 => h9) rfl d_History_slotOf_1 ?_
  refine lv_iload_n hx hb d_History_slotOf_4 rfl (lv_at hl 1 rfl) ?_
  refine lv_bipush (v := (40 : Int32)) hx hb d_History_slotOf_5 (by decide) ?_
  refine lv_imul hx hb d_History_slotOf_7 ?_
  refine lv_iload_n hx hb d_History_slotOf_8 rfl (lv_at hl 2 rfl) ?_
  refine lv_iadd hx hb d_History_slotOf_9 ?_
  obtain ⟨g1, hm⟩ := xg_some hm
  refine va_iald hx hb hK hP 8 0 cW_H_slots rfl g1 d_History_slotOf_10 ?_
  exact hret hm hS d_History_slotOf_11
set_option maxHeartbeats 4000000 in
set_option maxRecDepth 100000 in
theorem c_Text_ancestor (l : Launch) (dC : Nat → ClassId) (dI : Nat → Nat → Nat) (dT : Nat → ClassId) (ad : Nat → Nat) (a1 : Int32) (a2 : Int32) (a3 : Int32) (a4 : Int32) (u : xS) (out : Int32) (hm : m_Text_ancestor a1 a2 a3 a4 u = some out) : Met l y_Text_ancestor (Cond.code y_Text_ancestor b_Text_ancestor 5 (some .int) :: xG) (xrm 2 42) (va_Pc [.ref (ad 0), .int a1, .int a2, .int a3, .int a4] (xR (dC, dI) xCl (xT dT) (cW dT ad u))) (va_Qi (fun r9 (_ : Unit) => r9 = out) (fun _ _ => True) xN) 0 0 xN := by
  refine xm_roi (cc := b_Text_ancestor) (maxL := 5) (by decide) rfl (Nat.le_of_ble_eq_true rfl) ?_
  intro p e s m args below meth c Q ls hx hb hml hts hown hK hN hP hl hret
  have hT : ∀ w ∈ xG, w.before args s = true := fun w h => hts w (List.mem_cons_of_mem _ h)
  have hown : s.vm.findClass "EventGraphText" = some m.cls := hown
  have hl : lv_has ls 5 [(0, .ref (ad 0)), (1, .int a1), (2, .int a2), (3, .int a3), (4, .int a4)] := hl
  have hS : va_S xN s.heap s.heap [] := va_S.rf
  unfold m_Text_ancestor at hm
  refine lv_aload_n hx hb d_Text_ancestor_0 rfl (lv_at hl 0 rfl) ?_
  refine va_get (D := (dC, dI)) (ci := 7) (v := .ref (ad 1)) (C := "EventGraphText") (T := T_Text) (N := 5) hx hb hT hin_Text hown hK hP 0 cW_E rfl 0 (by decide) (hT _ wd_184) (fun _ h9 => h9) rfl d_Text_ancestor_1 ?_
  refine lv_iload_n hx hb d_Text_ancestor_4 rfl (lv_at hl 1 rfl) ?_
  refine lv_iload_n hx hb d_Text_ancestor_5 rfl (lv_at hl 2 rfl) ?_
  obtain ⟨r6, h6, hm⟩ := xb1_some hm
  refine xc_i (va_runV (C := "EventGraphText$History") (As := [.int a1, .int a2]) (rest := []) ⟨hx, hb, hml, hown, hts⟩ (c_History_wasMade l dC dI dT ad a1 a2 u r6 h6) (cwV 2 hts (xgV wd_523 wd_524 wd_525 wd_2 wd_526) rfl rfl rfl pd_History_wasMade ⟨Nat.le_of_ble_eq_true rfl, Nat.le_of_ble_eq_true rfl⟩) (xpreV (C := "EventGraphText$History") (T := T_History) (N := 9) hP hK hN rfl cW_H) rfl rfl hl.1 rfl (lv_room (Nat.le_of_ble_eq_true rfl)) d_Text_ancestor_6 ⟨Nat.le_of_ble_eq_true rfl, Nat.le_of_ble_eq_true rfl⟩) hP hS (fun H locs hP hS => ?_)
  refine lv_if_eq (tgt := 25) hx hb d_Text_ancestor_9 rfl (fun h => ?_) (fun h => ?_)
  · replace hm := xi_pos h hm
    refine lv_sipush (v := (-1000 : Int32)) hx hb d_Text_ancestor_25 (by decide) ?_
    exact hret hm hS d_Text_ancestor_28
  · replace hm := xi_neg h hm
    refine lv_aload_n hx hb d_Text_ancestor_12 rfl (lv_at hl 0 rfl) ?_
    refine va_get (D := (dC, dI)) (ci := 7) (v := .ref (ad 1)) (C := "EventGraphText") (T := T_Text) (N := 5) hx hb hT hin_Text hown hK hP 0 cW_E rfl 0 (by decide) (hT _ wd_184) (fun _ h9 => h9) rfl d_Text_ancestor_13 ?_
    refine lv_iload_n hx hb d_Text_ancestor_16 rfl (lv_at hl 3 rfl) ?_
    refine lv_iload hx hb d_Text_ancestor_17 (lv_at hl 4 rfl) ?_
    obtain ⟨r19, h19, hm⟩ := xb1_some hm
    refine xc_i (va_runV (C := "EventGraphText$History") (As := [.int a3, .int a4]) (rest := []) ⟨hx, hb, hml, hown, hts⟩ (c_History_wasMade l dC dI dT ad a3 a4 u r19 h19) (cwV 2 hts (xgV wd_523 wd_524 wd_525 wd_2 wd_526) rfl rfl rfl pd_History_wasMade ⟨Nat.le_of_ble_eq_true rfl, Nat.le_of_ble_eq_true rfl⟩) (xpreV (C := "EventGraphText$History") (T := T_History) (N := 9) hP hK hN rfl cW_H) rfl rfl hl.1 rfl (lv_room (Nat.le_of_ble_eq_true rfl)) d_Text_ancestor_19 ⟨Nat.le_of_ble_eq_true rfl, Nat.le_of_ble_eq_true rfl⟩) hP hS (fun H locs hP hS => ?_)
    refine lv_if_ne (tgt := 29) hx hb d_Text_ancestor_22 rfl (fun h => ?_) (fun h => ?_)
    · replace hm := xi_neg h hm
      refine lv_aload_n hx hb d_Text_ancestor_29 rfl (lv_at hl 0 rfl) ?_
      refine va_get (D := (dC, dI)) (ci := 7) (v := .ref (ad 1)) (C := "EventGraphText") (T := T_Text) (N := 5) hx hb hT hin_Text hown hK hP 0 cW_E rfl 0 (by decide) (hT _ wd_184) (fun _ h9 => h9) rfl d_Text_ancestor_30 ?_
      refine lv_aload_n hx hb d_Text_ancestor_33 rfl (lv_at hl 0 rfl) ?_
      refine va_get (D := (dC, dI)) (ci := 7) (v := .ref (ad 1)) (C := "EventGraphText") (T := T_Text) (N := 5) hx hb hT hin_Text hown hK hP 0 cW_E rfl 0 (by decide) (hT _ wd_184) (fun _ h9 => h9) rfl d_Text_ancestor_34 ?_
      refine lv_iload_n hx hb d_Text_ancestor_37 rfl (lv_at hl 3 rfl) ?_
      refine lv_iload hx hb d_Text_ancestor_38 (lv_at hl 4 rfl) ?_
      obtain ⟨r40, h40, hm⟩ := xb1_some hm
      refine xc_i (va_runV (C := "EventGraphText$History") (As := [.int a3, .int a4]) (rest := [.ref (ad 1)]) ⟨hx, hb, hml, hown, hts⟩ (c_History_slotOf l dC dI dT ad a3 a4 u r40 h40) (cwV 2 hts (xgV wd_528 wd_529 wd_530 wd_2 wd_531) rfl rfl rfl pd_History_slotOf ⟨Nat.le_of_ble_eq_true rfl, Nat.le_of_ble_eq_true rfl⟩) (xpreV (C := "EventGraphText$History") (T := T_History) (N := 9) hP hK hN rfl cW_H) rfl rfl hl.1 rfl (lv_room (Nat.le_of_ble_eq_true rfl)) d_Text_ancestor_40 ⟨Nat.le_of_ble_eq_true rfl, Nat.le_of_ble_eq_true rfl⟩) hP hS (fun H locs hP hS => ?_)
      obtain ⟨r43, h43, hm⟩ := xb1_some hm
      refine xc_l (va_runV (C := "EventGraphText$History") (As := [.int r40]) (rest := []) ⟨hx, hb, hml, hown, hts⟩ (c_History_ancestorsOf l dC dI dT ad r40 u r43 h43) (cwV 1 hts (xgV wd_532 wd_454 wd_455 wd_2 wd_456) rfl rfl rfl pd_History_ancestorsOf ⟨Nat.le_of_ble_eq_true rfl, Nat.le_of_ble_eq_true rfl⟩) (xpreV (C := "EventGraphText$History") (T := T_History) (N := 9) hP hK hN rfl cW_H) rfl rfl hl.1 rfl (lv_room (Nat.le_of_ble_eq_true rfl)) d_Text_ancestor_43 ⟨Nat.le_of_ble_eq_true rfl, Nat.le_of_ble_eq_true rfl⟩) hP hS (fun H locs hP hS => ?_)
      refine lv_aload_n hx hb d_Text_ancestor_46 rfl (lv_at hl 0 rfl) ?_
      refine va_get (D := (dC, dI)) (ci := 7) (v := .ref (ad 1)) (C := "EventGraphText") (T := T_Text) (N := 5) hx hb hT hin_Text hown hK hP 0 cW_E rfl 0 (by decide) (hT _ wd_184) (fun _ h9 => h9) rfl d_Text_ancestor_47 ?_
      refine lv_iload_n hx hb d_Text_ancestor_50 rfl (lv_at hl 1 rfl) ?_
      refine lv_iload_n hx hb d_Text_ancestor_51 rfl (lv_at hl 2 rfl) ?_
      obtain ⟨r52, h52, hm⟩ := xb1_some hm
      refine xc_i (va_runV (C := "EventGraphText$History") (As := [.int a1, .int a2]) (rest := [.long r43]) ⟨hx, hb, hml, hown, hts⟩ (c_History_slotOf l dC dI dT ad a1 a2 u r52 h52) (cwV 2 hts (xgV wd_528 wd_529 wd_530 wd_2 wd_531) rfl rfl rfl pd_History_slotOf ⟨Nat.le_of_ble_eq_true rfl, Nat.le_of_ble_eq_true rfl⟩) (xpreV (C := "EventGraphText$History") (T := T_History) (N := 9) hP hK hN rfl cW_H) rfl rfl hl.1 rfl (lv_room (Nat.le_of_ble_eq_true rfl)) d_Text_ancestor_52 ⟨Nat.le_of_ble_eq_true rfl, Nat.le_of_ble_eq_true rfl⟩) hP hS (fun H locs hP hS => ?_)
      obtain ⟨r55, h55, hm⟩ := xb1_some hm
      refine xc_i (va_runS (As := [.long r43, .int r52]) (rest := []) ⟨hx, hb, hml, hown, hts⟩ (c_Text_has l r43 r52 r55 h55) (va_cwS 2 hts (xgS wd_533 wd_216 wd_1 wd_217) rfl rfl rfl pd_Text_has.2 ⟨Nat.le_of_ble_eq_true rfl, Nat.le_of_ble_eq_true rfl⟩) xpreS0 rfl rfl hl.1 rfl (lv_room (Nat.le_of_ble_eq_true rfl)) d_Text_ancestor_55 ⟨Nat.le_of_ble_eq_true rfl, Nat.le_of_ble_eq_true rfl⟩) hP hS (fun H locs hP hS => ?_)
      refine lv_if_eq (tgt := 65) hx hb d_Text_ancestor_58 rfl (fun h => ?_) (fun h => ?_)
      · replace hm := xi_pos h hm
        refine lv_iconst (v := (0 : Int32)) hx hb d_Text_ancestor_65 (by decide) ?_
        exact hret hm hS d_Text_ancestor_66
      · replace hm := xi_neg h hm
        refine lv_iconst (v := (1 : Int32)) hx hb d_Text_ancestor_61 (by decide) ?_
        refine lv_goto (tgt := 66) hx hb d_Text_ancestor_62 rfl ?_
        exact hret hm hS d_Text_ancestor_66
    · replace hm := xi_pos h hm
      refine lv_sipush (v := (-1000 : Int32)) hx hb d_Text_ancestor_25 (by decide) ?_
      exact hret hm hS d_Text_ancestor_28
set_option maxHeartbeats 4000000 in
set_option maxRecDepth 100000 in
theorem c_Text_critical (l : Launch) (dC : Nat → ClassId) (dI : Nat → Nat → Nat) (dT : Nat → ClassId) (ad : Nat → Nat) (a1 : Int32) (u : xS) (out : Int32) (hm : m_Text_critical a1 u = some out) : Met l y_Text_critical (Cond.code y_Text_critical b_Text_critical 4 (some .int) :: xG) (xrm 5 116) (va_Pc [.ref (ad 0), .int a1] (xR (dC, dI) xCl (xT dT) (cW dT ad u))) (va_Qi (fun r9 (_ : Unit) => r9 = out) (fun _ _ => True) xN) 0 0 xN := by
  refine xm_roi (cc := b_Text_critical) (maxL := 4) (by decide) rfl (Nat.le_of_ble_eq_true rfl) ?_
  intro p e s m args below meth c Q ls hx hb hml hts hown hK hN hP hl hret
  have hT : ∀ w ∈ xG, w.before args s = true := fun w h => hts w (List.mem_cons_of_mem _ h)
  have hown : s.vm.findClass "EventGraphText" = some m.cls := hown
  have hl : lv_has ls 4 [(0, .ref (ad 0)), (1, .int a1)] := hl
  have hS : va_S xN s.heap s.heap [] := va_S.rf
  unfold m_Text_critical at hm
  refine lv_iload_n hx hb d_Text_critical_0 rfl (lv_at hl 1 rfl) ?_
  obtain ⟨r1, h1, hm⟩ := xb1_some hm
  refine xc_i (va_runS (As := [.int a1]) (rest := []) ⟨hx, hb, hml, hown, hts⟩ (c_Text_isSite l a1 r1 h1) (va_cwS 1 hts (xgS wd_204 wd_205 wd_1 wd_206) rfl rfl rfl pd_Text_isSite.2 ⟨Nat.le_of_ble_eq_true rfl, Nat.le_of_ble_eq_true rfl⟩) xpreS0 rfl rfl hl.1 rfl (lv_room (Nat.le_of_ble_eq_true rfl)) d_Text_critical_1 ⟨Nat.le_of_ble_eq_true rfl, Nat.le_of_ble_eq_true rfl⟩) hP hS (fun H locs hP hS => ?_)
  refine lv_if_ne (tgt := 11) hx hb d_Text_critical_4 rfl (fun h => ?_) (fun h => ?_)
  · replace hm := xi_neg h hm
    refine lv_aload_n hx hb d_Text_critical_11 rfl (lv_at hl 0 rfl) ?_
    refine va_get (D := (dC, dI)) (ci := 7) (v := .ref (ad 18)) (C := "EventGraphText") (T := T_Text) (N := 5) hx hb hT hin_Text hown hK hP 0 cW_E rfl 3 (by decide) (hT _ wd_187) (fun _ h9 => h9) rfl d_Text_critical_12 ?_
    refine lv_iload_n hx hb d_Text_critical_15 rfl (lv_at hl 1 rfl) ?_
    obtain ⟨g1, hm⟩ := xg_some hm
    refine va_aldq hx hb hK hP 18 3 rfl rfl g1 d_Text_critical_16 ?_
    refine W.eq (g2 := F0 m 17 ls [.ref (ad (19 + 4 * (a1.toNatClampNeg)))]) rfl ?_
    refine va_getN (D := (dC, dI)) (ci := 6) (v := .long (xs_l u (2 + (a1.toNatClampNeg)))) (C := "EventGraphText$Site") (T := T_Site) (N := 3) hx hb hT hin_Site hown hK hP (19 + 4 * (a1.toNatClampNeg)) (cW_S (xin_lt g1)) rfl 2 (by decide) (va_Nw.use rfl (nf_6 hN)) (fun _ h9 => h9) rfl d_Text_critical_17 ?_
    refine lv_lstore_n (lv' := [(2, .long (xs_l u (2 + (a1.toNatClampNeg)))), (0, .ref (ad 0)), (1, .int a1)]) hx hb d_Text_critical_20 rfl hl (Nat.le_of_ble_eq_true rfl) rfl (fun ls hl => ?_)
    refine lv_aload_n hx hb d_Text_critical_21 rfl (lv_at hl 1 rfl) ?_
    refine va_get (D := (dC, dI)) (ci := 7) (v := .ref (ad 1)) (C := "EventGraphText") (T := T_Text) (N := 5) hx hb hT hin_Text hown hK hP 0 cW_E rfl 0 (by decide) (hT _ wd_184) (fun _ h9 => h9) rfl d_Text_critical_22 ?_
    refine lv_aload_n hx hb d_Text_critical_25 rfl (lv_at hl 1 rfl) ?_
    refine va_get (D := (dC, dI)) (ci := 7) (v := .ref (ad 1)) (C := "EventGraphText") (T := T_Text) (N := 5) hx hb hT hin_Text hown hK hP 0 cW_E rfl 0 (by decide) (hT _ wd_184) (fun _ h9 => h9) rfl d_Text_critical_26 ?_
    refine lv_lload_n hx hb d_Text_critical_29 rfl (lv_at hl 0 rfl) ?_
    refine lv_lload_n hx hb d_Text_critical_30 rfl (lv_at hl 0 rfl) ?_
    obtain ⟨r31, h31, hm⟩ := xb1_some hm
    refine xc_i (va_runV (C := "EventGraphText$History") (As := [.long (xs_l u (2 + (a1.toNatClampNeg))), .long (xs_l u (2 + (a1.toNatClampNeg)))]) (rest := [.ref (ad 1)]) ⟨hx, hb, hml, hown, hts⟩ (c_History_lastCritical l dC dI dT ad (xs_l u (2 + (a1.toNatClampNeg))) (xs_l u (2 + (a1.toNatClampNeg))) u r31 h31) (cwV 2 hts (xgV wd_538 wd_428 wd_429 wd_2 wd_430) rfl rfl rfl pd_History_lastCritical ⟨Nat.le_of_ble_eq_true rfl, Nat.le_of_ble_eq_true rfl⟩) (xpreV (C := "EventGraphText$History") (T := T_History) (N := 9) hP hK hN rfl cW_H) rfl rfl hl.1 rfl (lv_room (Nat.le_of_ble_eq_true rfl)) d_Text_critical_31 ⟨Nat.le_of_ble_eq_true rfl, Nat.le_of_ble_eq_true rfl⟩) hP hS (fun H locs hP hS => ?_)
    obtain ⟨r34, h34, hm⟩ := xb1_some hm
    refine xc_l (va_runV (C := "EventGraphText$History") (As := [.int r31]) (rest := []) ⟨hx, hb, hml, hown, hts⟩ (c_History_upTo l dC dI dT ad r31 u r34 h34) (cwV 1 hts (xgV wd_539 wd_436 wd_437 wd_2 wd_438) rfl rfl rfl pd_History_upTo ⟨Nat.le_of_ble_eq_true rfl, Nat.le_of_ble_eq_true rfl⟩) (xpreV (C := "EventGraphText$History") (T := T_History) (N := 9) hP hK hN rfl cW_H) rfl rfl hl.1 rfl (lv_room (Nat.le_of_ble_eq_true rfl)) d_Text_critical_34 ⟨Nat.le_of_ble_eq_true rfl, Nat.le_of_ble_eq_true rfl⟩) hP hS (fun H locs hP hS => ?_)
    obtain ⟨r37, h37, hm⟩ := xb1_some hm
    refine xc_i (va_runS (As := [.long r34]) (rest := []) ⟨hx, hb, hml, hown, hts⟩ (c_Long_bitCount l r34 r37 h37) (va_cwS 1 hts (xgS wd_223 wd_224 wd_10 wd_225) rfl rfl rfl pd_Long_bitCount.2 ⟨Nat.le_of_ble_eq_true rfl, Nat.le_of_ble_eq_true rfl⟩) xpreS0 rfl rfl hl.1 rfl (lv_room (Nat.le_of_ble_eq_true rfl)) d_Text_critical_37 ⟨Nat.le_of_ble_eq_true rfl, Nat.le_of_ble_eq_true rfl⟩) hP hS (fun H locs hP hS => ?_)
    exact hret hm hS d_Text_critical_40
  · replace hm := xi_pos h hm
    refine lv_sipush (v := (-1000 : Int32)) hx hb d_Text_critical_7 (by decide) ?_
    exact hret hm hS d_Text_critical_10
set_option maxHeartbeats 4000000 in
set_option maxRecDepth 100000 in
theorem c_Text_replayed (l : Launch) (dC : Nat → ClassId) (dI : Nat → Nat → Nat) (dT : Nat → ClassId) (ad : Nat → Nat) (a1 : Int32) (u : xS) (out : Int32) (hm : m_Text_replayed a1 u = some out) : Met l y_Text_replayed (Cond.code y_Text_replayed b_Text_replayed 2 (some .int) :: xG) (xrm 1 20) (va_Pc [.ref (ad 0), .int a1] (xR (dC, dI) xCl (xT dT) (cW dT ad u))) (va_Qi (fun r9 (_ : Unit) => r9 = out) (fun _ _ => True) xN) 0 0 xN := by
  refine xm_roi (cc := b_Text_replayed) (maxL := 2) (by decide) rfl (Nat.le_of_ble_eq_true rfl) ?_
  intro p e s m args below meth c Q ls hx hb hml hts hown hK hN hP hl hret
  have hT : ∀ w ∈ xG, w.before args s = true := fun w h => hts w (List.mem_cons_of_mem _ h)
  have hown : s.vm.findClass "EventGraphText" = some m.cls := hown
  have hl : lv_has ls 2 [(0, .ref (ad 0)), (1, .int a1)] := hl
  have hS : va_S xN s.heap s.heap [] := va_S.rf
  unfold m_Text_replayed at hm
  refine lv_iload_n hx hb d_Text_replayed_0 rfl (lv_at hl 1 rfl) ?_
  obtain ⟨r1, h1, hm⟩ := xb1_some hm
  refine xc_i (va_runS (As := [.int a1]) (rest := []) ⟨hx, hb, hml, hown, hts⟩ (c_Text_isSite l a1 r1 h1) (va_cwS 1 hts (xgS wd_204 wd_205 wd_1 wd_206) rfl rfl rfl pd_Text_isSite.2 ⟨Nat.le_of_ble_eq_true rfl, Nat.le_of_ble_eq_true rfl⟩) xpreS0 rfl rfl hl.1 rfl (lv_room (Nat.le_of_ble_eq_true rfl)) d_Text_replayed_1 ⟨Nat.le_of_ble_eq_true rfl, Nat.le_of_ble_eq_true rfl⟩) hP hS (fun H locs hP hS => ?_)
  refine lv_if_eq (tgt := 22) hx hb d_Text_replayed_4 rfl (fun h => ?_) (fun h => ?_)
  · replace hm := xi_pos h hm
    refine lv_sipush (v := (-1000 : Int32)) hx hb d_Text_replayed_22 (by decide) ?_
    exact hret hm hS d_Text_replayed_25
  · replace hm := xi_neg h hm
    refine lv_aload_n hx hb d_Text_replayed_7 rfl (lv_at hl 0 rfl) ?_
    refine va_get (D := (dC, dI)) (ci := 7) (v := .ref (ad 18)) (C := "EventGraphText") (T := T_Text) (N := 5) hx hb hT hin_Text hown hK hP 0 cW_E rfl 3 (by decide) (hT _ wd_187) (fun _ h9 => h9) rfl d_Text_replayed_8 ?_
    refine lv_iload_n hx hb d_Text_replayed_11 rfl (lv_at hl 1 rfl) ?_
    obtain ⟨g1, hm⟩ := xg_some hm
    refine va_aldq hx hb hK hP 18 3 rfl rfl g1 d_Text_replayed_12 ?_
    refine W.eq (g2 := F0 m 13 ls [.ref (ad (19 + 4 * (a1.toNatClampNeg)))]) rfl ?_
    refine va_getN (D := (dC, dI)) (ci := 6) (v := .ref (ad (21 + 4 * (a1.toNatClampNeg)))) (C := "EventGraphText$Site") (T := T_Site) (N := 3) hx hb hT hin_Site hown hK hP (19 + 4 * (a1.toNatClampNeg)) (cW_S (xin_lt g1)) rfl 1 (by decide) (va_Nw.use rfl (nf_5 hN)) (fun _ h9 => h9) rfl d_Text_replayed_13 ?_
    refine va_getN (D := (dC, dI)) (ci := 3) (v := .int (xs_i u (6 + (a1.toNatClampNeg)))) (C := "EventGraphText$Merge") (T := T_Merge) (N := 4) hx hb hT hin_Merge hown hK hP (21 + 4 * (a1.toNatClampNeg)) (cW_G (xin_lt g1)) rfl 2 (by decide) (va_Nw.use rfl (nf_2 hN)) (fun _ h9 => h9) rfl d_Text_replayed_16 ?_
    refine lv_goto (tgt := 25) hx hb d_Text_replayed_19 rfl ?_
    exact hret hm hS d_Text_replayed_25
set_option maxHeartbeats 4000000 in
set_option maxRecDepth 100000 in
theorem c_Text_moves (l : Launch) (dC : Nat → ClassId) (dI : Nat → Nat → Nat) (dT : Nat → ClassId) (ad : Nat → Nat) (a1 : Int32) (u : xS) (out : Int32) (hm : m_Text_moves a1 u = some out) : Met l y_Text_moves (Cond.code y_Text_moves b_Text_moves 2 (some .int) :: xG) (xrm 1 20) (va_Pc [.ref (ad 0), .int a1] (xR (dC, dI) xCl (xT dT) (cW dT ad u))) (va_Qi (fun r9 (_ : Unit) => r9 = out) (fun _ _ => True) xN) 0 0 xN := by
  refine xm_roi (cc := b_Text_moves) (maxL := 2) (by decide) rfl (Nat.le_of_ble_eq_true rfl) ?_
  intro p e s m args below meth c Q ls hx hb hml hts hown hK hN hP hl hret
  have hT : ∀ w ∈ xG, w.before args s = true := fun w h => hts w (List.mem_cons_of_mem _ h)
  have hown : s.vm.findClass "EventGraphText" = some m.cls := hown
  have hl : lv_has ls 2 [(0, .ref (ad 0)), (1, .int a1)] := hl
  have hS : va_S xN s.heap s.heap [] := va_S.rf
  unfold m_Text_moves at hm
  refine lv_iload_n hx hb d_Text_moves_0 rfl (lv_at hl 1 rfl) ?_
  obtain ⟨r1, h1, hm⟩ := xb1_some hm
  refine xc_i (va_runS (As := [.int a1]) (rest := []) ⟨hx, hb, hml, hown, hts⟩ (c_Text_isSite l a1 r1 h1) (va_cwS 1 hts (xgS wd_204 wd_205 wd_1 wd_206) rfl rfl rfl pd_Text_isSite.2 ⟨Nat.le_of_ble_eq_true rfl, Nat.le_of_ble_eq_true rfl⟩) xpreS0 rfl rfl hl.1 rfl (lv_room (Nat.le_of_ble_eq_true rfl)) d_Text_moves_1 ⟨Nat.le_of_ble_eq_true rfl, Nat.le_of_ble_eq_true rfl⟩) hP hS (fun H locs hP hS => ?_)
  refine lv_if_eq (tgt := 22) hx hb d_Text_moves_4 rfl (fun h => ?_) (fun h => ?_)
  · replace hm := xi_pos h hm
    refine lv_sipush (v := (-1000 : Int32)) hx hb d_Text_moves_22 (by decide) ?_
    exact hret hm hS d_Text_moves_25
  · replace hm := xi_neg h hm
    refine lv_aload_n hx hb d_Text_moves_7 rfl (lv_at hl 0 rfl) ?_
    refine va_get (D := (dC, dI)) (ci := 7) (v := .ref (ad 18)) (C := "EventGraphText") (T := T_Text) (N := 5) hx hb hT hin_Text hown hK hP 0 cW_E rfl 3 (by decide) (hT _ wd_187) (fun _ h9 => h9) rfl d_Text_moves_8 ?_
    refine lv_iload_n hx hb d_Text_moves_11 rfl (lv_at hl 1 rfl) ?_
    obtain ⟨g1, hm⟩ := xg_some hm
    refine va_aldq hx hb hK hP 18 3 rfl rfl g1 d_Text_moves_12 ?_
    refine W.eq (g2 := F0 m 13 ls [.ref (ad (19 + 4 * (a1.toNatClampNeg)))]) rfl ?_
    refine va_getN (D := (dC, dI)) (ci := 6) (v := .ref (ad (21 + 4 * (a1.toNatClampNeg)))) (C := "EventGraphText$Site") (T := T_Site) (N := 3) hx hb hT hin_Site hown hK hP (19 + 4 * (a1.toNatClampNeg)) (cW_S (xin_lt g1)) rfl 1 (by decide) (va_Nw.use rfl (nf_5 hN)) (fun _ h9 => h9) rfl d_Text_moves_13 ?_
    refine va_getN (D := (dC, dI)) (ci := 3) (v := .int (xs_i u (9 + (a1.toNatClampNeg)))) (C := "EventGraphText$Merge") (T := T_Merge) (N := 4) hx hb hT hin_Merge hown hK hP (21 + 4 * (a1.toNatClampNeg)) (cW_G (xin_lt g1)) rfl 3 (by decide) (va_Nw.use rfl (nf_3 hN)) (fun _ h9 => h9) rfl d_Text_moves_16 ?_
    refine lv_goto (tgt := 25) hx hb d_Text_moves_19 rfl ?_
    exact hret hm hS d_Text_moves_25
set_option maxHeartbeats 4000000 in
set_option maxRecDepth 100000 in
theorem c_Text_operation (l : Launch) (dC : Nat → ClassId) (dI : Nat → Nat → Nat) (dT : Nat → ClassId) (ad : Nat → Nat) (a1 : Int32) (a2 : Int32) (u : xS) (out : Int32) (hm : m_Text_operation a1 a2 u = some out) : Met l y_Text_operation (Cond.code y_Text_operation b_Text_operation 3 (some .int) :: xG) (xrm 1 20) (va_Pc [.ref (ad 0), .int a1, .int a2] (xR (dC, dI) xCl (xT dT) (cW dT ad u))) (va_Qi (fun r9 (_ : Unit) => r9 = out) (fun _ _ => True) xN) 0 0 xN := by
  refine xm_roi (cc := b_Text_operation) (maxL := 3) (by decide) rfl (Nat.le_of_ble_eq_true rfl) ?_
  intro p e s m args below meth c Q ls hx hb hml hts hown hK hN hP hl hret
  have hT : ∀ w ∈ xG, w.before args s = true := fun w h => hts w (List.mem_cons_of_mem _ h)
  have hown : s.vm.findClass "EventGraphText" = some m.cls := hown
  have hl : lv_has ls 3 [(0, .ref (ad 0)), (1, .int a1), (2, .int a2)] := hl
  have hS : va_S xN s.heap s.heap [] := va_S.rf
  unfold m_Text_operation at hm
  refine lv_iload_n hx hb d_Text_operation_0 rfl (lv_at hl 1 rfl) ?_
  obtain ⟨r1, h1, hm⟩ := xb1_some hm
  refine xc_i (va_runS (As := [.int a1]) (rest := []) ⟨hx, hb, hml, hown, hts⟩ (c_Text_isSite l a1 r1 h1) (va_cwS 1 hts (xgS wd_204 wd_205 wd_1 wd_206) rfl rfl rfl pd_Text_isSite.2 ⟨Nat.le_of_ble_eq_true rfl, Nat.le_of_ble_eq_true rfl⟩) xpreS0 rfl rfl hl.1 rfl (lv_room (Nat.le_of_ble_eq_true rfl)) d_Text_operation_1 ⟨Nat.le_of_ble_eq_true rfl, Nat.le_of_ble_eq_true rfl⟩) hP hS (fun H locs hP hS => ?_)
  refine lv_if_eq (tgt := 27) hx hb d_Text_operation_4 rfl (fun h => ?_) (fun h => ?_)
  · replace hm := xi_pos h hm
    refine lv_sipush (v := (-1000 : Int32)) hx hb d_Text_operation_27 (by decide) ?_
    exact hret hm hS d_Text_operation_30
  · replace hm := xi_neg h hm
    refine lv_iload_n hx hb d_Text_operation_7 rfl (lv_at hl 2 rfl) ?_
    refine lv_if_lt (tgt := 27) hx hb d_Text_operation_8 rfl (fun h => ?_) (fun h => ?_)
    · replace hm := xi_pos h hm
      refine lv_sipush (v := (-1000 : Int32)) hx hb d_Text_operation_27 (by decide) ?_
      exact hret hm hS d_Text_operation_30
    · replace hm := xi_neg h hm
      refine lv_iload_n hx hb d_Text_operation_11 rfl (lv_at hl 2 rfl) ?_
      refine lv_aload_n hx hb d_Text_operation_12 rfl (lv_at hl 0 rfl) ?_
      refine va_get (D := (dC, dI)) (ci := 7) (v := .ref (ad 18)) (C := "EventGraphText") (T := T_Text) (N := 5) hx hb hT hin_Text hown hK hP 0 cW_E rfl 3 (by decide) (hT _ wd_187) (fun _ h9 => h9) rfl d_Text_operation_13 ?_
      refine lv_iload_n hx hb d_Text_operation_16 rfl (lv_at hl 1 rfl) ?_
      obtain ⟨g1, hm⟩ := xg_some hm
      refine va_aldq hx hb hK hP 18 3 rfl rfl g1 d_Text_operation_17 ?_
      refine W.eq (g2 := F0 m 18 ls [.ref (ad (19 + 4 * (a1.toNatClampNeg))), .int a2]) rfl ?_
      refine va_getN (D := (dC, dI)) (ci := 6) (v := .ref (ad (21 + 4 * (a1.toNatClampNeg)))) (C := "EventGraphText$Site") (T := T_Site) (N := 3) hx hb hT hin_Site hown hK hP (19 + 4 * (a1.toNatClampNeg)) (cW_S (xin_lt g1)) rfl 1 (by decide) (va_Nw.use rfl (nf_5 hN)) (fun _ h9 => h9) rfl d_Text_operation_18 ?_
      refine va_getN (D := (dC, dI)) (ci := 3) (v := .int (xs_i u (3 + (a1.toNatClampNeg)))) (C := "EventGraphText$Merge") (T := T_Merge) (N := 4) hx hb hT hin_Merge hown hK hP (21 + 4 * (a1.toNatClampNeg)) (cW_G (xin_lt g1)) rfl 1 (by decide) (va_Nw.use rfl (nf_1 hN)) (fun _ h9 => h9) rfl d_Text_operation_21 ?_
      refine lv_icmp_lt (tgt := 31) hx hb d_Text_operation_24 rfl (fun h => ?_) (fun h => ?_)
      · replace hm := xi_pos h hm
        refine lv_aload_n hx hb d_Text_operation_31 rfl (lv_at hl 0 rfl) ?_
        refine va_get (D := (dC, dI)) (ci := 7) (v := .ref (ad 18)) (C := "EventGraphText") (T := T_Text) (N := 5) hx hb hT hin_Text hown hK hP 0 cW_E rfl 3 (by decide) (hT _ wd_187) (fun _ h9 => h9) rfl d_Text_operation_32 ?_
        refine lv_iload_n hx hb d_Text_operation_35 rfl (lv_at hl 1 rfl) ?_
        refine va_aldq hx hb hK hP 18 3 rfl rfl g1 d_Text_operation_36 ?_
        refine W.eq (g2 := F0 m 37 ls [.ref (ad (19 + 4 * (a1.toNatClampNeg)))]) rfl ?_
        refine va_getN (D := (dC, dI)) (ci := 6) (v := .ref (ad (21 + 4 * (a1.toNatClampNeg)))) (C := "EventGraphText$Site") (T := T_Site) (N := 3) hx hb hT hin_Site hown hK hP (19 + 4 * (a1.toNatClampNeg)) (cW_S (xin_lt g1)) rfl 1 (by decide) (va_Nw.use rfl (nf_5 hN)) (fun _ h9 => h9) rfl d_Text_operation_37 ?_
        refine va_getN (D := (dC, dI)) (ci := 3) (v := .ref (ad (22 + 4 * (a1.toNatClampNeg)))) (C := "EventGraphText$Merge") (T := T_Merge) (N := 4) hx hb hT hin_Merge hown hK hP (21 + 4 * (a1.toNatClampNeg)) (cW_G (xin_lt g1)) rfl 0 (by decide) (va_Nw.use rfl (nf_0 hN)) (fun _ h9 => h9) rfl d_Text_operation_40 ?_
        refine lv_iload_n hx hb d_Text_operation_43 rfl (lv_at hl 2 rfl) ?_
        obtain ⟨g2, hm⟩ := xg_some hm
        refine va_iald hx hb hK hP (22 + 4 * (a1.toNatClampNeg)) 0 (cW_G_operations (xin_lt g1)) rfl g2 d_Text_operation_44 ?_
        exact hret hm hS d_Text_operation_45
      · replace hm := xi_neg h hm
        refine lv_sipush (v := (-1000 : Int32)) hx hb d_Text_operation_27 (by decide) ?_
        exact hret hm hS d_Text_operation_30
