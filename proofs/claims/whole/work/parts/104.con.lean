set_option maxHeartbeats 4000000 in
set_option maxRecDepth 100000 in
theorem c_Message_writeKinds (l : Launch) (dC : Nat → ClassId) (dI : Nat → Nat → Nat) (dT : Nat → ClassId) (ad : Nat → Nat) (hD : ∀ u, va_D (xA ad 50) (cW dT ad u)) (j : Nat) (u : xS) (hj : j < 6) (u1 : xS) (hm : m_Message_writeKinds j u = some u1) : Met l y_Message_writeKinds (Cond.code y_Message_writeKinds b_Message_writeKinds 6 none :: xG) (xrm 2 44) (va_Pc [.ref (ad (32 + 3 * j)), .ref (ad 1), .ref (ad 16)] (xR (dC, dI) xCl (xT dT) (cW dT ad u))) (va_Qv (fun (u9 : xS) => u9 = u1) (fun u9 t => va_P (dC, dI) xCl (cW dT ad u9) t.heap) (xA ad 50)) 0 0 (xA ad 50) := by
  refine xm_rwv (Wd := cW dT ad) (cc := b_Message_writeKinds) (maxL := 6) (by decide) rfl (Nat.le_of_ble_eq_true rfl) ?_
  intro p e s m args below meth c Q ls hx hb hml hts hown hK hN hP hl hret
  have hT : ∀ w ∈ xG, w.before args s = true := fun w h => hts w (List.mem_cons_of_mem _ h)
  have hown : s.vm.findClass "EventGraphText$Message" = some m.cls := hown
  have hl : lv_has ls 6 [(0, .ref (ad (32 + 3 * j))), (1, .ref (ad 1)), (2, .ref (ad 16))] := hl
  have hS : va_S (xA ad 50) s.heap s.heap [] := va_S.rf
  have hs8 : ∀ (k8 : Nat → Int32 → Int32 → Int32 → xS → Option xS) (hk8 : ∀ (b3 : Int32) (b4 : Int32) (b5 : Int32) (u : xS) (H : Heap) (locs : List Loc) (ls : Array Slot), lv_has ls 6 [(0, .ref (ad (32 + 3 * j))), (1, .ref (ad 1)), (2, .ref (ad 16)), (3, .int b3), (4, .int b4), (5, .int b5)] → va_P (dC, dI) xCl (cW dT ad u) H → va_S (xA ad 50) s.heap H locs → k8 j b3 b4 b5 u = some u1 → W p l e (xrm 2 44) s m args below meth c H locs 0 0 Q (F0 m 8 ls [])), ∀ (b3 : Int32) (b4 : Int32) (b5 : Int32) (u : xS) (H : Heap) (locs : List Loc) (ls : Array Slot), lv_has ls 6 [(0, .ref (ad (32 + 3 * j))), (1, .ref (ad 1)), (2, .ref (ad 16)), (3, .int b3), (4, .int b4), (5, .int b5)] → va_P (dC, dI) xCl (cW dT ad u) H → va_S (xA ad 50) s.heap H locs → m_Message_writeKinds_s8 k8 j b3 b4 b5 u = some u1 → W p l e (xrm 2 44) s m args below meth c H locs 0 0 Q (F0 m 8 ls []) := by
    intro k8 hk8 b3 b4 b5 u H locs ls hl hP hS hm
    unfold m_Message_writeKinds_s8 at hm
    refine lv_iload hx hb d_Message_writeKinds_8 (lv_at hl 5 rfl) ?_
    refine lv_aload_n hx hb d_Message_writeKinds_10 rfl (lv_at hl 2 rfl) ?_
    obtain ⟨r11, h11, hm⟩ := xb1_some hm
    refine xc_i (va_runV (C := "EventGraphText$Line") (As := []) (rest := [.int b5]) ⟨hx, hb, hml, hown, hts⟩ (c_Line_size l dC dI dT ad u r11 h11) (cwV 0 hts (xgV wd_339 wd_340 wd_341 wd_4 wd_342) rfl rfl rfl pd_Line_size ⟨Nat.le_of_ble_eq_true rfl, Nat.le_of_ble_eq_true rfl⟩) (xpreV (C := "EventGraphText$Line") (T := T_Line) (N := 2) hP hK hN rfl cW_N) rfl rfl hl.1 rfl (lv_room (Nat.le_of_ble_eq_true rfl)) d_Message_writeKinds_11 ⟨Nat.le_of_ble_eq_true rfl, Nat.le_of_ble_eq_true rfl⟩) hP hS (fun H locs hP hS => ?_)
    refine lv_icmp_ge (tgt := 62) hx hb d_Message_writeKinds_14 rfl (fun h => ?_) (fun h => ?_)
    · replace hm := xi_pos h hm
      refine lv_aload_n hx hb d_Message_writeKinds_62 rfl (lv_at hl 0 rfl) ?_
      refine va_get (D := (dC, dI)) (ci := 4) (v := .ref (ad (33 + 3 * j))) (C := "EventGraphText$Message") (T := T_Message) (N := 5) hx hb hT hin_Message hown hK hP (32 + 3 * j) (cW_M hj) rfl 0 (by decide) (hT _ wd_163) (fun _ h9 => h9) rfl d_Message_writeKinds_63 ?_
      refine lv_iload hx hb d_Message_writeKinds_66 (lv_at hl 4 rfl) ?_
      obtain ⟨u68, h68, hm⟩ := xb1_some hm
      refine xc_vw (Wd := cW dT ad) (va_runV (C := "EventGraphText$OctetRow") (As := [.int b4]) (rest := []) ⟨hx, hb, hml, hown, hts⟩ (c_OctetRow_put l dC dI dT ad hD j b4 u hj u68 h68) (cwV 1 hts (xgV wd_343 wd_344 wd_345 wd_8 wd_346) rfl rfl rfl pd_OctetRow_put ⟨Nat.le_of_ble_eq_true rfl, Nat.le_of_ble_eq_true rfl⟩) (xpreV (C := "EventGraphText$OctetRow") (T := T_OctetRow) (N := 2) hP hK hN rfl (cW_O hj)) rfl rfl hl.1 rfl (lv_room (Nat.le_of_ble_eq_true rfl)) d_Message_writeKinds_68 ⟨Nat.le_of_ble_eq_true rfl, Nat.le_of_ble_eq_true rfl⟩) hS (fun _ h => h) (fun H locs hP hS => ?_)
      exact hret hm hP hS d_Message_writeKinds_71
    · replace hm := xi_neg h hm
      refine lv_aload_n hx hb d_Message_writeKinds_17 rfl (lv_at hl 1 rfl) ?_
      refine lv_aload_n hx hb d_Message_writeKinds_18 rfl (lv_at hl 2 rfl) ?_
      refine lv_iload hx hb d_Message_writeKinds_19 (lv_at hl 5 rfl) ?_
      obtain ⟨r21, h21, hm⟩ := xb1_some hm
      refine xc_i (va_runV (C := "EventGraphText$Line") (As := [.int b5]) (rest := [.ref (ad 1)]) ⟨hx, hb, hml, hown, hts⟩ (c_Line_get l dC dI dT ad b5 u r21 h21) (cwV 1 hts (xgV wd_355 wd_356 wd_357 wd_4 wd_358) rfl rfl rfl pd_Line_get ⟨Nat.le_of_ble_eq_true rfl, Nat.le_of_ble_eq_true rfl⟩) (xpreV (C := "EventGraphText$Line") (T := T_Line) (N := 2) hP hK hN rfl cW_N) rfl rfl hl.1 rfl (lv_room (Nat.le_of_ble_eq_true rfl)) d_Message_writeKinds_21 ⟨Nat.le_of_ble_eq_true rfl, Nat.le_of_ble_eq_true rfl⟩) hP hS (fun H locs hP hS => ?_)
      obtain ⟨r24, h24, hm⟩ := xb1_some hm
      refine xc_i (va_runV (C := "EventGraphText$History") (As := [.int r21]) (rest := []) ⟨hx, hb, hml, hown, hts⟩ (c_History_isInsert l dC dI dT ad r21 u r24 h24) (cwV 1 hts (xgV wd_368 wd_369 wd_370 wd_2 wd_371) rfl rfl rfl pd_History_isInsert ⟨Nat.le_of_ble_eq_true rfl, Nat.le_of_ble_eq_true rfl⟩) (xpreV (C := "EventGraphText$History") (T := T_History) (N := 9) hP hK hN rfl cW_H) rfl rfl hl.1 rfl (lv_room (Nat.le_of_ble_eq_true rfl)) d_Message_writeKinds_24 ⟨Nat.le_of_ble_eq_true rfl, Nat.le_of_ble_eq_true rfl⟩) hP hS (fun H locs hP hS => ?_)
      refine lv_iload_n hx hb d_Message_writeKinds_27 rfl (lv_at hl 3 rfl) ?_
      refine lv_icmp_eq (tgt := 53) hx hb d_Message_writeKinds_28 rfl (fun h => ?_) (fun h => ?_)
      · replace hm := xi_pos h hm
        refine lv_iinc (k := 4) (v := (b4 + (1 : Int32))) (lv' := [(4, .int (b4 + (1 : Int32))), (0, .ref (ad (32 + 3 * j))), (1, .ref (ad 1)), (2, .ref (ad 16)), (3, .int b3), (5, .int b5)]) hx hb d_Message_writeKinds_53 hl rfl rfl (Nat.le_of_ble_eq_true rfl) rfl (fun ls hl => ?_)
        refine lv_iinc (k := 5) (v := (b5 + (1 : Int32))) (lv' := [(5, .int (b5 + (1 : Int32))), (4, .int (b4 + (1 : Int32))), (0, .ref (ad (32 + 3 * j))), (1, .ref (ad 1)), (2, .ref (ad 16)), (3, .int b3)]) hx hb d_Message_writeKinds_56 hl rfl rfl (Nat.le_of_ble_eq_true rfl) rfl (fun ls hl => ?_)
        refine lv_goto (tgt := 8) hx hb d_Message_writeKinds_59 rfl ?_
        exact hk8 b3 (b4 + (1 : Int32)) (b5 + (1 : Int32)) u _ _ _ (lv_sub hl [2, 3, 4, 5, 1, 0] rfl) hP hS hm
      · replace hm := xi_neg h hm
        refine lv_aload_n hx hb d_Message_writeKinds_31 rfl (lv_at hl 0 rfl) ?_
        refine va_get (D := (dC, dI)) (ci := 4) (v := .ref (ad (33 + 3 * j))) (C := "EventGraphText$Message") (T := T_Message) (N := 5) hx hb hT hin_Message hown hK hP (32 + 3 * j) (cW_M hj) rfl 0 (by decide) (hT _ wd_163) (fun _ h9 => h9) rfl d_Message_writeKinds_32 ?_
        refine lv_iload hx hb d_Message_writeKinds_35 (lv_at hl 4 rfl) ?_
        obtain ⟨u37, h37, hm⟩ := xb1_some hm
        refine xc_vw (Wd := cW dT ad) (va_runV (C := "EventGraphText$OctetRow") (As := [.int b4]) (rest := []) ⟨hx, hb, hml, hown, hts⟩ (c_OctetRow_put l dC dI dT ad hD j b4 u hj u37 h37) (cwV 1 hts (xgV wd_343 wd_344 wd_345 wd_8 wd_346) rfl rfl rfl pd_OctetRow_put ⟨Nat.le_of_ble_eq_true rfl, Nat.le_of_ble_eq_true rfl⟩) (xpreV (C := "EventGraphText$OctetRow") (T := T_OctetRow) (N := 2) hP hK hN rfl (cW_O hj)) rfl rfl hl.1 rfl (lv_room (Nat.le_of_ble_eq_true rfl)) d_Message_writeKinds_37 ⟨Nat.le_of_ble_eq_true rfl, Nat.le_of_ble_eq_true rfl⟩) hS (fun _ h => h) (fun H locs hP hS => ?_)
        refine lv_iload_n hx hb d_Message_writeKinds_40 rfl (lv_at hl 3 rfl) ?_
        refine lv_if_ne (tgt := 48) hx hb d_Message_writeKinds_41 rfl (fun h => ?_) (fun h => ?_)
        · replace hm := xi_neg h hm
          refine lv_iconst (v := (0 : Int32)) hx hb d_Message_writeKinds_48 (by decide) ?_
          refine lv_istore_n (lv' := [(3, .int (0 : Int32)), (0, .ref (ad (32 + 3 * j))), (1, .ref (ad 1)), (2, .ref (ad 16)), (4, .int b4), (5, .int b5)]) hx hb d_Message_writeKinds_49 rfl hl (Nat.le_of_ble_eq_true rfl) rfl (fun ls hl => ?_)
          refine lv_iconst (v := (0 : Int32)) hx hb d_Message_writeKinds_50 (by decide) ?_
          refine lv_istore (lv' := [(4, .int (0 : Int32)), (3, .int (0 : Int32)), (0, .ref (ad (32 + 3 * j))), (1, .ref (ad 1)), (2, .ref (ad 16)), (5, .int b5)]) hx hb d_Message_writeKinds_51 hl (Nat.le_of_ble_eq_true rfl) rfl (fun ls hl => ?_)
          refine lv_iinc (k := 0) (v := ((0 : Int32) + (1 : Int32))) (lv' := [(4, .int ((0 : Int32) + (1 : Int32))), (3, .int (0 : Int32)), (0, .ref (ad (32 + 3 * j))), (1, .ref (ad 1)), (2, .ref (ad 16)), (5, .int b5)]) hx hb d_Message_writeKinds_53 hl rfl rfl (Nat.le_of_ble_eq_true rfl) rfl (fun ls hl => ?_)
          refine lv_iinc (k := 5) (v := (b5 + (1 : Int32))) (lv' := [(5, .int (b5 + (1 : Int32))), (4, .int ((0 : Int32) + (1 : Int32))), (3, .int (0 : Int32)), (0, .ref (ad (32 + 3 * j))), (1, .ref (ad 1)), (2, .ref (ad 16))]) hx hb d_Message_writeKinds_56 hl rfl rfl (Nat.le_of_ble_eq_true rfl) rfl (fun ls hl => ?_)
          refine lv_goto (tgt := 8) hx hb d_Message_writeKinds_59 rfl ?_
          exact hk8 (0 : Int32) ((0 : Int32) + (1 : Int32)) (b5 + (1 : Int32)) u37 _ _ _ (lv_sub hl [3, 4, 5, 2, 1, 0] rfl) hP hS hm
        · replace hm := xi_pos h hm
          refine lv_iconst (v := (1 : Int32)) hx hb d_Message_writeKinds_44 (by decide) ?_
          refine lv_goto (tgt := 49) hx hb d_Message_writeKinds_45 rfl ?_
          refine lv_istore_n (lv' := [(3, .int (1 : Int32)), (0, .ref (ad (32 + 3 * j))), (1, .ref (ad 1)), (2, .ref (ad 16)), (4, .int b4), (5, .int b5)]) hx hb d_Message_writeKinds_49 rfl hl (Nat.le_of_ble_eq_true rfl) rfl (fun ls hl => ?_)
          refine lv_iconst (v := (0 : Int32)) hx hb d_Message_writeKinds_50 (by decide) ?_
          refine lv_istore (lv' := [(4, .int (0 : Int32)), (3, .int (1 : Int32)), (0, .ref (ad (32 + 3 * j))), (1, .ref (ad 1)), (2, .ref (ad 16)), (5, .int b5)]) hx hb d_Message_writeKinds_51 hl (Nat.le_of_ble_eq_true rfl) rfl (fun ls hl => ?_)
          refine lv_iinc (k := 0) (v := ((0 : Int32) + (1 : Int32))) (lv' := [(4, .int ((0 : Int32) + (1 : Int32))), (3, .int (1 : Int32)), (0, .ref (ad (32 + 3 * j))), (1, .ref (ad 1)), (2, .ref (ad 16)), (5, .int b5)]) hx hb d_Message_writeKinds_53 hl rfl rfl (Nat.le_of_ble_eq_true rfl) rfl (fun ls hl => ?_)
          refine lv_iinc (k := 5) (v := (b5 + (1 : Int32))) (lv' := [(5, .int (b5 + (1 : Int32))), (4, .int ((0 : Int32) + (1 : Int32))), (3, .int (1 : Int32)), (0, .ref (ad (32 + 3 * j))), (1, .ref (ad 1)), (2, .ref (ad 16))]) hx hb d_Message_writeKinds_56 hl rfl rfl (Nat.le_of_ble_eq_true rfl) rfl (fun ls hl => ?_)
          refine lv_goto (tgt := 8) hx hb d_Message_writeKinds_59 rfl ?_
          exact hk8 (1 : Int32) ((0 : Int32) + (1 : Int32)) (b5 + (1 : Int32)) u37 _ _ _ (lv_sub hl [3, 4, 5, 2, 1, 0] rfl) hP hS hm
  have hl8 : ∀ (fu : Nat), ∀ (b3 : Int32) (b4 : Int32) (b5 : Int32) (u : xS) (H : Heap) (locs : List Loc) (ls : Array Slot), lv_has ls 6 [(0, .ref (ad (32 + 3 * j))), (1, .ref (ad 1)), (2, .ref (ad 16)), (3, .int b3), (4, .int b4), (5, .int b5)] → va_P (dC, dI) xCl (cW dT ad u) H → va_S (xA ad 50) s.heap H locs → m_Message_writeKinds_l8 fu j b3 b4 b5 u = some u1 → W p l e (xrm 2 44) s m args below meth c H locs 0 0 Q (F0 m 8 ls []) := by
    intro fu
    induction fu with
    | zero => intro b3 b4 b5 u H locs ls hl hP hS hm; exact absurd hm (fun z => by cases z)
    | succ n ih => intro b3 b4 b5 u H locs ls hl hP hS hm; exact hs8 (m_Message_writeKinds_l8 n) ih b3 b4 b5 u H locs ls hl hP hS hm
  unfold m_Message_writeKinds at hm
  refine lv_iconst (v := (1 : Int32)) hx hb d_Message_writeKinds_0 (by decide) ?_
  refine lv_istore_n (lv' := [(3, .int (1 : Int32)), (0, .ref (ad (32 + 3 * j))), (1, .ref (ad 1)), (2, .ref (ad 16))]) hx hb d_Message_writeKinds_1 rfl hl (Nat.le_of_ble_eq_true rfl) rfl (fun ls hl => ?_)
  refine lv_iconst (v := (0 : Int32)) hx hb d_Message_writeKinds_2 (by decide) ?_
  refine lv_istore (lv' := [(4, .int (0 : Int32)), (3, .int (1 : Int32)), (0, .ref (ad (32 + 3 * j))), (1, .ref (ad 1)), (2, .ref (ad 16))]) hx hb d_Message_writeKinds_3 hl (Nat.le_of_ble_eq_true rfl) rfl (fun ls hl => ?_)
  refine lv_iconst (v := (0 : Int32)) hx hb d_Message_writeKinds_5 (by decide) ?_
  refine lv_istore (lv' := [(5, .int (0 : Int32)), (4, .int (0 : Int32)), (3, .int (1 : Int32)), (0, .ref (ad (32 + 3 * j))), (1, .ref (ad 1)), (2, .ref (ad 16))]) hx hb d_Message_writeKinds_6 hl (Nat.le_of_ble_eq_true rfl) rfl (fun ls hl => ?_)
  exact hl8 xFU (1 : Int32) (0 : Int32) (0 : Int32) u _ _ _ (lv_sub hl [3, 4, 5, 2, 1, 0] rfl) hP hS hm
set_option maxHeartbeats 4000000 in
set_option maxRecDepth 100000 in
theorem c_History_indexOf (l : Launch) (dC : Nat → ClassId) (dI : Nat → Nat → Nat) (dT : Nat → ClassId) (ad : Nat → Nat) (a1 : Int32) (u : xS) (out : Int32) (hm : m_History_indexOf a1 u = some out) : Met l y_History_indexOf (Cond.code y_History_indexOf b_History_indexOf 2 (some .int) :: xG) (xrm 0 0) (va_Pc [.ref (ad 1), .int a1] (xR (dC, dI) xCl (xT dT) (cW dT ad u))) (va_Qi (fun r9 (_ : Unit) => r9 = out) (fun _ _ => True) xN) 0 0 xN := by
  refine xm_roi (cc := b_History_indexOf) (maxL := 2) (by decide) rfl (Nat.le_of_ble_eq_true rfl) ?_
  intro p e s m args below meth c Q ls hx hb hml hts hown hK hN hP hl hret
  have hT : ∀ w ∈ xG, w.before args s = true := fun w h => hts w (List.mem_cons_of_mem _ h)
  have hown : s.vm.findClass "EventGraphText$History" = some m.cls := hown
  have hl : lv_has ls 2 [(0, .ref (ad 1)), (1, .int a1)] := hl
  have hS : va_S xN s.heap s.heap [] := va_S.rf
  unfold m_History_indexOf at hm
  refine lv_aload_n hx hb d_History_indexOf_0 rfl (lv_at hl 0 rfl) ?_
  refine va_get (D := (dC, dI)) (ci := 1) (v := .ref (ad 4)) (C := "EventGraphText$History") (T := T_History) (N := 9) hx hb hT hin_History hown hK hP 1 cW_H rfl 2 (by decide) (hT _ wd_27) (fun _ h9 => h9) rfl d_History_indexOf_1 ?_
  refine lv_iload_n hx hb d_History_indexOf_4 rfl (lv_at hl 1 rfl) ?_
  obtain ⟨g1, hm⟩ := xg_some hm
  refine va_iald hx hb hK hP 4 0 cW_H_indices rfl g1 d_History_indexOf_5 ?_
  exact hret hm hS d_History_indexOf_6
set_option maxHeartbeats 4000000 in
set_option maxRecDepth 100000 in
theorem c_OctetRow_putSigned (l : Launch) (dC : Nat → ClassId) (dI : Nat → Nat → Nat) (dT : Nat → ClassId) (ad : Nat → Nat) (hD : ∀ u, va_D (xA ad 50) (cW dT ad u)) (j : Nat) (a1 : Int32) (u : xS) (hj : j < 6) (u1 : xS) (hm : m_OctetRow_putSigned j a1 u = some u1) : Met l y_OctetRow_putSigned (Cond.code y_OctetRow_putSigned b_OctetRow_putSigned 2 none :: xG) (xrm 2 44) (va_Pc [.ref (ad (33 + 3 * j)), .int a1] (xR (dC, dI) xCl (xT dT) (cW dT ad u))) (va_Qv (fun (u9 : xS) => u9 = u1) (fun u9 t => va_P (dC, dI) xCl (cW dT ad u9) t.heap) (xA ad 50)) 0 0 (xA ad 50) := by
  refine xm_rwv (Wd := cW dT ad) (cc := b_OctetRow_putSigned) (maxL := 2) (by decide) rfl (Nat.le_of_ble_eq_true rfl) ?_
  intro p e s m args below meth c Q ls hx hb hml hts hown hK hN hP hl hret
  have hT : ∀ w ∈ xG, w.before args s = true := fun w h => hts w (List.mem_cons_of_mem _ h)
  have hown : s.vm.findClass "EventGraphText$OctetRow" = some m.cls := hown
  have hl : lv_has ls 2 [(0, .ref (ad (33 + 3 * j))), (1, .int a1)] := hl
  have hS : va_S (xA ad 50) s.heap s.heap [] := va_S.rf
  have hb17 : ∀ (t0 : Int32) (u : xS) (H : Heap) (locs : List Loc) (ls : Array Slot), lv_has ls 2 [] → va_P (dC, dI) xCl (cW dT ad u) H → va_S (xA ad 50) s.heap H locs → m_OctetRow_putSigned_b17 j t0 u = some u1 → W p l e (xrm 2 44) s m args below meth c H locs 0 0 Q (F0 m 17 ls [.int t0, .ref (ad (33 + 3 * j))]) := by
    intro t0 u H locs ls hl hP hS hm
    unfold m_OctetRow_putSigned_b17 at hm
    obtain ⟨u17, h17, hm⟩ := xb1_some hm
    refine xc_vw (Wd := cW dT ad) (va_runV (C := "EventGraphText$OctetRow") (As := [.int t0]) (rest := []) ⟨hx, hb, hml, hown, hts⟩ (c_OctetRow_put l dC dI dT ad hD j t0 u hj u17 h17) (cwV 1 hts (xgV wd_384 wd_344 wd_345 wd_8 wd_346) rfl rfl rfl pd_OctetRow_put ⟨Nat.le_of_ble_eq_true rfl, Nat.le_of_ble_eq_true rfl⟩) (xpreV (C := "EventGraphText$OctetRow") (T := T_OctetRow) (N := 2) hP hK hN rfl (cW_O hj)) rfl rfl hl.1 rfl (lv_room (Nat.le_of_ble_eq_true rfl)) d_OctetRow_putSigned_17 ⟨Nat.le_of_ble_eq_true rfl, Nat.le_of_ble_eq_true rfl⟩) hS (fun _ h => h) (fun H locs hP hS => ?_)
    exact hret hm hP hS d_OctetRow_putSigned_20
  unfold m_OctetRow_putSigned at hm
  refine lv_aload_n hx hb d_OctetRow_putSigned_0 rfl (lv_at hl 0 rfl) ?_
  refine lv_iload_n hx hb d_OctetRow_putSigned_1 rfl (lv_at hl 1 rfl) ?_
  refine lv_if_ge (tgt := 14) hx hb d_OctetRow_putSigned_2 rfl (fun h => ?_) (fun h => ?_)
  · replace hm := xi_pos h hm
    refine lv_iconst (v := (2 : Int32)) hx hb d_OctetRow_putSigned_14 (by decide) ?_
    refine lv_iload_n hx hb d_OctetRow_putSigned_15 rfl (lv_at hl 1 rfl) ?_
    refine lv_imul hx hb d_OctetRow_putSigned_16 ?_
    exact hb17 ((2 : Int32) * a1) u _ _ _ (lv_sub hl [] rfl) hP hS hm
  · replace hm := xi_neg h hm
    refine lv_bipush (v := (-2 : Int32)) hx hb d_OctetRow_putSigned_5 (by decide) ?_
    refine lv_iload_n hx hb d_OctetRow_putSigned_7 rfl (lv_at hl 1 rfl) ?_
    refine lv_imul hx hb d_OctetRow_putSigned_8 ?_
    refine lv_iconst (v := (1 : Int32)) hx hb d_OctetRow_putSigned_9 (by decide) ?_
    refine lv_isub hx hb d_OctetRow_putSigned_10 ?_
    refine lv_goto (tgt := 17) hx hb d_OctetRow_putSigned_11 rfl ?_
    exact hb17 (((-2 : Int32) * a1) - (1 : Int32)) u _ _ _ (lv_sub hl [] rfl) hP hS hm
set_option maxHeartbeats 4000000 in
set_option maxRecDepth 100000 in
theorem c_Message_writeIndices (l : Launch) (dC : Nat → ClassId) (dI : Nat → Nat → Nat) (dT : Nat → ClassId) (ad : Nat → Nat) (hD : ∀ u, va_D (xA ad 50) (cW dT ad u)) (j : Nat) (u : xS) (hj : j < 6) (u1 : xS) (hm : m_Message_writeIndices j u = some u1) : Met l y_Message_writeIndices (Cond.code y_Message_writeIndices b_Message_writeIndices 6 none :: xG) (xrm 3 65) (va_Pc [.ref (ad (32 + 3 * j)), .ref (ad 1), .ref (ad 16)] (xR (dC, dI) xCl (xT dT) (cW dT ad u))) (va_Qv (fun (u9 : xS) => u9 = u1) (fun u9 t => va_P (dC, dI) xCl (cW dT ad u9) t.heap) (xA ad 50)) 0 0 (xA ad 50) := by
  refine xm_rwv (Wd := cW dT ad) (cc := b_Message_writeIndices) (maxL := 6) (by decide) rfl (Nat.le_of_ble_eq_true rfl) ?_
  intro p e s m args below meth c Q ls hx hb hml hts hown hK hN hP hl hret
  have hT : ∀ w ∈ xG, w.before args s = true := fun w h => hts w (List.mem_cons_of_mem _ h)
  have hown : s.vm.findClass "EventGraphText$Message" = some m.cls := hown
  have hl : lv_has ls 6 [(0, .ref (ad (32 + 3 * j))), (1, .ref (ad 1)), (2, .ref (ad 16))] := hl
  have hS : va_S (xA ad 50) s.heap s.heap [] := va_S.rf
  have hs5 : ∀ (k5 : Nat → Int32 → Int32 → xS → Option xS) (hk5 : ∀ (b3 : Int32) (b4 : Int32) (u : xS) (H : Heap) (locs : List Loc) (ls : Array Slot), lv_has ls 6 [(0, .ref (ad (32 + 3 * j))), (1, .ref (ad 1)), (2, .ref (ad 16)), (3, .int b3), (4, .int b4)] → va_P (dC, dI) xCl (cW dT ad u) H → va_S (xA ad 50) s.heap H locs → k5 j b3 b4 u = some u1 → W p l e (xrm 3 65) s m args below meth c H locs 0 0 Q (F0 m 5 ls [])), ∀ (b3 : Int32) (b4 : Int32) (u : xS) (H : Heap) (locs : List Loc) (ls : Array Slot), lv_has ls 6 [(0, .ref (ad (32 + 3 * j))), (1, .ref (ad 1)), (2, .ref (ad 16)), (3, .int b3), (4, .int b4)] → va_P (dC, dI) xCl (cW dT ad u) H → va_S (xA ad 50) s.heap H locs → m_Message_writeIndices_s5 k5 j b3 b4 u = some u1 → W p l e (xrm 3 65) s m args below meth c H locs 0 0 Q (F0 m 5 ls []) := by
    intro k5 hk5 b3 b4 u H locs ls hl hP hS hm
    unfold m_Message_writeIndices_s5 at hm
    refine lv_iload hx hb d_Message_writeIndices_5 (lv_at hl 4 rfl) ?_
    refine lv_aload_n hx hb d_Message_writeIndices_7 rfl (lv_at hl 2 rfl) ?_
    obtain ⟨r8, h8, hm⟩ := xb1_some hm
    refine xc_i (va_runV (C := "EventGraphText$Line") (As := []) (rest := [.int b4]) ⟨hx, hb, hml, hown, hts⟩ (c_Line_size l dC dI dT ad u r8 h8) (cwV 0 hts (xgV wd_339 wd_340 wd_341 wd_4 wd_342) rfl rfl rfl pd_Line_size ⟨Nat.le_of_ble_eq_true rfl, Nat.le_of_ble_eq_true rfl⟩) (xpreV (C := "EventGraphText$Line") (T := T_Line) (N := 2) hP hK hN rfl cW_N) rfl rfl hl.1 rfl (lv_room (Nat.le_of_ble_eq_true rfl)) d_Message_writeIndices_8 ⟨Nat.le_of_ble_eq_true rfl, Nat.le_of_ble_eq_true rfl⟩) hP hS (fun H locs hP hS => ?_)
    refine lv_icmp_ge (tgt := 46) hx hb d_Message_writeIndices_11 rfl (fun h => ?_) (fun h => ?_)
    · replace hm := xi_pos h hm
      exact hret hm hP hS d_Message_writeIndices_46
    · replace hm := xi_neg h hm
      refine lv_aload_n hx hb d_Message_writeIndices_14 rfl (lv_at hl 1 rfl) ?_
      refine lv_aload_n hx hb d_Message_writeIndices_15 rfl (lv_at hl 2 rfl) ?_
      refine lv_iload hx hb d_Message_writeIndices_16 (lv_at hl 4 rfl) ?_
      obtain ⟨r18, h18, hm⟩ := xb1_some hm
      refine xc_i (va_runV (C := "EventGraphText$Line") (As := [.int b4]) (rest := [.ref (ad 1)]) ⟨hx, hb, hml, hown, hts⟩ (c_Line_get l dC dI dT ad b4 u r18 h18) (cwV 1 hts (xgV wd_355 wd_356 wd_357 wd_4 wd_358) rfl rfl rfl pd_Line_get ⟨Nat.le_of_ble_eq_true rfl, Nat.le_of_ble_eq_true rfl⟩) (xpreV (C := "EventGraphText$Line") (T := T_Line) (N := 2) hP hK hN rfl cW_N) rfl rfl hl.1 rfl (lv_room (Nat.le_of_ble_eq_true rfl)) d_Message_writeIndices_18 ⟨Nat.le_of_ble_eq_true rfl, Nat.le_of_ble_eq_true rfl⟩) hP hS (fun H locs hP hS => ?_)
      obtain ⟨r21, h21, hm⟩ := xb1_some hm
      refine xc_i (va_runV (C := "EventGraphText$History") (As := [.int r18]) (rest := []) ⟨hx, hb, hml, hown, hts⟩ (c_History_indexOf l dC dI dT ad r18 u r21 h21) (cwV 1 hts (xgV wd_376 wd_377 wd_378 wd_2 wd_379) rfl rfl rfl pd_History_indexOf ⟨Nat.le_of_ble_eq_true rfl, Nat.le_of_ble_eq_true rfl⟩) (xpreV (C := "EventGraphText$History") (T := T_History) (N := 9) hP hK hN rfl cW_H) rfl rfl hl.1 rfl (lv_room (Nat.le_of_ble_eq_true rfl)) d_Message_writeIndices_21 ⟨Nat.le_of_ble_eq_true rfl, Nat.le_of_ble_eq_true rfl⟩) hP hS (fun H locs hP hS => ?_)
      refine lv_istore (lv' := [(5, .int r21), (0, .ref (ad (32 + 3 * j))), (1, .ref (ad 1)), (2, .ref (ad 16)), (3, .int b3), (4, .int b4)]) hx hb d_Message_writeIndices_24 hl (Nat.le_of_ble_eq_true rfl) rfl (fun ls hl => ?_)
      refine lv_aload_n hx hb d_Message_writeIndices_26 rfl (lv_at hl 1 rfl) ?_
      refine va_get (D := (dC, dI)) (ci := 4) (v := .ref (ad (33 + 3 * j))) (C := "EventGraphText$Message") (T := T_Message) (N := 5) hx hb hT hin_Message hown hK hP (32 + 3 * j) (cW_M hj) rfl 0 (by decide) (hT _ wd_163) (fun _ h9 => h9) rfl d_Message_writeIndices_27 ?_
      refine lv_iload hx hb d_Message_writeIndices_30 (lv_at hl 0 rfl) ?_
      refine lv_iload_n hx hb d_Message_writeIndices_32 rfl (lv_at hl 4 rfl) ?_
      refine lv_isub hx hb d_Message_writeIndices_33 ?_
      obtain ⟨u34, h34, hm⟩ := xb1_some hm
      refine xc_vw (Wd := cW dT ad) (va_runV (C := "EventGraphText$OctetRow") (As := [.int (r21 - b3)]) (rest := []) ⟨hx, hb, hml, hown, hts⟩ (c_OctetRow_putSigned l dC dI dT ad hD j (r21 - b3) u hj u34 h34) (cwV 1 hts (xgV wd_380 wd_381 wd_382 wd_8 wd_383) rfl rfl rfl pd_OctetRow_putSigned ⟨Nat.le_of_ble_eq_true rfl, Nat.le_of_ble_eq_true rfl⟩) (xpreV (C := "EventGraphText$OctetRow") (T := T_OctetRow) (N := 2) hP hK hN rfl (cW_O hj)) rfl rfl hl.1 rfl (lv_room (Nat.le_of_ble_eq_true rfl)) d_Message_writeIndices_34 ⟨Nat.le_of_ble_eq_true rfl, Nat.le_of_ble_eq_true rfl⟩) hS (fun _ h => h) (fun H locs hP hS => ?_)
      refine lv_iload hx hb d_Message_writeIndices_37 (lv_at hl 0 rfl) ?_
      refine lv_istore_n (lv' := [(3, .int r21), (5, .int r21), (0, .ref (ad (32 + 3 * j))), (1, .ref (ad 1)), (2, .ref (ad 16)), (4, .int b4)]) hx hb d_Message_writeIndices_39 rfl hl (Nat.le_of_ble_eq_true rfl) rfl (fun ls hl => ?_)
      refine lv_iinc (k := 5) (v := (b4 + (1 : Int32))) (lv' := [(4, .int (b4 + (1 : Int32))), (3, .int r21), (5, .int r21), (0, .ref (ad (32 + 3 * j))), (1, .ref (ad 1)), (2, .ref (ad 16))]) hx hb d_Message_writeIndices_40 hl rfl rfl (Nat.le_of_ble_eq_true rfl) rfl (fun ls hl => ?_)
      refine lv_goto (tgt := 5) hx hb d_Message_writeIndices_43 rfl ?_
      exact hk5 r21 (b4 + (1 : Int32)) u34 _ _ _ (lv_sub hl [3, 4, 5, 1, 0] rfl) hP hS hm
  have hl5 : ∀ (fu : Nat), ∀ (b3 : Int32) (b4 : Int32) (u : xS) (H : Heap) (locs : List Loc) (ls : Array Slot), lv_has ls 6 [(0, .ref (ad (32 + 3 * j))), (1, .ref (ad 1)), (2, .ref (ad 16)), (3, .int b3), (4, .int b4)] → va_P (dC, dI) xCl (cW dT ad u) H → va_S (xA ad 50) s.heap H locs → m_Message_writeIndices_l5 fu j b3 b4 u = some u1 → W p l e (xrm 3 65) s m args below meth c H locs 0 0 Q (F0 m 5 ls []) := by
    intro fu
    induction fu with
    | zero => intro b3 b4 u H locs ls hl hP hS hm; exact absurd hm (fun z => by cases z)
    | succ n ih => intro b3 b4 u H locs ls hl hP hS hm; exact hs5 (m_Message_writeIndices_l5 n) ih b3 b4 u H locs ls hl hP hS hm
  unfold m_Message_writeIndices at hm
  refine lv_iconst (v := (0 : Int32)) hx hb d_Message_writeIndices_0 (by decide) ?_
  refine lv_istore_n (lv' := [(3, .int (0 : Int32)), (0, .ref (ad (32 + 3 * j))), (1, .ref (ad 1)), (2, .ref (ad 16))]) hx hb d_Message_writeIndices_1 rfl hl (Nat.le_of_ble_eq_true rfl) rfl (fun ls hl => ?_)
  refine lv_iconst (v := (0 : Int32)) hx hb d_Message_writeIndices_2 (by decide) ?_
  refine lv_istore (lv' := [(4, .int (0 : Int32)), (3, .int (0 : Int32)), (0, .ref (ad (32 + 3 * j))), (1, .ref (ad 1)), (2, .ref (ad 16))]) hx hb d_Message_writeIndices_3 hl (Nat.le_of_ble_eq_true rfl) rfl (fun ls hl => ?_)
  exact hl5 xFU (0 : Int32) (0 : Int32) u _ _ _ (lv_sub hl [2, 3, 4, 1, 0] rfl) hP hS hm
set_option maxHeartbeats 4000000 in
set_option maxRecDepth 100000 in
theorem c_Message_writeCharacters (l : Launch) (dC : Nat → ClassId) (dI : Nat → Nat → Nat) (dT : Nat → ClassId) (ad : Nat → Nat) (hD : ∀ u, va_D (xA ad 50) (cW dT ad u)) (j : Nat) (u : xS) (hj : j < 6) (u1 : xS) (hm : m_Message_writeCharacters j u = some u1) : Met l y_Message_writeCharacters (Cond.code y_Message_writeCharacters b_Message_writeCharacters 6 none :: xG) (xrm 3 65) (va_Pc [.ref (ad (32 + 3 * j)), .ref (ad 1), .ref (ad 16)] (xR (dC, dI) xCl (xT dT) (cW dT ad u))) (va_Qv (fun (u9 : xS) => u9 = u1) (fun u9 t => va_P (dC, dI) xCl (cW dT ad u9) t.heap) (xA ad 50)) 0 0 (xA ad 50) := by
  refine xm_rwv (Wd := cW dT ad) (cc := b_Message_writeCharacters) (maxL := 6) (by decide) rfl (Nat.le_of_ble_eq_true rfl) ?_
  intro p e s m args below meth c Q ls hx hb hml hts hown hK hN hP hl hret
  have hT : ∀ w ∈ xG, w.before args s = true := fun w h => hts w (List.mem_cons_of_mem _ h)
  have hown : s.vm.findClass "EventGraphText$Message" = some m.cls := hown
  have hl : lv_has ls 6 [(0, .ref (ad (32 + 3 * j))), (1, .ref (ad 1)), (2, .ref (ad 16))] := hl
  have hS : va_S (xA ad 50) s.heap s.heap [] := va_S.rf
  have hs5 : ∀ (k5 : Nat → Int32 → Int32 → xS → Option xS) (hk5 : ∀ (b3 : Int32) (b4 : Int32) (u : xS) (H : Heap) (locs : List Loc) (ls : Array Slot), lv_has ls 6 [(0, .ref (ad (32 + 3 * j))), (1, .ref (ad 1)), (2, .ref (ad 16)), (3, .int b3), (4, .int b4)] → va_P (dC, dI) xCl (cW dT ad u) H → va_S (xA ad 50) s.heap H locs → k5 j b3 b4 u = some u1 → W p l e (xrm 3 65) s m args below meth c H locs 0 0 Q (F0 m 5 ls [])), ∀ (b3 : Int32) (b4 : Int32) (u : xS) (H : Heap) (locs : List Loc) (ls : Array Slot), lv_has ls 6 [(0, .ref (ad (32 + 3 * j))), (1, .ref (ad 1)), (2, .ref (ad 16)), (3, .int b3), (4, .int b4)] → va_P (dC, dI) xCl (cW dT ad u) H → va_S (xA ad 50) s.heap H locs → m_Message_writeCharacters_s5 k5 j b3 b4 u = some u1 → W p l e (xrm 3 65) s m args below meth c H locs 0 0 Q (F0 m 5 ls []) := by
    intro k5 hk5 b3 b4 u H locs ls hl hP hS hm
    unfold m_Message_writeCharacters_s5 at hm
    refine lv_iload hx hb d_Message_writeCharacters_5 (lv_at hl 4 rfl) ?_
    refine lv_aload_n hx hb d_Message_writeCharacters_7 rfl (lv_at hl 2 rfl) ?_
    obtain ⟨r8, h8, hm⟩ := xb1_some hm
    refine xc_i (va_runV (C := "EventGraphText$Line") (As := []) (rest := [.int b4]) ⟨hx, hb, hml, hown, hts⟩ (c_Line_size l dC dI dT ad u r8 h8) (cwV 0 hts (xgV wd_339 wd_340 wd_341 wd_4 wd_342) rfl rfl rfl pd_Line_size ⟨Nat.le_of_ble_eq_true rfl, Nat.le_of_ble_eq_true rfl⟩) (xpreV (C := "EventGraphText$Line") (T := T_Line) (N := 2) hP hK hN rfl cW_N) rfl rfl hl.1 rfl (lv_room (Nat.le_of_ble_eq_true rfl)) d_Message_writeCharacters_8 ⟨Nat.le_of_ble_eq_true rfl, Nat.le_of_ble_eq_true rfl⟩) hP hS (fun H locs hP hS => ?_)
    refine lv_icmp_ge (tgt := 59) hx hb d_Message_writeCharacters_11 rfl (fun h => ?_) (fun h => ?_)
    · replace hm := xi_pos h hm
      exact hret hm hP hS d_Message_writeCharacters_59
    · replace hm := xi_neg h hm
      refine lv_aload_n hx hb d_Message_writeCharacters_14 rfl (lv_at hl 1 rfl) ?_
      refine lv_aload_n hx hb d_Message_writeCharacters_15 rfl (lv_at hl 2 rfl) ?_
      refine lv_iload hx hb d_Message_writeCharacters_16 (lv_at hl 4 rfl) ?_
      obtain ⟨r18, h18, hm⟩ := xb1_some hm
      refine xc_i (va_runV (C := "EventGraphText$Line") (As := [.int b4]) (rest := [.ref (ad 1)]) ⟨hx, hb, hml, hown, hts⟩ (c_Line_get l dC dI dT ad b4 u r18 h18) (cwV 1 hts (xgV wd_355 wd_356 wd_357 wd_4 wd_358) rfl rfl rfl pd_Line_get ⟨Nat.le_of_ble_eq_true rfl, Nat.le_of_ble_eq_true rfl⟩) (xpreV (C := "EventGraphText$Line") (T := T_Line) (N := 2) hP hK hN rfl cW_N) rfl rfl hl.1 rfl (lv_room (Nat.le_of_ble_eq_true rfl)) d_Message_writeCharacters_18 ⟨Nat.le_of_ble_eq_true rfl, Nat.le_of_ble_eq_true rfl⟩) hP hS (fun H locs hP hS => ?_)
      obtain ⟨r21, h21, hm⟩ := xb1_some hm
      refine xc_i (va_runV (C := "EventGraphText$History") (As := [.int r18]) (rest := []) ⟨hx, hb, hml, hown, hts⟩ (c_History_isInsert l dC dI dT ad r18 u r21 h21) (cwV 1 hts (xgV wd_368 wd_369 wd_370 wd_2 wd_371) rfl rfl rfl pd_History_isInsert ⟨Nat.le_of_ble_eq_true rfl, Nat.le_of_ble_eq_true rfl⟩) (xpreV (C := "EventGraphText$History") (T := T_History) (N := 9) hP hK hN rfl cW_H) rfl rfl hl.1 rfl (lv_room (Nat.le_of_ble_eq_true rfl)) d_Message_writeCharacters_21 ⟨Nat.le_of_ble_eq_true rfl, Nat.le_of_ble_eq_true rfl⟩) hP hS (fun H locs hP hS => ?_)
      refine lv_if_eq (tgt := 53) hx hb d_Message_writeCharacters_24 rfl (fun h => ?_) (fun h => ?_)
      · replace hm := xi_pos h hm
        refine lv_iinc (k := 4) (v := (b4 + (1 : Int32))) (lv' := [(4, .int (b4 + (1 : Int32))), (0, .ref (ad (32 + 3 * j))), (1, .ref (ad 1)), (2, .ref (ad 16)), (3, .int b3)]) hx hb d_Message_writeCharacters_53 hl rfl rfl (Nat.le_of_ble_eq_true rfl) rfl (fun ls hl => ?_)
        refine lv_goto (tgt := 5) hx hb d_Message_writeCharacters_56 rfl ?_
        exact hk5 b3 (b4 + (1 : Int32)) u _ _ _ (lv_sub hl [1, 2, 3, 4, 0] rfl) hP hS hm
      · replace hm := xi_neg h hm
        refine lv_aload_n hx hb d_Message_writeCharacters_27 rfl (lv_at hl 1 rfl) ?_
        refine lv_aload_n hx hb d_Message_writeCharacters_28 rfl (lv_at hl 2 rfl) ?_
        refine lv_iload hx hb d_Message_writeCharacters_29 (lv_at hl 4 rfl) ?_
        obtain ⟨r31, h31, hm⟩ := xb1_some hm
        refine xc_i (va_runV (C := "EventGraphText$Line") (As := [.int b4]) (rest := [.ref (ad 1)]) ⟨hx, hb, hml, hown, hts⟩ (c_Line_get l dC dI dT ad b4 u r31 h31) (cwV 1 hts (xgV wd_355 wd_356 wd_357 wd_4 wd_358) rfl rfl rfl pd_Line_get ⟨Nat.le_of_ble_eq_true rfl, Nat.le_of_ble_eq_true rfl⟩) (xpreV (C := "EventGraphText$Line") (T := T_Line) (N := 2) hP hK hN rfl cW_N) rfl rfl hl.1 rfl (lv_room (Nat.le_of_ble_eq_true rfl)) d_Message_writeCharacters_31 ⟨Nat.le_of_ble_eq_true rfl, Nat.le_of_ble_eq_true rfl⟩) hP hS (fun H locs hP hS => ?_)
        obtain ⟨r34, h34, hm⟩ := xb1_some hm
        refine xc_i (va_runV (C := "EventGraphText$History") (As := [.int r31]) (rest := []) ⟨hx, hb, hml, hown, hts⟩ (c_History_characterOf l dC dI dT ad r31 u r34 h34) (cwV 1 hts (xgV wd_389 wd_296 wd_297 wd_2 wd_298) rfl rfl rfl pd_History_characterOf ⟨Nat.le_of_ble_eq_true rfl, Nat.le_of_ble_eq_true rfl⟩) (xpreV (C := "EventGraphText$History") (T := T_History) (N := 9) hP hK hN rfl cW_H) rfl rfl hl.1 rfl (lv_room (Nat.le_of_ble_eq_true rfl)) d_Message_writeCharacters_34 ⟨Nat.le_of_ble_eq_true rfl, Nat.le_of_ble_eq_true rfl⟩) hP hS (fun H locs hP hS => ?_)
        refine lv_istore (lv' := [(5, .int r34), (0, .ref (ad (32 + 3 * j))), (1, .ref (ad 1)), (2, .ref (ad 16)), (3, .int b3), (4, .int b4)]) hx hb d_Message_writeCharacters_37 hl (Nat.le_of_ble_eq_true rfl) rfl (fun ls hl => ?_)
        refine lv_aload_n hx hb d_Message_writeCharacters_39 rfl (lv_at hl 1 rfl) ?_
        refine va_get (D := (dC, dI)) (ci := 4) (v := .ref (ad (33 + 3 * j))) (C := "EventGraphText$Message") (T := T_Message) (N := 5) hx hb hT hin_Message hown hK hP (32 + 3 * j) (cW_M hj) rfl 0 (by decide) (hT _ wd_163) (fun _ h9 => h9) rfl d_Message_writeCharacters_40 ?_
        refine lv_iload hx hb d_Message_writeCharacters_43 (lv_at hl 0 rfl) ?_
        refine lv_iload_n hx hb d_Message_writeCharacters_45 rfl (lv_at hl 4 rfl) ?_
        refine lv_isub hx hb d_Message_writeCharacters_46 ?_
        obtain ⟨u47, h47, hm⟩ := xb1_some hm
        refine xc_vw (Wd := cW dT ad) (va_runV (C := "EventGraphText$OctetRow") (As := [.int (r34 - b3)]) (rest := []) ⟨hx, hb, hml, hown, hts⟩ (c_OctetRow_putSigned l dC dI dT ad hD j (r34 - b3) u hj u47 h47) (cwV 1 hts (xgV wd_380 wd_381 wd_382 wd_8 wd_383) rfl rfl rfl pd_OctetRow_putSigned ⟨Nat.le_of_ble_eq_true rfl, Nat.le_of_ble_eq_true rfl⟩) (xpreV (C := "EventGraphText$OctetRow") (T := T_OctetRow) (N := 2) hP hK hN rfl (cW_O hj)) rfl rfl hl.1 rfl (lv_room (Nat.le_of_ble_eq_true rfl)) d_Message_writeCharacters_47 ⟨Nat.le_of_ble_eq_true rfl, Nat.le_of_ble_eq_true rfl⟩) hS (fun _ h => h) (fun H locs hP hS => ?_)
        refine lv_iload hx hb d_Message_writeCharacters_50 (lv_at hl 0 rfl) ?_
        refine lv_istore_n (lv' := [(3, .int r34), (5, .int r34), (0, .ref (ad (32 + 3 * j))), (1, .ref (ad 1)), (2, .ref (ad 16)), (4, .int b4)]) hx hb d_Message_writeCharacters_52 rfl hl (Nat.le_of_ble_eq_true rfl) rfl (fun ls hl => ?_)
        refine lv_iinc (k := 5) (v := (b4 + (1 : Int32))) (lv' := [(4, .int (b4 + (1 : Int32))), (3, .int r34), (5, .int r34), (0, .ref (ad (32 + 3 * j))), (1, .ref (ad 1)), (2, .ref (ad 16))]) hx hb d_Message_writeCharacters_53 hl rfl rfl (Nat.le_of_ble_eq_true rfl) rfl (fun ls hl => ?_)
        refine lv_goto (tgt := 5) hx hb d_Message_writeCharacters_56 rfl ?_
        exact hk5 r34 (b4 + (1 : Int32)) u47 _ _ _ (lv_sub hl [3, 4, 5, 1, 0] rfl) hP hS hm
  have hl5 : ∀ (fu : Nat), ∀ (b3 : Int32) (b4 : Int32) (u : xS) (H : Heap) (locs : List Loc) (ls : Array Slot), lv_has ls 6 [(0, .ref (ad (32 + 3 * j))), (1, .ref (ad 1)), (2, .ref (ad 16)), (3, .int b3), (4, .int b4)] → va_P (dC, dI) xCl (cW dT ad u) H → va_S (xA ad 50) s.heap H locs → m_Message_writeCharacters_l5 fu j b3 b4 u = some u1 → W p l e (xrm 3 65) s m args below meth c H locs 0 0 Q (F0 m 5 ls []) := by
    intro fu
    induction fu with
    | zero => intro b3 b4 u H locs ls hl hP hS hm; exact absurd hm (fun z => by cases z)
    | succ n ih => intro b3 b4 u H locs ls hl hP hS hm; exact hs5 (m_Message_writeCharacters_l5 n) ih b3 b4 u H locs ls hl hP hS hm
  unfold m_Message_writeCharacters at hm
  refine lv_iconst (v := (0 : Int32)) hx hb d_Message_writeCharacters_0 (by decide) ?_
  refine lv_istore_n (lv' := [(3, .int (0 : Int32)), (0, .ref (ad (32 + 3 * j))), (1, .ref (ad 1)), (2, .ref (ad 16))]) hx hb d_Message_writeCharacters_1 rfl hl (Nat.le_of_ble_eq_true rfl) rfl (fun ls hl => ?_)
  refine lv_iconst (v := (0 : Int32)) hx hb d_Message_writeCharacters_2 (by decide) ?_
  refine lv_istore (lv' := [(4, .int (0 : Int32)), (3, .int (0 : Int32)), (0, .ref (ad (32 + 3 * j))), (1, .ref (ad 1)), (2, .ref (ad 16))]) hx hb d_Message_writeCharacters_3 hl (Nat.le_of_ble_eq_true rfl) rfl (fun ls hl => ?_)
  exact hl5 xFU (0 : Int32) (0 : Int32) u _ _ _ (lv_sub hl [2, 3, 4, 1, 0] rfl) hP hS hm
set_option maxHeartbeats 4000000 in
set_option maxRecDepth 100000 in
theorem c_History_parentsOf (l : Launch) (dC : Nat → ClassId) (dI : Nat → Nat → Nat) (dT : Nat → ClassId) (ad : Nat → Nat) (a1 : Int32) (u : xS) (out : Int64) (hm : m_History_parentsOf a1 u = some out) : Met l y_History_parentsOf (Cond.code y_History_parentsOf b_History_parentsOf 2 (some .long) :: xG) (xrm 0 0) (va_Pc [.ref (ad 1), .int a1] (xR (dC, dI) xCl (xT dT) (cW dT ad u))) (va_Ql (fun r9 (_ : Unit) => r9 = out) (fun _ _ => True) xN) 0 0 xN := by
  refine xm_roj (cc := b_History_parentsOf) (maxL := 2) (by decide) rfl (Nat.le_of_ble_eq_true rfl) ?_
  intro p e s m args below meth c Q ls hx hb hml hts hown hK hN hP hl hret
  have hT : ∀ w ∈ xG, w.before args s = true := fun w h => hts w (List.mem_cons_of_mem _ h)
  have hown : s.vm.findClass "EventGraphText$History" = some m.cls := hown
  have hl : lv_has ls 2 [(0, .ref (ad 1)), (1, .int a1)] := hl
  have hS : va_S xN s.heap s.heap [] := va_S.rf
  unfold m_History_parentsOf at hm
  refine lv_aload_n hx hb d_History_parentsOf_0 rfl (lv_at hl 0 rfl) ?_
  refine va_get (D := (dC, dI)) (ci := 1) (v := .ref (ad 6)) (C := "EventGraphText$History") (T := T_History) (N := 9) hx hb hT hin_History hown hK hP 1 cW_H rfl 4 (by decide) (hT _ wd_29) (fun _ h9 => h9) rfl d_History_parentsOf_1 ?_
  refine lv_iload_n hx hb d_History_parentsOf_4 rfl (lv_at hl 1 rfl) ?_
  obtain ⟨g1, hm⟩ := xg_some hm
  refine va_lald hx hb hK hP 6 1 cW_H_parents rfl g1 d_History_parentsOf_5 ?_
  exact hret hm hS d_History_parentsOf_6
set_option maxHeartbeats 4000000 in
set_option maxRecDepth 100000 in
theorem c_History_codeOf (l : Launch) (dC : Nat → ClassId) (dI : Nat → Nat → Nat) (dT : Nat → ClassId) (ad : Nat → Nat) (a1 : Int32) (u : xS) (out : Int32) (hm : m_History_codeOf a1 u = some out) : Met l y_History_codeOf (Cond.code y_History_codeOf b_History_codeOf 2 (some .int) :: xG) (xrm 0 0) (va_Pc [.ref (ad 1), .int a1] (xR (dC, dI) xCl (xT dT) (cW dT ad u))) (va_Qi (fun r9 (_ : Unit) => r9 = out) (fun _ _ => True) xN) 0 0 xN := by
  refine xm_roi (cc := b_History_codeOf) (maxL := 2) (by decide) rfl (Nat.le_of_ble_eq_true rfl) ?_
  intro p e s m args below meth c Q ls hx hb hml hts hown hK hN hP hl hret
  have hT : ∀ w ∈ xG, w.before args s = true := fun w h => hts w (List.mem_cons_of_mem _ h)
  have hown : s.vm.findClass "EventGraphText$History" = some m.cls := hown
  have hl : lv_has ls 2 [(0, .ref (ad 1)), (1, .int a1)] := hl
  have hS : va_S xN s.heap s.heap [] := va_S.rf
  unfold m_History_codeOf at hm
  refine lv_aload_n hx hb d_History_codeOf_0 rfl (lv_at hl 0 rfl) ?_
  refine va_get (D := (dC, dI)) (ci := 1) (v := .ref (ad 2)) (C := "EventGraphText$History") (T := T_History) (N := 9) hx hb hT hin_History hown hK hP 1 cW_H rfl 0 (by decide) (hT _ wd_25) (fun _ h9 => h9) rfl d_History_codeOf_1 ?_
  refine lv_iload_n hx hb d_History_codeOf_4 rfl (lv_at hl 1 rfl) ?_
  obtain ⟨g1, hm⟩ := xg_some hm
  refine va_iald hx hb hK hP 2 0 cW_H_sites rfl g1 d_History_codeOf_5 ?_
  refine lv_iconst (v := (3 : Int32)) hx hb d_History_codeOf_6 (by decide) ?_
  refine lv_aload_n hx hb d_History_codeOf_7 rfl (lv_at hl 0 rfl) ?_
  refine va_get (D := (dC, dI)) (ci := 1) (v := .ref (ad 3)) (C := "EventGraphText$History") (T := T_History) (N := 9) hx hb hT hin_History hown hK hP 1 cW_H rfl 1 (by decide) (hT _ wd_26) (fun _ h9 => h9) rfl d_History_codeOf_8 ?_
  refine lv_iload_n hx hb d_History_codeOf_11 rfl (lv_at hl 1 rfl) ?_
  refine va_iald hx hb hK hP 3 0 cW_H_numbers rfl g1 d_History_codeOf_12 ?_
  refine lv_imul hx hb d_History_codeOf_13 ?_
  refine lv_iadd hx hb d_History_codeOf_14 ?_
  exact hret hm hS d_History_codeOf_15
set_option maxHeartbeats 4000000 in
set_option maxRecDepth 100000 in
theorem c_Message_writeParentList (l : Launch) (dC : Nat → ClassId) (dI : Nat → Nat → Nat) (dT : Nat → ClassId) (ad : Nat → Nat) (hD : ∀ u, va_D (xA ad 50) (cW dT ad u)) (j : Nat) (a2 : Int64) (u : xS) (hj : j < 6) (u1 : xS) (hm : m_Message_writeParentList j a2 u = some u1) : Met l y_Message_writeParentList (Cond.code y_Message_writeParentList b_Message_writeParentList 9 none :: xG) (xrm 3 66) (va_Pc [.ref (ad (32 + 3 * j)), .ref (ad 1), .long a2] (xR (dC, dI) xCl (xT dT) (cW dT ad u))) (va_Qv (fun (u9 : xS) => u9 = u1) (fun u9 t => va_P (dC, dI) xCl (cW dT ad u9) t.heap) (xA ad 50)) 0 0 (xA ad 50) := by
  refine xm_rwv (Wd := cW dT ad) (cc := b_Message_writeParentList) (maxL := 9) (by decide) rfl (Nat.le_of_ble_eq_true rfl) ?_
  intro p e s m args below meth c Q ls hx hb hml hts hown hK hN hP hl hret
  have hT : ∀ w ∈ xG, w.before args s = true := fun w h => hts w (List.mem_cons_of_mem _ h)
  have hown : s.vm.findClass "EventGraphText$Message" = some m.cls := hown
  have hl : lv_has ls 9 [(0, .ref (ad (32 + 3 * j))), (1, .ref (ad 1)), (2, .long a2)] := hl
  have hS : va_S (xA ad 50) s.heap s.heap [] := va_S.rf
  have hs31 : ∀ (k31 : Nat → Int32 → Int64 → Int32 → Int32 → xS → Option xS) (hk31 : ∀ (b4 : Int32) (b5 : Int64) (b7 : Int32) (b8 : Int32) (u : xS) (H : Heap) (locs : List Loc) (ls : Array Slot), lv_has ls 9 [(0, .ref (ad (32 + 3 * j))), (1, .ref (ad 1)), (4, .int b4), (5, .long b5), (7, .int b7), (8, .int b8)] → va_P (dC, dI) xCl (cW dT ad u) H → va_S (xA ad 50) s.heap H locs → k31 j b4 b5 b7 b8 u = some u1 → W p l e (xrm 3 66) s m args below meth c H locs 0 0 Q (F0 m 31 ls [])), ∀ (b4 : Int32) (b5 : Int64) (b7 : Int32) (b8 : Int32) (u : xS) (H : Heap) (locs : List Loc) (ls : Array Slot), lv_has ls 9 [(0, .ref (ad (32 + 3 * j))), (1, .ref (ad 1)), (4, .int b4), (5, .long b5), (7, .int b7), (8, .int b8)] → va_P (dC, dI) xCl (cW dT ad u) H → va_S (xA ad 50) s.heap H locs → m_Message_writeParentList_s31 k31 j b4 b5 b7 b8 u = some u1 → W p l e (xrm 3 66) s m args below meth c H locs 0 0 Q (F0 m 31 ls []) := by
    intro k31 hk31 b4 b5 b7 b8 u H locs ls hl hP hS hm
    unfold m_Message_writeParentList_s31 at hm
    refine lv_iload hx hb d_Message_writeParentList_31 (lv_at hl 5 rfl) ?_
    refine lv_iload hx hb d_Message_writeParentList_33 (lv_at hl 2 rfl) ?_
    refine lv_icmp_ge (tgt := 85) hx hb d_Message_writeParentList_35 rfl (fun h => ?_) (fun h => ?_)
    · replace hm := xi_pos h hm
      exact hret hm hP hS d_Message_writeParentList_85
    · replace hm := xi_neg h hm
      refine lv_iload hx hb d_Message_writeParentList_38 (lv_at hl 4 rfl) ?_
      refine lv_iconst (v := (-1 : Int32)) hx hb d_Message_writeParentList_40 (by decide) ?_
      refine lv_icmp_eq (tgt := 85) hx hb d_Message_writeParentList_41 rfl (fun h => ?_) (fun h => ?_)
      · replace hm := xi_pos h hm
        exact hret hm hP hS d_Message_writeParentList_85
      · replace hm := xi_neg h hm
        refine lv_aload_n hx hb d_Message_writeParentList_44 rfl (lv_at hl 0 rfl) ?_
        refine va_get (D := (dC, dI)) (ci := 4) (v := .ref (ad (33 + 3 * j))) (C := "EventGraphText$Message") (T := T_Message) (N := 5) hx hb hT hin_Message hown hK hP (32 + 3 * j) (cW_M hj) rfl 0 (by decide) (hT _ wd_163) (fun _ h9 => h9) rfl d_Message_writeParentList_45 ?_
        refine lv_aload_n hx hb d_Message_writeParentList_48 rfl (lv_at hl 1 rfl) ?_
        refine lv_iload hx hb d_Message_writeParentList_49 (lv_at hl 4 rfl) ?_
        obtain ⟨r51, h51, hm⟩ := xb1_some hm
        refine xc_i (va_runV (C := "EventGraphText$History") (As := [.int b7]) (rest := [.ref (ad (33 + 3 * j))]) ⟨hx, hb, hml, hown, hts⟩ (c_History_codeOf l dC dI dT ad b7 u r51 h51) (cwV 1 hts (xgV wd_405 wd_406 wd_407 wd_2 wd_408) rfl rfl rfl pd_History_codeOf ⟨Nat.le_of_ble_eq_true rfl, Nat.le_of_ble_eq_true rfl⟩) (xpreV (C := "EventGraphText$History") (T := T_History) (N := 9) hP hK hN rfl cW_H) rfl rfl hl.1 rfl (lv_room (Nat.le_of_ble_eq_true rfl)) d_Message_writeParentList_51 ⟨Nat.le_of_ble_eq_true rfl, Nat.le_of_ble_eq_true rfl⟩) hP hS (fun H locs hP hS => ?_)
        obtain ⟨u54, h54, hm⟩ := xb1_some hm
        refine xc_vw (Wd := cW dT ad) (va_runV (C := "EventGraphText$OctetRow") (As := [.int r51]) (rest := []) ⟨hx, hb, hml, hown, hts⟩ (c_OctetRow_put l dC dI dT ad hD j r51 u hj u54 h54) (cwV 1 hts (xgV wd_343 wd_344 wd_345 wd_8 wd_346) rfl rfl rfl pd_OctetRow_put ⟨Nat.le_of_ble_eq_true rfl, Nat.le_of_ble_eq_true rfl⟩) (xpreV (C := "EventGraphText$OctetRow") (T := T_OctetRow) (N := 2) hP hK hN rfl (cW_O hj)) rfl rfl hl.1 rfl (lv_room (Nat.le_of_ble_eq_true rfl)) d_Message_writeParentList_54 ⟨Nat.le_of_ble_eq_true rfl, Nat.le_of_ble_eq_true rfl⟩) hS (fun _ h => h) (fun H locs hP hS => ?_)
        refine lv_lload hx hb d_Message_writeParentList_57 (lv_at hl 3 rfl) ?_
        refine lv_iload hx hb d_Message_writeParentList_59 (lv_at hl 4 rfl) ?_
        obtain ⟨r61, h61, hm⟩ := xb1_some hm
        refine xc_l (va_runSN (As := [.int b7]) (rest := [.long b5]) ⟨hx, hb, hml, hown, hts⟩ (c_Text_bit l b7 r61 h61) ⟨va_cnB 1 hts (xg0 wd_220) rfl rfl rfl (nmm_12 hN) (hT _ wd_1) pd_Text_bit.2 ⟨Nat.le_of_ble_eq_true rfl, Nat.le_of_ble_eq_true rfl⟩, hT _ wd_219, trivial⟩ xpreS0 rfl rfl hl.1 rfl (lv_room (Nat.le_of_ble_eq_true rfl)) d_Message_writeParentList_61 ⟨Nat.le_of_ble_eq_true rfl, Nat.le_of_ble_eq_true rfl⟩) hP hS (fun H locs hP hS => ?_)
        refine lv_ldc2 (v := (-1 : Int64)) hx hb hown (hT _ wd_409) d_Message_writeParentList_64 ?_
        refine lv_lxor hx hb d_Message_writeParentList_67 ?_
        refine lv_land hx hb d_Message_writeParentList_68 ?_
        refine lv_lstore (lv' := [(5, .long (b5 &&& (r61 ^^^ (-1 : Int64)))), (0, .ref (ad (32 + 3 * j))), (1, .ref (ad 1)), (4, .int b4), (7, .int b7), (8, .int b8)]) hx hb d_Message_writeParentList_69 hl (Nat.le_of_ble_eq_true rfl) rfl (fun ls hl => ?_)
        refine lv_aload_n hx hb d_Message_writeParentList_71 rfl (lv_at hl 2 rfl) ?_
        refine lv_lload hx hb d_Message_writeParentList_72 (lv_at hl 0 rfl) ?_
        obtain ⟨r74, h74, hm⟩ := xb1_some hm
        refine xc_i (va_runV (C := "EventGraphText$History") (As := [.long (b5 &&& (r61 ^^^ (-1 : Int64)))]) (rest := []) ⟨hx, hb, hml, hown, hts⟩ (c_History_leastOf l dC dI dT ad (b5 &&& (r61 ^^^ (-1 : Int64))) u54 r74 h74) (cwV 1 hts (xgV wd_404 wd_321 wd_322 wd_2 wd_323) rfl rfl rfl pd_History_leastOf ⟨Nat.le_of_ble_eq_true rfl, Nat.le_of_ble_eq_true rfl⟩) (xpreV (C := "EventGraphText$History") (T := T_History) (N := 9) hP hK hN rfl cW_H) rfl rfl hl.1 rfl (lv_room (Nat.le_of_ble_eq_true rfl)) d_Message_writeParentList_74 ⟨Nat.le_of_ble_eq_true rfl, Nat.le_of_ble_eq_true rfl⟩) hP hS (fun H locs hP hS => ?_)
        refine lv_istore (lv' := [(7, .int r74), (5, .long (b5 &&& (r61 ^^^ (-1 : Int64)))), (0, .ref (ad (32 + 3 * j))), (1, .ref (ad 1)), (4, .int b4), (8, .int b8)]) hx hb d_Message_writeParentList_77 hl (Nat.le_of_ble_eq_true rfl) rfl (fun ls hl => ?_)
        refine lv_iinc (k := 5) (v := (b8 + (1 : Int32))) (lv' := [(8, .int (b8 + (1 : Int32))), (7, .int r74), (5, .long (b5 &&& (r61 ^^^ (-1 : Int64)))), (0, .ref (ad (32 + 3 * j))), (1, .ref (ad 1)), (4, .int b4)]) hx hb d_Message_writeParentList_79 hl rfl rfl (Nat.le_of_ble_eq_true rfl) rfl (fun ls hl => ?_)
        refine lv_goto (tgt := 31) hx hb d_Message_writeParentList_82 rfl ?_
        exact hk31 b4 (b5 &&& (r61 ^^^ (-1 : Int64))) r74 (b8 + (1 : Int32)) u54 _ _ _ (lv_sub hl [3, 4, 5, 2, 1, 0] rfl) hP hS hm
  have hl31 : ∀ (fu : Nat), ∀ (b4 : Int32) (b5 : Int64) (b7 : Int32) (b8 : Int32) (u : xS) (H : Heap) (locs : List Loc) (ls : Array Slot), lv_has ls 9 [(0, .ref (ad (32 + 3 * j))), (1, .ref (ad 1)), (4, .int b4), (5, .long b5), (7, .int b7), (8, .int b8)] → va_P (dC, dI) xCl (cW dT ad u) H → va_S (xA ad 50) s.heap H locs → m_Message_writeParentList_l31 fu j b4 b5 b7 b8 u = some u1 → W p l e (xrm 3 66) s m args below meth c H locs 0 0 Q (F0 m 31 ls []) := by
    intro fu
    induction fu with
    | zero => intro b4 b5 b7 b8 u H locs ls hl hP hS hm; exact absurd hm (fun z => by cases z)
    | succ n ih => intro b4 b5 b7 b8 u H locs ls hl hP hS hm; exact hs31 (m_Message_writeParentList_l31 n) ih b4 b5 b7 b8 u H locs ls hl hP hS hm
  unfold m_Message_writeParentList at hm
  refine lv_lload_n hx hb d_Message_writeParentList_0 rfl (lv_at hl 2 rfl) ?_
  obtain ⟨r1, h1, hm⟩ := xb1_some hm
  refine xc_i (va_runS (As := [.long a2]) (rest := []) ⟨hx, hb, hml, hown, hts⟩ (c_Long_bitCount l a2 r1 h1) (va_cwS 1 hts (xgS wd_403 wd_224 wd_10 wd_225) rfl rfl rfl pd_Long_bitCount.2 ⟨Nat.le_of_ble_eq_true rfl, Nat.le_of_ble_eq_true rfl⟩) xpreS0 rfl rfl hl.1 rfl (lv_room (Nat.le_of_ble_eq_true rfl)) d_Message_writeParentList_1 ⟨Nat.le_of_ble_eq_true rfl, Nat.le_of_ble_eq_true rfl⟩) hP hS (fun H locs hP hS => ?_)
  refine lv_istore (lv' := [(4, .int r1), (0, .ref (ad (32 + 3 * j))), (1, .ref (ad 1)), (2, .long a2)]) hx hb d_Message_writeParentList_4 hl (Nat.le_of_ble_eq_true rfl) rfl (fun ls hl => ?_)
  refine lv_lload_n hx hb d_Message_writeParentList_6 rfl (lv_at hl 3 rfl) ?_
  refine lv_lstore (lv' := [(5, .long a2), (4, .int r1), (0, .ref (ad (32 + 3 * j))), (1, .ref (ad 1)), (2, .long a2)]) hx hb d_Message_writeParentList_7 hl (Nat.le_of_ble_eq_true rfl) rfl (fun ls hl => ?_)
  refine lv_aload_n hx hb d_Message_writeParentList_9 rfl (lv_at hl 3 rfl) ?_
  refine lv_lload hx hb d_Message_writeParentList_10 (lv_at hl 0 rfl) ?_
  obtain ⟨r12, h12, hm⟩ := xb1_some hm
  refine xc_i (va_runV (C := "EventGraphText$History") (As := [.long a2]) (rest := []) ⟨hx, hb, hml, hown, hts⟩ (c_History_leastOf l dC dI dT ad a2 u r12 h12) (cwV 1 hts (xgV wd_404 wd_321 wd_322 wd_2 wd_323) rfl rfl rfl pd_History_leastOf ⟨Nat.le_of_ble_eq_true rfl, Nat.le_of_ble_eq_true rfl⟩) (xpreV (C := "EventGraphText$History") (T := T_History) (N := 9) hP hK hN rfl cW_H) rfl rfl hl.1 rfl (lv_room (Nat.le_of_ble_eq_true rfl)) d_Message_writeParentList_12 ⟨Nat.le_of_ble_eq_true rfl, Nat.le_of_ble_eq_true rfl⟩) hP hS (fun H locs hP hS => ?_)
  refine lv_istore (lv' := [(7, .int r12), (5, .long a2), (4, .int r1), (0, .ref (ad (32 + 3 * j))), (1, .ref (ad 1)), (2, .long a2)]) hx hb d_Message_writeParentList_15 hl (Nat.le_of_ble_eq_true rfl) rfl (fun ls hl => ?_)
  refine lv_aload_n hx hb d_Message_writeParentList_17 rfl (lv_at hl 3 rfl) ?_
  refine va_get (D := (dC, dI)) (ci := 4) (v := .ref (ad (33 + 3 * j))) (C := "EventGraphText$Message") (T := T_Message) (N := 5) hx hb hT hin_Message hown hK hP (32 + 3 * j) (cW_M hj) rfl 0 (by decide) (hT _ wd_163) (fun _ h9 => h9) rfl d_Message_writeParentList_18 ?_
  refine lv_iconst (v := (1 : Int32)) hx hb d_Message_writeParentList_21 (by decide) ?_
  refine lv_iload hx hb d_Message_writeParentList_22 (lv_at hl 2 rfl) ?_
  refine lv_iadd hx hb d_Message_writeParentList_24 ?_
  obtain ⟨u25, h25, hm⟩ := xb1_some hm
  refine xc_vw (Wd := cW dT ad) (va_runV (C := "EventGraphText$OctetRow") (As := [.int ((1 : Int32) + r1)]) (rest := []) ⟨hx, hb, hml, hown, hts⟩ (c_OctetRow_put l dC dI dT ad hD j ((1 : Int32) + r1) u hj u25 h25) (cwV 1 hts (xgV wd_343 wd_344 wd_345 wd_8 wd_346) rfl rfl rfl pd_OctetRow_put ⟨Nat.le_of_ble_eq_true rfl, Nat.le_of_ble_eq_true rfl⟩) (xpreV (C := "EventGraphText$OctetRow") (T := T_OctetRow) (N := 2) hP hK hN rfl (cW_O hj)) rfl rfl hl.1 rfl (lv_room (Nat.le_of_ble_eq_true rfl)) d_Message_writeParentList_25 ⟨Nat.le_of_ble_eq_true rfl, Nat.le_of_ble_eq_true rfl⟩) hS (fun _ h => h) (fun H locs hP hS => ?_)
  refine lv_iconst (v := (0 : Int32)) hx hb d_Message_writeParentList_28 (by decide) ?_
  refine lv_istore (lv' := [(8, .int (0 : Int32)), (7, .int r12), (5, .long a2), (4, .int r1), (0, .ref (ad (32 + 3 * j))), (1, .ref (ad 1)), (2, .long a2)]) hx hb d_Message_writeParentList_29 hl (Nat.le_of_ble_eq_true rfl) rfl (fun ls hl => ?_)
  exact hl31 xFU r1 a2 r12 (0 : Int32) u25 _ _ _ (lv_sub hl [4, 5, 3, 2, 1, 0] rfl) hP hS hm
set_option maxHeartbeats 4000000 in
set_option maxRecDepth 100000 in
theorem c_Message_writeParents (l : Launch) (dC : Nat → ClassId) (dI : Nat → Nat → Nat) (dT : Nat → ClassId) (ad : Nat → Nat) (hD : ∀ u, va_D (xA ad 50) (cW dT ad u)) (j : Nat) (u : xS) (hj : j < 6) (u1 : xS) (hm : m_Message_writeParents j u = some u1) : Met l y_Message_writeParents (Cond.code y_Message_writeParents b_Message_writeParents 6 none :: xG) (xrm 4 94) (va_Pc [.ref (ad (32 + 3 * j)), .ref (ad 1), .ref (ad 16)] (xR (dC, dI) xCl (xT dT) (cW dT ad u))) (va_Qv (fun (u9 : xS) => u9 = u1) (fun u9 t => va_P (dC, dI) xCl (cW dT ad u9) t.heap) (xA ad 50)) 0 0 (xA ad 50) := by
  refine xm_rwv (Wd := cW dT ad) (cc := b_Message_writeParents) (maxL := 6) (by decide) rfl (Nat.le_of_ble_eq_true rfl) ?_
  intro p e s m args below meth c Q ls hx hb hml hts hown hK hN hP hl hret
  have hT : ∀ w ∈ xG, w.before args s = true := fun w h => hts w (List.mem_cons_of_mem _ h)
  have hown : s.vm.findClass "EventGraphText$Message" = some m.cls := hown
  have hl : lv_has ls 6 [(0, .ref (ad (32 + 3 * j))), (1, .ref (ad 1)), (2, .ref (ad 16))] := hl
  have hS : va_S (xA ad 50) s.heap s.heap [] := va_S.rf
  have hb52 : ∀ (k2 : Nat → Int32 → xS → Option xS) (hk2 : ∀ (b3 : Int32) (u : xS) (H : Heap) (locs : List Loc) (ls : Array Slot), lv_has ls 6 [(0, .ref (ad (32 + 3 * j))), (1, .ref (ad 1)), (2, .ref (ad 16)), (3, .int b3)] → va_P (dC, dI) xCl (cW dT ad u) H → va_S (xA ad 50) s.heap H locs → k2 j b3 u = some u1 → W p l e (xrm 4 94) s m args below meth c H locs 0 0 Q (F0 m 2 ls [])), ∀ (b3 : Int32) (b4 : Int64) (u : xS) (H : Heap) (locs : List Loc) (ls : Array Slot), lv_has ls 6 [(0, .ref (ad (32 + 3 * j))), (1, .ref (ad 1)), (2, .ref (ad 16)), (3, .int b3), (4, .long b4)] → va_P (dC, dI) xCl (cW dT ad u) H → va_S (xA ad 50) s.heap H locs → m_Message_writeParents_b52 k2 j b3 b4 u = some u1 → W p l e (xrm 4 94) s m args below meth c H locs 0 0 Q (F0 m 52 ls []) := by
    intro k2 hk2 b3 b4 u H locs ls hl hP hS hm
    unfold m_Message_writeParents_b52 at hm
    refine lv_aload_n hx hb d_Message_writeParents_52 rfl (lv_at hl 0 rfl) ?_
    refine lv_aload_n hx hb d_Message_writeParents_53 rfl (lv_at hl 1 rfl) ?_
    refine lv_lload hx hb d_Message_writeParents_54 (lv_at hl 4 rfl) ?_
    obtain ⟨u56, h56, hm⟩ := xb1_some hm
    refine xc_vw (Wd := cW dT ad) (va_runV (C := "EventGraphText$Message") (As := [.ref (ad 1), .long b4]) (rest := []) ⟨hx, hb, hml, hown, hts⟩ (c_Message_writeParentList l dC dI dT ad hD j b4 u hj u56 h56) (cwV 2 hts (xgV wd_399 wd_401 wds_6 wd_7 wd_402) rfl rfl rfl pd_Message_writeParentList ⟨Nat.le_of_ble_eq_true rfl, Nat.le_of_ble_eq_true rfl⟩) (xpreV (C := "EventGraphText$Message") (T := T_Message) (N := 5) hP hK hN rfl (cW_M hj)) rfl rfl hl.1 rfl (lv_room (Nat.le_of_ble_eq_true rfl)) d_Message_writeParents_56 ⟨Nat.le_of_ble_eq_true rfl, Nat.le_of_ble_eq_true rfl⟩) hS (fun _ h => h) (fun H locs hP hS => ?_)
    refine lv_iinc (k := 3) (v := (b3 + (1 : Int32))) (lv' := [(3, .int (b3 + (1 : Int32))), (0, .ref (ad (32 + 3 * j))), (1, .ref (ad 1)), (2, .ref (ad 16)), (4, .long b4)]) hx hb d_Message_writeParents_59 hl rfl rfl (Nat.le_of_ble_eq_true rfl) rfl (fun ls hl => ?_)
    refine lv_goto (tgt := 2) hx hb d_Message_writeParents_62 rfl ?_
    exact hk2 (b3 + (1 : Int32)) u56 _ _ _ (lv_sub hl [1, 2, 3, 0] rfl) hP hS hm
  have hs2 : ∀ (k2 : Nat → Int32 → xS → Option xS) (hk2 : ∀ (b3 : Int32) (u : xS) (H : Heap) (locs : List Loc) (ls : Array Slot), lv_has ls 6 [(0, .ref (ad (32 + 3 * j))), (1, .ref (ad 1)), (2, .ref (ad 16)), (3, .int b3)] → va_P (dC, dI) xCl (cW dT ad u) H → va_S (xA ad 50) s.heap H locs → k2 j b3 u = some u1 → W p l e (xrm 4 94) s m args below meth c H locs 0 0 Q (F0 m 2 ls [])), ∀ (b3 : Int32) (u : xS) (H : Heap) (locs : List Loc) (ls : Array Slot), lv_has ls 6 [(0, .ref (ad (32 + 3 * j))), (1, .ref (ad 1)), (2, .ref (ad 16)), (3, .int b3)] → va_P (dC, dI) xCl (cW dT ad u) H → va_S (xA ad 50) s.heap H locs → m_Message_writeParents_s2 k2 j b3 u = some u1 → W p l e (xrm 4 94) s m args below meth c H locs 0 0 Q (F0 m 2 ls []) := by
    intro k2 hk2 b3 u H locs ls hl hP hS hm
    unfold m_Message_writeParents_s2 at hm
    refine lv_iload_n hx hb d_Message_writeParents_2 rfl (lv_at hl 3 rfl) ?_
    refine lv_aload_n hx hb d_Message_writeParents_3 rfl (lv_at hl 2 rfl) ?_
    obtain ⟨r4, h4, hm⟩ := xb1_some hm
    refine xc_i (va_runV (C := "EventGraphText$Line") (As := []) (rest := [.int b3]) ⟨hx, hb, hml, hown, hts⟩ (c_Line_size l dC dI dT ad u r4 h4) (cwV 0 hts (xgV wd_339 wd_340 wd_341 wd_4 wd_342) rfl rfl rfl pd_Line_size ⟨Nat.le_of_ble_eq_true rfl, Nat.le_of_ble_eq_true rfl⟩) (xpreV (C := "EventGraphText$Line") (T := T_Line) (N := 2) hP hK hN rfl cW_N) rfl rfl hl.1 rfl (lv_room (Nat.le_of_ble_eq_true rfl)) d_Message_writeParents_4 ⟨Nat.le_of_ble_eq_true rfl, Nat.le_of_ble_eq_true rfl⟩) hP hS (fun H locs hP hS => ?_)
    refine lv_icmp_ge (tgt := 65) hx hb d_Message_writeParents_7 rfl (fun h => ?_) (fun h => ?_)
    · replace hm := xi_pos h hm
      exact hret hm hP hS d_Message_writeParents_65
    · replace hm := xi_neg h hm
      refine lv_aload_n hx hb d_Message_writeParents_10 rfl (lv_at hl 1 rfl) ?_
      refine lv_aload_n hx hb d_Message_writeParents_11 rfl (lv_at hl 2 rfl) ?_
      refine lv_iload_n hx hb d_Message_writeParents_12 rfl (lv_at hl 3 rfl) ?_
      obtain ⟨r13, h13, hm⟩ := xb1_some hm
      refine xc_i (va_runV (C := "EventGraphText$Line") (As := [.int b3]) (rest := [.ref (ad 1)]) ⟨hx, hb, hml, hown, hts⟩ (c_Line_get l dC dI dT ad b3 u r13 h13) (cwV 1 hts (xgV wd_355 wd_356 wd_357 wd_4 wd_358) rfl rfl rfl pd_Line_get ⟨Nat.le_of_ble_eq_true rfl, Nat.le_of_ble_eq_true rfl⟩) (xpreV (C := "EventGraphText$Line") (T := T_Line) (N := 2) hP hK hN rfl cW_N) rfl rfl hl.1 rfl (lv_room (Nat.le_of_ble_eq_true rfl)) d_Message_writeParents_13 ⟨Nat.le_of_ble_eq_true rfl, Nat.le_of_ble_eq_true rfl⟩) hP hS (fun H locs hP hS => ?_)
      obtain ⟨r16, h16, hm⟩ := xb1_some hm
      refine xc_l (va_runV (C := "EventGraphText$History") (As := [.int r13]) (rest := []) ⟨hx, hb, hml, hown, hts⟩ (c_History_parentsOf l dC dI dT ad r13 u r16 h16) (cwV 1 hts (xgV wd_394 wd_395 wd_396 wd_2 wd_397) rfl rfl rfl pd_History_parentsOf ⟨Nat.le_of_ble_eq_true rfl, Nat.le_of_ble_eq_true rfl⟩) (xpreV (C := "EventGraphText$History") (T := T_History) (N := 9) hP hK hN rfl cW_H) rfl rfl hl.1 rfl (lv_room (Nat.le_of_ble_eq_true rfl)) d_Message_writeParents_16 ⟨Nat.le_of_ble_eq_true rfl, Nat.le_of_ble_eq_true rfl⟩) hP hS (fun H locs hP hS => ?_)
      refine lv_lstore (lv' := [(4, .long r16), (0, .ref (ad (32 + 3 * j))), (1, .ref (ad 1)), (2, .ref (ad 16)), (3, .int b3)]) hx hb d_Message_writeParents_19 hl (Nat.le_of_ble_eq_true rfl) rfl (fun ls hl => ?_)
      refine lv_iload_n hx hb d_Message_writeParents_21 rfl (lv_at hl 4 rfl) ?_
      refine lv_if_le (tgt := 52) hx hb d_Message_writeParents_22 rfl (fun h => ?_) (fun h => ?_)
      · replace hm := xi_pos h hm
        exact hb52 k2 hk2 b3 r16 u _ _ _ (lv_sub hl [1, 2, 3, 4, 0] rfl) hP hS hm
      · replace hm := xi_neg h hm
        refine lv_lload hx hb d_Message_writeParents_25 (lv_at hl 0 rfl) ?_
        refine lv_aload_n hx hb d_Message_writeParents_27 rfl (lv_at hl 3 rfl) ?_
        refine lv_iload_n hx hb d_Message_writeParents_28 rfl (lv_at hl 4 rfl) ?_
        refine lv_iconst (v := (1 : Int32)) hx hb d_Message_writeParents_29 (by decide) ?_
        refine lv_isub hx hb d_Message_writeParents_30 ?_
        obtain ⟨r31, h31, hm⟩ := xb1_some hm
        refine xc_i (va_runV (C := "EventGraphText$Line") (As := [.int (b3 - (1 : Int32))]) (rest := [.long r16]) ⟨hx, hb, hml, hown, hts⟩ (c_Line_get l dC dI dT ad (b3 - (1 : Int32)) u r31 h31) (cwV 1 hts (xgV wd_355 wd_356 wd_357 wd_4 wd_358) rfl rfl rfl pd_Line_get ⟨Nat.le_of_ble_eq_true rfl, Nat.le_of_ble_eq_true rfl⟩) (xpreV (C := "EventGraphText$Line") (T := T_Line) (N := 2) hP hK hN rfl cW_N) rfl rfl hl.1 rfl (lv_room (Nat.le_of_ble_eq_true rfl)) d_Message_writeParents_31 ⟨Nat.le_of_ble_eq_true rfl, Nat.le_of_ble_eq_true rfl⟩) hP hS (fun H locs hP hS => ?_)
        obtain ⟨r34, h34, hm⟩ := xb1_some hm
        refine xc_l (va_runSN (As := [.int r31]) (rest := [.long r16]) ⟨hx, hb, hml, hown, hts⟩ (c_Text_bit l r31 r34 h34) ⟨va_cnB 1 hts (xg0 wd_220) rfl rfl rfl (nmm_12 hN) (hT _ wd_1) pd_Text_bit.2 ⟨Nat.le_of_ble_eq_true rfl, Nat.le_of_ble_eq_true rfl⟩, hT _ wd_219, trivial⟩ xpreS0 rfl rfl hl.1 rfl (lv_room (Nat.le_of_ble_eq_true rfl)) d_Message_writeParents_34 ⟨Nat.le_of_ble_eq_true rfl, Nat.le_of_ble_eq_true rfl⟩) hP hS (fun H locs hP hS => ?_)
        refine xl_cmp_ne (tgt := 52) hx hb d_Message_writeParents_37 d_Message_writeParents_38 rfl (fun h => ?_) (fun h => ?_)
        · replace hm := xi_neg h hm
          exact hb52 k2 hk2 b3 r16 u _ _ _ (lv_sub hl [1, 2, 3, 4, 0] rfl) hP hS hm
        · replace hm := xi_pos h hm
          refine lv_aload_n hx hb d_Message_writeParents_41 rfl (lv_at hl 1 rfl) ?_
          refine va_get (D := (dC, dI)) (ci := 4) (v := .ref (ad (33 + 3 * j))) (C := "EventGraphText$Message") (T := T_Message) (N := 5) hx hb hT hin_Message hown hK hP (32 + 3 * j) (cW_M hj) rfl 0 (by decide) (hT _ wd_163) (fun _ h9 => h9) rfl d_Message_writeParents_42 ?_
          refine lv_iconst (v := (0 : Int32)) hx hb d_Message_writeParents_45 (by decide) ?_
          obtain ⟨u46, h46, hm⟩ := xb1_some hm
          refine xc_vw (Wd := cW dT ad) (va_runV (C := "EventGraphText$OctetRow") (As := [.int (0 : Int32)]) (rest := []) ⟨hx, hb, hml, hown, hts⟩ (c_OctetRow_put l dC dI dT ad hD j (0 : Int32) u hj u46 h46) (cwV 1 hts (xgV wd_343 wd_344 wd_345 wd_8 wd_346) rfl rfl rfl pd_OctetRow_put ⟨Nat.le_of_ble_eq_true rfl, Nat.le_of_ble_eq_true rfl⟩) (xpreV (C := "EventGraphText$OctetRow") (T := T_OctetRow) (N := 2) hP hK hN rfl (cW_O hj)) rfl rfl hl.1 rfl (lv_room (Nat.le_of_ble_eq_true rfl)) d_Message_writeParents_46 ⟨Nat.le_of_ble_eq_true rfl, Nat.le_of_ble_eq_true rfl⟩) hS (fun _ h => h) (fun H locs hP hS => ?_)
          refine lv_goto (tgt := 59) hx hb d_Message_writeParents_49 rfl ?_
          refine lv_iinc (k := 4) (v := (b3 + (1 : Int32))) (lv' := [(3, .int (b3 + (1 : Int32))), (4, .long r16), (0, .ref (ad (32 + 3 * j))), (1, .ref (ad 1)), (2, .ref (ad 16))]) hx hb d_Message_writeParents_59 hl rfl rfl (Nat.le_of_ble_eq_true rfl) rfl (fun ls hl => ?_)
          refine lv_goto (tgt := 2) hx hb d_Message_writeParents_62 rfl ?_
          exact hk2 (b3 + (1 : Int32)) u46 _ _ _ (lv_sub hl [2, 3, 4, 0] rfl) hP hS hm
  have hl2 : ∀ (fu : Nat), ∀ (b3 : Int32) (u : xS) (H : Heap) (locs : List Loc) (ls : Array Slot), lv_has ls 6 [(0, .ref (ad (32 + 3 * j))), (1, .ref (ad 1)), (2, .ref (ad 16)), (3, .int b3)] → va_P (dC, dI) xCl (cW dT ad u) H → va_S (xA ad 50) s.heap H locs → m_Message_writeParents_l2 fu j b3 u = some u1 → W p l e (xrm 4 94) s m args below meth c H locs 0 0 Q (F0 m 2 ls []) := by
    intro fu
    induction fu with
    | zero => intro b3 u H locs ls hl hP hS hm; exact absurd hm (fun z => by cases z)
    | succ n ih => intro b3 u H locs ls hl hP hS hm; exact hs2 (m_Message_writeParents_l2 n) ih b3 u H locs ls hl hP hS hm
  unfold m_Message_writeParents at hm
  refine lv_iconst (v := (0 : Int32)) hx hb d_Message_writeParents_0 (by decide) ?_
  refine lv_istore_n (lv' := [(3, .int (0 : Int32)), (0, .ref (ad (32 + 3 * j))), (1, .ref (ad 1)), (2, .ref (ad 16))]) hx hb d_Message_writeParents_1 rfl hl (Nat.le_of_ble_eq_true rfl) rfl (fun ls hl => ?_)
  exact hl2 xFU (0 : Int32) u _ _ _ (lv_sub hl [1, 2, 3, 0] rfl) hP hS hm
