set_option maxHeartbeats 4000000 in
set_option maxRecDepth 100000 in
theorem c_History_nextOf (l : Launch) (dC : Nat → ClassId) (dI : Nat → Nat → Nat) (dT : Nat → ClassId) (ad : Nat → Nat) (a1 : Int64) (a3 : Int32) (u : xS) (out : Int32) (hm : m_History_nextOf a1 a3 u = some out) : Met l y_History_nextOf (Cond.code y_History_nextOf b_History_nextOf 9 (some .int) :: xG) (xrm 3 66) (va_Pc [.ref (ad 1), .long a1, .int a3] (xR (dC, dI) xCl (xT dT) (cW dT ad u))) (va_Qi (fun r9 (_ : Unit) => r9 = out) (fun _ _ => True) xN) 0 0 xN := by
  refine xm_roi (cc := b_History_nextOf) (maxL := 9) (by decide) rfl (Nat.le_of_ble_eq_true rfl) ?_
  intro p e s m args below meth c Q ls hx hb hml hts hown hK hN hP hl hret
  have hT : ∀ w ∈ xG, w.before args s = true := fun w h => hts w (List.mem_cons_of_mem _ h)
  have hown : s.vm.findClass "EventGraphText$History" = some m.cls := hown
  have hl : lv_has ls 9 [(0, .ref (ad 1)), (1, .long a1), (3, .int a3)] := hl
  have hS : va_S xN s.heap s.heap [] := va_S.rf
  have hb96 : ∀ (t0 : Int64) (H : Heap) (locs : List Loc) (ls : Array Slot), lv_has ls 9 [] → va_P (dC, dI) xCl (cW dT ad u) H → va_S xN s.heap H locs → m_History_nextOf_b96 t0 u = some out → W p l e (xrm 3 66) s m args below meth c H locs 0 0 Q (F0 m 96 ls [.long t0, .ref (ad 1)]) := by
    intro t0 H locs ls hl hP hS hm
    unfold m_History_nextOf_b96 at hm
    obtain ⟨r96, h96, hm⟩ := xb1_some hm
    refine xc_i (va_runV (C := "EventGraphText$History") (As := [.long t0]) (rest := []) ⟨hx, hb, hml, hown, hts⟩ (c_History_leastOf l dC dI dT ad t0 u r96 h96) (cwV 1 hts (xgV wd_320 wd_321 wd_322 wd_2 wd_323) rfl rfl rfl pd_History_leastOf ⟨Nat.le_of_ble_eq_true rfl, Nat.le_of_ble_eq_true rfl⟩) (xpreV (C := "EventGraphText$History") (T := T_History) (N := 9) hP hK hN rfl cW_H) rfl rfl hl.1 rfl (lv_room (Nat.le_of_ble_eq_true rfl)) d_History_nextOf_96 ⟨Nat.le_of_ble_eq_true rfl, Nat.le_of_ble_eq_true rfl⟩) hP hS (fun H locs hP hS => ?_)
    exact hret hm hS d_History_nextOf_99
  have hs9 : ∀ (k9 : Int64 → Int32 → Int64 → Int64 → Int32 → xS → Option Int32) (hk9 : ∀ (b1 : Int64) (b3 : Int32) (b4 : Int64) (b6 : Int64) (b8 : Int32) (H : Heap) (locs : List Loc) (ls : Array Slot), lv_has ls 9 [(0, .ref (ad 1)), (1, .long b1), (3, .int b3), (4, .long b4), (6, .long b6), (8, .int b8)] → va_P (dC, dI) xCl (cW dT ad u) H → va_S xN s.heap H locs → k9 b1 b3 b4 b6 b8 u = some out → W p l e (xrm 3 66) s m args below meth c H locs 0 0 Q (F0 m 9 ls [])), ∀ (b1 : Int64) (b3 : Int32) (b4 : Int64) (b6 : Int64) (b8 : Int32) (H : Heap) (locs : List Loc) (ls : Array Slot), lv_has ls 9 [(0, .ref (ad 1)), (1, .long b1), (3, .int b3), (4, .long b4), (6, .long b6), (8, .int b8)] → va_P (dC, dI) xCl (cW dT ad u) H → va_S xN s.heap H locs → m_History_nextOf_s9 k9 b1 b3 b4 b6 b8 u = some out → W p l e (xrm 3 66) s m args below meth c H locs 0 0 Q (F0 m 9 ls []) := by
    intro k9 hk9 b1 b3 b4 b6 b8 H locs ls hl hP hS hm
    unfold m_History_nextOf_s9 at hm
    refine lv_iload hx hb d_History_nextOf_9 (lv_at hl 5 rfl) ?_
    refine lv_aload_n hx hb d_History_nextOf_11 rfl (lv_at hl 0 rfl) ?_
    refine va_get (D := (dC, dI)) (ci := 1) (v := .int (xs_i u 0)) (C := "EventGraphText$History") (T := T_History) (N := 9) hx hb hT hin_History hown hK hP 1 cW_H rfl 8 (by decide) (hT _ wd_33) (fun _ h9 => h9) rfl d_History_nextOf_12 ?_
    refine lv_icmp_ge (tgt := 81) hx hb d_History_nextOf_15 rfl (fun h => ?_) (fun h => ?_)
    · replace hm := xi_pos h hm
      refine lv_aload_n hx hb d_History_nextOf_81 rfl (lv_at hl 0 rfl) ?_
      refine lv_lload hx hb d_History_nextOf_82 (lv_at hl 4 rfl) ?_
      refine lv_lconst (v := (0 : Int64)) hx hb d_History_nextOf_84 (by decide) ?_
      refine xl_cmp_eq (tgt := 94) hx hb d_History_nextOf_85 d_History_nextOf_86 rfl (fun h => ?_) (fun h => ?_)
      · replace hm := xi_pos h hm
        refine lv_lload hx hb d_History_nextOf_94 (lv_at hl 3 rfl) ?_
        exact hb96 b4 _ _ _ (lv_sub hl [] rfl) hP hS hm
      · replace hm := xi_neg h hm
        refine lv_lload hx hb d_History_nextOf_89 (lv_at hl 4 rfl) ?_
        refine lv_goto (tgt := 96) hx hb d_History_nextOf_91 rfl ?_
        exact hb96 b6 _ _ _ (lv_sub hl [] rfl) hP hS hm
    · replace hm := xi_neg h hm
      refine lv_lload_n hx hb d_History_nextOf_18 rfl (lv_at hl 1 rfl) ?_
      refine lv_iload hx hb d_History_nextOf_19 (lv_at hl 5 rfl) ?_
      obtain ⟨r21, h21, hm⟩ := xb1_some hm
      refine xc_i (va_runSN (As := [.long b1, .int b8]) (rest := []) ⟨hx, hb, hml, hown, hts⟩ (c_Text_has l b1 b8 r21 h21) ⟨va_cnB 2 hts (xg0 wd_217) rfl rfl rfl (nmm_9 hN) (hT _ wd_1) pd_Text_has.2 ⟨Nat.le_of_ble_eq_true rfl, Nat.le_of_ble_eq_true rfl⟩, hT _ wd_216, trivial⟩ xpreS0 rfl rfl hl.1 rfl (lv_room (Nat.le_of_ble_eq_true rfl)) d_History_nextOf_21 ⟨Nat.le_of_ble_eq_true rfl, Nat.le_of_ble_eq_true rfl⟩) hP hS (fun H locs hP hS => ?_)
      refine lv_if_eq (tgt := 75) hx hb d_History_nextOf_24 rfl (fun h => ?_) (fun h => ?_)
      · replace hm := xi_pos h hm
        refine lv_iinc (k := 5) (v := (b8 + (1 : Int32))) (lv' := [(8, .int (b8 + (1 : Int32))), (0, .ref (ad 1)), (1, .long b1), (3, .int b3), (4, .long b4), (6, .long b6)]) hx hb d_History_nextOf_75 hl rfl rfl (Nat.le_of_ble_eq_true rfl) rfl (fun ls hl => ?_)
        refine lv_goto (tgt := 9) hx hb d_History_nextOf_78 rfl ?_
        exact hk9 b1 b3 b4 b6 (b8 + (1 : Int32)) _ _ _ (lv_sub hl [1, 2, 3, 4, 5, 0] rfl) hP hS hm
      · replace hm := xi_neg h hm
        refine lv_aload_n hx hb d_History_nextOf_27 rfl (lv_at hl 0 rfl) ?_
        refine va_get (D := (dC, dI)) (ci := 1) (v := .ref (ad 6)) (C := "EventGraphText$History") (T := T_History) (N := 9) hx hb hT hin_History hown hK hP 1 cW_H rfl 4 (by decide) (hT _ wd_29) (fun _ h9 => h9) rfl d_History_nextOf_28 ?_
        refine lv_iload hx hb d_History_nextOf_31 (lv_at hl 5 rfl) ?_
        obtain ⟨g1, hm⟩ := xg_some hm
        refine va_lald hx hb hK hP 6 1 cW_H_parents rfl g1 d_History_nextOf_33 ?_
        refine lv_lload_n hx hb d_History_nextOf_34 rfl (lv_at hl 1 rfl) ?_
        refine lv_land hx hb d_History_nextOf_35 ?_
        refine lv_lconst (v := (0 : Int64)) hx hb d_History_nextOf_36 (by decide) ?_
        refine xl_cmp_ne (tgt := 75) hx hb d_History_nextOf_37 d_History_nextOf_38 rfl (fun h => ?_) (fun h => ?_)
        · replace hm := xi_neg h hm
          refine lv_iinc (k := 5) (v := (b8 + (1 : Int32))) (lv' := [(8, .int (b8 + (1 : Int32))), (0, .ref (ad 1)), (1, .long b1), (3, .int b3), (4, .long b4), (6, .long b6)]) hx hb d_History_nextOf_75 hl rfl rfl (Nat.le_of_ble_eq_true rfl) rfl (fun ls hl => ?_)
          refine lv_goto (tgt := 9) hx hb d_History_nextOf_78 rfl ?_
          exact hk9 b1 b3 b4 b6 (b8 + (1 : Int32)) _ _ _ (lv_sub hl [1, 2, 3, 4, 5, 0] rfl) hP hS hm
        · replace hm := xi_pos h hm
          refine lv_lload hx hb d_History_nextOf_41 (lv_at hl 3 rfl) ?_
          refine lv_iload hx hb d_History_nextOf_43 (lv_at hl 5 rfl) ?_
          obtain ⟨r45, h45, hm⟩ := xb1_some hm
          refine xc_l (va_runSN (As := [.int b8]) (rest := [.long b4]) ⟨hx, hb, hml, hown, hts⟩ (c_Text_bit l b8 r45 h45) ⟨va_cnB 1 hts (xg0 wd_220) rfl rfl rfl (nmm_10 hN) (hT _ wd_1) pd_Text_bit.2 ⟨Nat.le_of_ble_eq_true rfl, Nat.le_of_ble_eq_true rfl⟩, hT _ wd_219, trivial⟩ xpreS0 rfl rfl hl.1 rfl (lv_room (Nat.le_of_ble_eq_true rfl)) d_History_nextOf_45 ⟨Nat.le_of_ble_eq_true rfl, Nat.le_of_ble_eq_true rfl⟩) hP hS (fun H locs hP hS => ?_)
          refine lv_lor hx hb d_History_nextOf_48 ?_
          refine lv_lstore (lv' := [(4, .long (b4 ||| r45)), (0, .ref (ad 1)), (1, .long b1), (3, .int b3), (6, .long b6), (8, .int b8)]) hx hb d_History_nextOf_49 hl (Nat.le_of_ble_eq_true rfl) rfl (fun ls hl => ?_)
          refine lv_aload_n hx hb d_History_nextOf_51 rfl (lv_at hl 1 rfl) ?_
          refine va_get (D := (dC, dI)) (ci := 1) (v := .ref (ad 6)) (C := "EventGraphText$History") (T := T_History) (N := 9) hx hb hT hin_History hown hK hP 1 cW_H rfl 4 (by decide) (hT _ wd_29) (fun _ h9 => h9) rfl d_History_nextOf_52 ?_
          refine lv_iload hx hb d_History_nextOf_55 (lv_at hl 5 rfl) ?_
          refine va_lald hx hb hK hP 6 1 cW_H_parents rfl g1 d_History_nextOf_57 ?_
          refine lv_iload_n hx hb d_History_nextOf_58 rfl (lv_at hl 3 rfl) ?_
          obtain ⟨r59, h59, hm⟩ := xb1_some hm
          refine xc_i (va_runSN (As := [.long (xs_L u 0 b8.toNatClampNeg), .int b3]) (rest := []) ⟨hx, hb, hml, hown, hts⟩ (c_Text_has l (xs_L u 0 b8.toNatClampNeg) b3 r59 h59) ⟨va_cnB 2 hts (xg0 wd_217) rfl rfl rfl (nmm_9 hN) (hT _ wd_1) pd_Text_has.2 ⟨Nat.le_of_ble_eq_true rfl, Nat.le_of_ble_eq_true rfl⟩, hT _ wd_216, trivial⟩ xpreS0 rfl rfl hl.1 rfl (lv_room (Nat.le_of_ble_eq_true rfl)) d_History_nextOf_59 ⟨Nat.le_of_ble_eq_true rfl, Nat.le_of_ble_eq_true rfl⟩) hP hS (fun H locs hP hS => ?_)
          refine lv_if_eq (tgt := 75) hx hb d_History_nextOf_62 rfl (fun h => ?_) (fun h => ?_)
          · replace hm := xi_pos h hm
            refine lv_iinc (k := 5) (v := (b8 + (1 : Int32))) (lv' := [(8, .int (b8 + (1 : Int32))), (4, .long (b4 ||| r45)), (0, .ref (ad 1)), (1, .long b1), (3, .int b3), (6, .long b6)]) hx hb d_History_nextOf_75 hl rfl rfl (Nat.le_of_ble_eq_true rfl) rfl (fun ls hl => ?_)
            refine lv_goto (tgt := 9) hx hb d_History_nextOf_78 rfl ?_
            exact hk9 b1 b3 (b4 ||| r45) b6 (b8 + (1 : Int32)) _ _ _ (lv_sub hl [2, 3, 4, 1, 5, 0] rfl) hP hS hm
          · replace hm := xi_neg h hm
            refine lv_lload hx hb d_History_nextOf_65 (lv_at hl 4 rfl) ?_
            refine lv_iload hx hb d_History_nextOf_67 (lv_at hl 5 rfl) ?_
            obtain ⟨r69, h69, hm⟩ := xb1_some hm
            refine xc_l (va_runSN (As := [.int b8]) (rest := [.long b6]) ⟨hx, hb, hml, hown, hts⟩ (c_Text_bit l b8 r69 h69) ⟨va_cnB 1 hts (xg0 wd_220) rfl rfl rfl (nmm_10 hN) (hT _ wd_1) pd_Text_bit.2 ⟨Nat.le_of_ble_eq_true rfl, Nat.le_of_ble_eq_true rfl⟩, hT _ wd_219, trivial⟩ xpreS0 rfl rfl hl.1 rfl (lv_room (Nat.le_of_ble_eq_true rfl)) d_History_nextOf_69 ⟨Nat.le_of_ble_eq_true rfl, Nat.le_of_ble_eq_true rfl⟩) hP hS (fun H locs hP hS => ?_)
            refine lv_lor hx hb d_History_nextOf_72 ?_
            refine lv_lstore (lv' := [(6, .long (b6 ||| r69)), (4, .long (b4 ||| r45)), (0, .ref (ad 1)), (1, .long b1), (3, .int b3), (8, .int b8)]) hx hb d_History_nextOf_73 hl (Nat.le_of_ble_eq_true rfl) rfl (fun ls hl => ?_)
            refine lv_iinc (k := 5) (v := (b8 + (1 : Int32))) (lv' := [(8, .int (b8 + (1 : Int32))), (6, .long (b6 ||| r69)), (4, .long (b4 ||| r45)), (0, .ref (ad 1)), (1, .long b1), (3, .int b3)]) hx hb d_History_nextOf_75 hl rfl rfl (Nat.le_of_ble_eq_true rfl) rfl (fun ls hl => ?_)
            refine lv_goto (tgt := 9) hx hb d_History_nextOf_78 rfl ?_
            exact hk9 b1 b3 (b4 ||| r45) (b6 ||| r69) (b8 + (1 : Int32)) _ _ _ (lv_sub hl [3, 4, 5, 2, 1, 0] rfl) hP hS hm
  have hl9 : ∀ (fu : Nat), ∀ (b1 : Int64) (b3 : Int32) (b4 : Int64) (b6 : Int64) (b8 : Int32) (H : Heap) (locs : List Loc) (ls : Array Slot), lv_has ls 9 [(0, .ref (ad 1)), (1, .long b1), (3, .int b3), (4, .long b4), (6, .long b6), (8, .int b8)] → va_P (dC, dI) xCl (cW dT ad u) H → va_S xN s.heap H locs → m_History_nextOf_l9 fu b1 b3 b4 b6 b8 u = some out → W p l e (xrm 3 66) s m args below meth c H locs 0 0 Q (F0 m 9 ls []) := by
    intro fu
    induction fu with
    | zero => intro b1 b3 b4 b6 b8 H locs ls hl hP hS hm; exact absurd hm (fun z => by cases z)
    | succ n ih => intro b1 b3 b4 b6 b8 H locs ls hl hP hS hm; exact hs9 (m_History_nextOf_l9 n) ih b1 b3 b4 b6 b8 H locs ls hl hP hS hm
  unfold m_History_nextOf at hm
  refine lv_lconst (v := (0 : Int64)) hx hb d_History_nextOf_0 (by decide) ?_
  refine lv_lstore (lv' := [(4, .long (0 : Int64)), (0, .ref (ad 1)), (1, .long a1), (3, .int a3)]) hx hb d_History_nextOf_1 hl (Nat.le_of_ble_eq_true rfl) rfl (fun ls hl => ?_)
  refine lv_lconst (v := (0 : Int64)) hx hb d_History_nextOf_3 (by decide) ?_
  refine lv_lstore (lv' := [(6, .long (0 : Int64)), (4, .long (0 : Int64)), (0, .ref (ad 1)), (1, .long a1), (3, .int a3)]) hx hb d_History_nextOf_4 hl (Nat.le_of_ble_eq_true rfl) rfl (fun ls hl => ?_)
  refine lv_iconst (v := (0 : Int32)) hx hb d_History_nextOf_6 (by decide) ?_
  refine lv_istore (lv' := [(8, .int (0 : Int32)), (6, .long (0 : Int64)), (4, .long (0 : Int64)), (0, .ref (ad 1)), (1, .long a1), (3, .int a3)]) hx hb d_History_nextOf_7 hl (Nat.le_of_ble_eq_true rfl) rfl (fun ls hl => ?_)
  exact hl9 xFU a1 a3 (0 : Int64) (0 : Int64) (0 : Int32) _ _ _ (lv_sub hl [3, 4, 5, 2, 1, 0] rfl) hP hS hm
set_option maxHeartbeats 4000000 in
set_option maxRecDepth 100000 in
theorem c_Line_arrange (l : Launch) (dC : Nat → ClassId) (dI : Nat → Nat → Nat) (dT : Nat → ClassId) (ad : Nat → Nat) (hD : ∀ u, va_D (xA ad 50) (cW dT ad u)) (a2 : Int64) (u : xS) (u1 : xS) (hm : m_Line_arrange a2 u = some u1) : Met l y_Line_arrange (Cond.code y_Line_arrange b_Line_arrange 7 none :: xG) (xrm 4 94) (va_Pc [.ref (ad 16), .ref (ad 1), .long a2] (xR (dC, dI) xCl (xT dT) (cW dT ad u))) (va_Qv (fun (u9 : xS) => u9 = u1) (fun u9 t => va_P (dC, dI) xCl (cW dT ad u9) t.heap) (xA ad 50)) 0 0 (xA ad 50) := by
  refine xm_rwv (Wd := cW dT ad) (cc := b_Line_arrange) (maxL := 7) (by decide) rfl (Nat.le_of_ble_eq_true rfl) ?_
  intro p e s m args below meth c Q ls hx hb hml hts hown hK hN hP hl hret
  have hT : ∀ w ∈ xG, w.before args s = true := fun w h => hts w (List.mem_cons_of_mem _ h)
  have hown : s.vm.findClass "EventGraphText$Line" = some m.cls := hown
  have hl : lv_has ls 7 [(0, .ref (ad 16)), (1, .ref (ad 1)), (2, .long a2)] := hl
  have hS : va_S (xA ad 50) s.heap s.heap [] := va_S.rf
  have hs17 : ∀ (k17 : Int64 → Int32 → xS → Option xS) (hk17 : ∀ (b4 : Int64) (b6 : Int32) (u : xS) (H : Heap) (locs : List Loc) (ls : Array Slot), lv_has ls 7 [(0, .ref (ad 16)), (1, .ref (ad 1)), (4, .long b4), (6, .int b6)] → va_P (dC, dI) xCl (cW dT ad u) H → va_S (xA ad 50) s.heap H locs → k17 b4 b6 u = some u1 → W p l e (xrm 4 94) s m args below meth c H locs 0 0 Q (F0 m 17 ls [])), ∀ (b4 : Int64) (b6 : Int32) (u : xS) (H : Heap) (locs : List Loc) (ls : Array Slot), lv_has ls 7 [(0, .ref (ad 16)), (1, .ref (ad 1)), (4, .long b4), (6, .int b6)] → va_P (dC, dI) xCl (cW dT ad u) H → va_S (xA ad 50) s.heap H locs → m_Line_arrange_s17 k17 b4 b6 u = some u1 → W p l e (xrm 4 94) s m args below meth c H locs 0 0 Q (F0 m 17 ls []) := by
    intro k17 hk17 b4 b6 u H locs ls hl hP hS hm
    unfold m_Line_arrange_s17 at hm
    refine lv_aload_n hx hb d_Line_arrange_17 rfl (lv_at hl 0 rfl) ?_
    refine va_get (D := (dC, dI)) (ci := 2) (v := .int (xs_i u 2)) (C := "EventGraphText$Line") (T := T_Line) (N := 2) hx hb hT hin_Line hown hK hP 16 cW_N rfl 1 (by decide) (hT _ wd_94) (fun _ h9 => h9) rfl d_Line_arrange_18 ?_
    refine lv_bipush (v := (40 : Int32)) hx hb d_Line_arrange_21 (by decide) ?_
    refine lv_icmp_ge (tgt := 80) hx hb d_Line_arrange_23 rfl (fun h => ?_) (fun h => ?_)
    · replace hm := xi_pos h hm
      exact hret hm hP hS d_Line_arrange_80
    · replace hm := xi_neg h hm
      refine lv_iload hx hb d_Line_arrange_26 (lv_at hl 3 rfl) ?_
      refine lv_iconst (v := (-1 : Int32)) hx hb d_Line_arrange_28 (by decide) ?_
      refine lv_icmp_eq (tgt := 80) hx hb d_Line_arrange_29 rfl (fun h => ?_) (fun h => ?_)
      · replace hm := xi_pos h hm
        exact hret hm hP hS d_Line_arrange_80
      · replace hm := xi_neg h hm
        refine lv_aload_n hx hb d_Line_arrange_32 rfl (lv_at hl 0 rfl) ?_
        refine va_get (D := (dC, dI)) (ci := 2) (v := .ref (ad 17)) (C := "EventGraphText$Line") (T := T_Line) (N := 2) hx hb hT hin_Line hown hK hP 16 cW_N rfl 0 (by decide) (hT _ wd_93) (fun _ h9 => h9) rfl d_Line_arrange_33 ?_
        refine lv_aload_n hx hb d_Line_arrange_36 rfl (lv_at hl 0 rfl) ?_
        refine va_get (D := (dC, dI)) (ci := 2) (v := .int (xs_i u 2)) (C := "EventGraphText$Line") (T := T_Line) (N := 2) hx hb hT hin_Line hown hK hP 16 cW_N rfl 1 (by decide) (hT _ wd_94) (fun _ h9 => h9) rfl d_Line_arrange_37 ?_
        refine lv_iload hx hb d_Line_arrange_40 (lv_at hl 3 rfl) ?_
        obtain ⟨g1, hm⟩ := xg_some hm
        obtain ⟨w42, hw42, hm⟩ := xlt_some hm
        refine va_iast hx hb hK hP (hD _) hS 17 0 cW_N_slots rfl g1 d_Line_arrange_42 (fun H locs hP _ hS => ?_)
        replace hP : va_P (dC, dI) xCl (cW dT ad w42) H := xp_conv ((cW_s_N_slots).trans (congrArg (cW dT ad) hw42.symm)) hP
        refine lv_aload_n hx hb d_Line_arrange_43 rfl (lv_at hl 0 rfl) ?_
        refine lv_dup hx hb d_Line_arrange_44 rfl ?_
        refine va_get (D := (dC, dI)) (ci := 2) (v := .int (xs_i w42 2)) (C := "EventGraphText$Line") (T := T_Line) (N := 2) hx hb hT hin_Line hown hK hP 16 cW_N rfl 1 (by decide) (hT _ wd_94) (fun _ h9 => h9) rfl d_Line_arrange_45 ?_
        refine lv_iconst (v := (1 : Int32)) hx hb d_Line_arrange_48 (by decide) ?_
        refine lv_iadd hx hb d_Line_arrange_49 ?_
        obtain ⟨w50, hw50, hm⟩ := xlt_some hm
        refine va_put (D := (dC, dI)) (ci := 2) (v := .int ((xs_i w42 2) + (1 : Int32))) (ty := .int) (C := "EventGraphText$Line") (T := T_Line) (N := 2) hx hb hT hin_Line ty_Line tyok_Line nm_Line hown hK hP (hD _) hS 16 cW_N rfl 1 (by decide) (hT _ wd_94) (fun _ h9 => h9) rfl (by decide +kernel) rfl rfl (Nat.le_of_ble_eq_true rfl) d_Line_arrange_50 (fun H locs hP _ hS => ?_)
        replace hP : va_P (dC, dI) xCl (cW dT ad w50) H := xp_conv ((cW_f_N_count).trans (congrArg (cW dT ad) hw50.symm)) hP
        refine lv_lload hx hb d_Line_arrange_53 (lv_at hl 2 rfl) ?_
        refine lv_iload hx hb d_Line_arrange_55 (lv_at hl 3 rfl) ?_
        obtain ⟨r57, h57, hm⟩ := xb1_some hm
        refine xc_l (va_runSN (As := [.int b6]) (rest := [.long b4]) ⟨hx, hb, hml, hown, hts⟩ (c_Text_bit l b6 r57 h57) ⟨va_cnB 1 hts (xg0 wd_220) rfl rfl rfl (nmm_11 hN) (hT _ wd_1) pd_Text_bit.2 ⟨Nat.le_of_ble_eq_true rfl, Nat.le_of_ble_eq_true rfl⟩, hT _ wd_219, trivial⟩ xpreS0 rfl rfl hl.1 rfl (lv_room (Nat.le_of_ble_eq_true rfl)) d_Line_arrange_57 ⟨Nat.le_of_ble_eq_true rfl, Nat.le_of_ble_eq_true rfl⟩) hP hS (fun H locs hP hS => ?_)
        refine lv_ldc2 (v := (-1 : Int64)) hx hb hown (hT _ wd_326) d_Line_arrange_60 ?_
        refine lv_lxor hx hb d_Line_arrange_63 ?_
        refine lv_land hx hb d_Line_arrange_64 ?_
        refine lv_lstore (lv' := [(4, .long (b4 &&& (r57 ^^^ (-1 : Int64)))), (0, .ref (ad 16)), (1, .ref (ad 1)), (6, .int b6)]) hx hb d_Line_arrange_65 hl (Nat.le_of_ble_eq_true rfl) rfl (fun ls hl => ?_)
        refine lv_aload_n hx hb d_Line_arrange_67 rfl (lv_at hl 2 rfl) ?_
        refine lv_lload hx hb d_Line_arrange_68 (lv_at hl 0 rfl) ?_
        refine lv_iload hx hb d_Line_arrange_70 (lv_at hl 3 rfl) ?_
        obtain ⟨r72, h72, hm⟩ := xb1_some hm
        refine xc_i (va_runV (C := "EventGraphText$History") (As := [.long (b4 &&& (r57 ^^^ (-1 : Int64))), .int b6]) (rest := []) ⟨hx, hb, hml, hown, hts⟩ (c_History_nextOf l dC dI dT ad (b4 &&& (r57 ^^^ (-1 : Int64))) b6 w50 r72 h72) (cwV 2 hts (xgV wd_315 wd_316 wd_317 wd_2 wd_318) rfl rfl rfl pd_History_nextOf ⟨Nat.le_of_ble_eq_true rfl, Nat.le_of_ble_eq_true rfl⟩) (xpreV (C := "EventGraphText$History") (T := T_History) (N := 9) hP hK hN rfl cW_H) rfl rfl hl.1 rfl (lv_room (Nat.le_of_ble_eq_true rfl)) d_Line_arrange_72 ⟨Nat.le_of_ble_eq_true rfl, Nat.le_of_ble_eq_true rfl⟩) hP hS (fun H locs hP hS => ?_)
        refine lv_istore (lv' := [(6, .int r72), (4, .long (b4 &&& (r57 ^^^ (-1 : Int64)))), (0, .ref (ad 16)), (1, .ref (ad 1))]) hx hb d_Line_arrange_75 hl (Nat.le_of_ble_eq_true rfl) rfl (fun ls hl => ?_)
        refine lv_goto (tgt := 17) hx hb d_Line_arrange_77 rfl ?_
        exact hk17 (b4 &&& (r57 ^^^ (-1 : Int64))) r72 w50 _ _ _ (lv_sub hl [2, 3, 1, 0] rfl) hP hS hm
  have hl17 : ∀ (fu : Nat), ∀ (b4 : Int64) (b6 : Int32) (u : xS) (H : Heap) (locs : List Loc) (ls : Array Slot), lv_has ls 7 [(0, .ref (ad 16)), (1, .ref (ad 1)), (4, .long b4), (6, .int b6)] → va_P (dC, dI) xCl (cW dT ad u) H → va_S (xA ad 50) s.heap H locs → m_Line_arrange_l17 fu b4 b6 u = some u1 → W p l e (xrm 4 94) s m args below meth c H locs 0 0 Q (F0 m 17 ls []) := by
    intro fu
    induction fu with
    | zero => intro b4 b6 u H locs ls hl hP hS hm; exact absurd hm (fun z => by cases z)
    | succ n ih => intro b4 b6 u H locs ls hl hP hS hm; exact hs17 (m_Line_arrange_l17 n) ih b4 b6 u H locs ls hl hP hS hm
  unfold m_Line_arrange at hm
  refine lv_lload_n hx hb d_Line_arrange_0 rfl (lv_at hl 2 rfl) ?_
  refine lv_lstore (lv' := [(4, .long a2), (0, .ref (ad 16)), (1, .ref (ad 1)), (2, .long a2)]) hx hb d_Line_arrange_1 hl (Nat.le_of_ble_eq_true rfl) rfl (fun ls hl => ?_)
  refine lv_aload_n hx hb d_Line_arrange_3 rfl (lv_at hl 2 rfl) ?_
  refine lv_lload hx hb d_Line_arrange_4 (lv_at hl 0 rfl) ?_
  refine lv_iconst (v := (-1 : Int32)) hx hb d_Line_arrange_6 (by decide) ?_
  obtain ⟨r7, h7, hm⟩ := xb1_some hm
  refine xc_i (va_runV (C := "EventGraphText$History") (As := [.long a2, .int (-1 : Int32)]) (rest := []) ⟨hx, hb, hml, hown, hts⟩ (c_History_nextOf l dC dI dT ad a2 (-1 : Int32) u r7 h7) (cwV 2 hts (xgV wd_315 wd_316 wd_317 wd_2 wd_318) rfl rfl rfl pd_History_nextOf ⟨Nat.le_of_ble_eq_true rfl, Nat.le_of_ble_eq_true rfl⟩) (xpreV (C := "EventGraphText$History") (T := T_History) (N := 9) hP hK hN rfl cW_H) rfl rfl hl.1 rfl (lv_room (Nat.le_of_ble_eq_true rfl)) d_Line_arrange_7 ⟨Nat.le_of_ble_eq_true rfl, Nat.le_of_ble_eq_true rfl⟩) hP hS (fun H locs hP hS => ?_)
  refine lv_istore (lv' := [(6, .int r7), (4, .long a2), (0, .ref (ad 16)), (1, .ref (ad 1)), (2, .long a2)]) hx hb d_Line_arrange_10 hl (Nat.le_of_ble_eq_true rfl) rfl (fun ls hl => ?_)
  refine lv_aload_n hx hb d_Line_arrange_12 rfl (lv_at hl 2 rfl) ?_
  refine lv_iconst (v := (0 : Int32)) hx hb d_Line_arrange_13 (by decide) ?_
  obtain ⟨w14, hw14, hm⟩ := xlt_some hm
  refine va_put (D := (dC, dI)) (ci := 2) (v := .int (0 : Int32)) (ty := .int) (C := "EventGraphText$Line") (T := T_Line) (N := 2) hx hb hT hin_Line ty_Line tyok_Line nm_Line hown hK hP (hD _) hS 16 cW_N rfl 1 (by decide) (hT _ wd_94) (fun _ h9 => h9) rfl (by decide +kernel) rfl rfl (Nat.le_of_ble_eq_true rfl) d_Line_arrange_14 (fun H locs hP _ hS => ?_)
  replace hP : va_P (dC, dI) xCl (cW dT ad w14) H := xp_conv ((cW_f_N_count).trans (congrArg (cW dT ad) hw14.symm)) hP
  exact hl17 xFU a2 r7 w14 _ _ _ (lv_sub hl [2, 3, 1, 0] rfl) hP hS hm
set_option maxHeartbeats 4000000 in
set_option maxRecDepth 100000 in
theorem c_Message_start (l : Launch) (dC : Nat → ClassId) (dI : Nat → Nat → Nat) (dT : Nat → ClassId) (ad : Nat → Nat) (hD : ∀ u, va_D (xA ad 50) (cW dT ad u)) (j : Nat) (a1 : Int32) (a2 : Int32) (a3 : Int64) (u : xS) (hj : j < 6) (u1 : xS) (hm : m_Message_start j a1 a2 a3 u = some u1) : Met l y_Message_start (Cond.code y_Message_start b_Message_start 5 none :: xG) (xrm 0 0) (va_Pc [.ref (ad (32 + 3 * j)), .int a1, .int a2, .long a3] (xR (dC, dI) xCl (xT dT) (cW dT ad u))) (va_Qv (fun (u9 : xS) => u9 = u1) (fun u9 t => va_P (dC, dI) xCl (cW dT ad u9) t.heap) (xA ad 50)) 0 0 (xA ad 50) := by
  refine xm_rwv (Wd := cW dT ad) (cc := b_Message_start) (maxL := 5) (by decide) rfl (Nat.le_of_ble_eq_true rfl) ?_
  intro p e s m args below meth c Q ls hx hb hml hts hown hK hN hP hl hret
  have hT : ∀ w ∈ xG, w.before args s = true := fun w h => hts w (List.mem_cons_of_mem _ h)
  have hown : s.vm.findClass "EventGraphText$Message" = some m.cls := hown
  have hl : lv_has ls 5 [(0, .ref (ad (32 + 3 * j))), (1, .int a1), (2, .int a2), (3, .long a3)] := hl
  have hS : va_S (xA ad 50) s.heap s.heap [] := va_S.rf
  unfold m_Message_start at hm
  refine lv_aload_n hx hb d_Message_start_0 rfl (lv_at hl 0 rfl) ?_
  refine lv_iconst (v := (1 : Int32)) hx hb d_Message_start_1 (by decide) ?_
  obtain ⟨w2, hw2, hm⟩ := xlt_some hm
  refine va_put (D := (dC, dI)) (ci := 4) (v := .int (1 : Int32)) (ty := .boolean) (C := "EventGraphText$Message") (T := T_Message) (N := 5) hx hb hT hin_Message ty_Message tyok_Message nm_Message hown hK hP (hD _) hS (32 + 3 * j) (cW_M hj) rfl 1 (by decide) (hT _ wd_165) (fun _ h9 => h9) rfl (by decide +kernel) rfl rfl (Nat.le_of_ble_eq_true rfl) d_Message_start_2 (fun H locs hP _ hS => ?_)
  replace hP : va_P (dC, dI) xCl (cW dT ad w2) H := xp_conv ((cW_f_M_underWay hj).trans (congrArg (cW dT ad) hw2.symm)) hP
  refine lv_aload_n hx hb d_Message_start_5 rfl (lv_at hl 0 rfl) ?_
  refine lv_iload_n hx hb d_Message_start_6 rfl (lv_at hl 1 rfl) ?_
  obtain ⟨w7, hw7, hm⟩ := xlt_some hm
  refine va_put (D := (dC, dI)) (ci := 4) (v := .int a1) (ty := .int) (C := "EventGraphText$Message") (T := T_Message) (N := 5) hx hb hT hin_Message ty_Message tyok_Message nm_Message hown hK hP (hD _) hS (32 + 3 * j) (cW_M hj) rfl 2 (by decide) (hT _ wd_167) (fun _ h9 => h9) rfl (by decide +kernel) rfl rfl (Nat.le_of_ble_eq_true rfl) d_Message_start_7 (fun H locs hP _ hS => ?_)
  replace hP : va_P (dC, dI) xCl (cW dT ad w7) H := xp_conv ((cW_f_M_from hj).trans (congrArg (cW dT ad) hw7.symm)) hP
  refine lv_aload_n hx hb d_Message_start_10 rfl (lv_at hl 0 rfl) ?_
  refine lv_iload_n hx hb d_Message_start_11 rfl (lv_at hl 2 rfl) ?_
  obtain ⟨w12, hw12, hm⟩ := xlt_some hm
  refine va_put (D := (dC, dI)) (ci := 4) (v := .int a2) (ty := .int) (C := "EventGraphText$Message") (T := T_Message) (N := 5) hx hb hT hin_Message ty_Message tyok_Message nm_Message hown hK hP (hD _) hS (32 + 3 * j) (cW_M hj) rfl 3 (by decide) (hT _ wd_169) (fun _ h9 => h9) rfl (by decide +kernel) rfl rfl (Nat.le_of_ble_eq_true rfl) d_Message_start_12 (fun H locs hP _ hS => ?_)
  replace hP : va_P (dC, dI) xCl (cW dT ad w12) H := xp_conv ((cW_f_M_to hj).trans (congrArg (cW dT ad) hw12.symm)) hP
  refine lv_aload_n hx hb d_Message_start_15 rfl (lv_at hl 0 rfl) ?_
  refine lv_lload_n hx hb d_Message_start_16 rfl (lv_at hl 3 rfl) ?_
  obtain ⟨w17, hw17, hm⟩ := xlt_some hm
  refine va_put (D := (dC, dI)) (ci := 4) (v := .long a3) (ty := .long) (C := "EventGraphText$Message") (T := T_Message) (N := 5) hx hb hT hin_Message ty_Message tyok_Message nm_Message hown hK hP (hD _) hS (32 + 3 * j) (cW_M hj) rfl 4 (by decide) (hT _ wd_171) (fun _ h9 => h9) rfl (by decide +kernel) rfl rfl (Nat.le_of_ble_eq_true rfl) d_Message_start_17 (fun H locs hP _ hS => ?_)
  replace hP : va_P (dC, dI) xCl (cW dT ad w17) H := xp_conv ((cW_f_M_carried hj).trans (congrArg (cW dT ad) hw17.symm)) hP
  exact hret hm hP hS d_Message_start_20
set_option maxHeartbeats 4000000 in
set_option maxRecDepth 100000 in
theorem c_OctetRow_clear (l : Launch) (dC : Nat → ClassId) (dI : Nat → Nat → Nat) (dT : Nat → ClassId) (ad : Nat → Nat) (hD : ∀ u, va_D (xA ad 50) (cW dT ad u)) (j : Nat) (u : xS) (hj : j < 6) (u1 : xS) (hm : m_OctetRow_clear j u = some u1) : Met l y_OctetRow_clear (Cond.code y_OctetRow_clear b_OctetRow_clear 1 none :: xG) (xrm 0 0) (va_Pc [.ref (ad (33 + 3 * j))] (xR (dC, dI) xCl (xT dT) (cW dT ad u))) (va_Qv (fun (u9 : xS) => u9 = u1) (fun u9 t => va_P (dC, dI) xCl (cW dT ad u9) t.heap) (xA ad 50)) 0 0 (xA ad 50) := by
  refine xm_rwv (Wd := cW dT ad) (cc := b_OctetRow_clear) (maxL := 1) (by decide) rfl (Nat.le_of_ble_eq_true rfl) ?_
  intro p e s m args below meth c Q ls hx hb hml hts hown hK hN hP hl hret
  have hT : ∀ w ∈ xG, w.before args s = true := fun w h => hts w (List.mem_cons_of_mem _ h)
  have hown : s.vm.findClass "EventGraphText$OctetRow" = some m.cls := hown
  have hl : lv_has ls 1 [(0, .ref (ad (33 + 3 * j)))] := hl
  have hS : va_S (xA ad 50) s.heap s.heap [] := va_S.rf
  unfold m_OctetRow_clear at hm
  refine lv_aload_n hx hb d_OctetRow_clear_0 rfl (lv_at hl 0 rfl) ?_
  refine lv_iconst (v := (0 : Int32)) hx hb d_OctetRow_clear_1 (by decide) ?_
  obtain ⟨w2, hw2, hm⟩ := xlt_some hm
  refine va_put (D := (dC, dI)) (ci := 5) (v := .int (0 : Int32)) (ty := .int) (C := "EventGraphText$OctetRow") (T := T_OctetRow) (N := 2) hx hb hT hin_OctetRow ty_OctetRow tyok_OctetRow nm_OctetRow hown hK hP (hD _) hS (33 + 3 * j) (cW_O hj) rfl 1 (by decide) (hT _ wd_157) (fun _ h9 => h9) rfl (by decide +kernel) rfl rfl (Nat.le_of_ble_eq_true rfl) d_OctetRow_clear_2 (fun H locs hP _ hS => ?_)
  replace hP : va_P (dC, dI) xCl (cW dT ad w2) H := xp_conv ((cW_f_O_count hj).trans (congrArg (cW dT ad) hw2.symm)) hP
  exact hret hm hP hS d_OctetRow_clear_5
set_option maxHeartbeats 4000000 in
set_option maxRecDepth 100000 in
theorem c_Line_size (l : Launch) (dC : Nat → ClassId) (dI : Nat → Nat → Nat) (dT : Nat → ClassId) (ad : Nat → Nat) (u : xS) (out : Int32) (hm : m_Line_size u = some out) : Met l y_Line_size (Cond.code y_Line_size b_Line_size 1 (some .int) :: xG) (xrm 0 0) (va_Pc [.ref (ad 16)] (xR (dC, dI) xCl (xT dT) (cW dT ad u))) (va_Qi (fun r9 (_ : Unit) => r9 = out) (fun _ _ => True) xN) 0 0 xN := by
  refine xm_roi (cc := b_Line_size) (maxL := 1) (by decide) rfl (Nat.le_of_ble_eq_true rfl) ?_
  intro p e s m args below meth c Q ls hx hb hml hts hown hK hN hP hl hret
  have hT : ∀ w ∈ xG, w.before args s = true := fun w h => hts w (List.mem_cons_of_mem _ h)
  have hown : s.vm.findClass "EventGraphText$Line" = some m.cls := hown
  have hl : lv_has ls 1 [(0, .ref (ad 16))] := hl
  have hS : va_S xN s.heap s.heap [] := va_S.rf
  unfold m_Line_size at hm
  refine lv_aload_n hx hb d_Line_size_0 rfl (lv_at hl 0 rfl) ?_
  refine va_get (D := (dC, dI)) (ci := 2) (v := .int (xs_i u 2)) (C := "EventGraphText$Line") (T := T_Line) (N := 2) hx hb hT hin_Line hown hK hP 16 cW_N rfl 1 (by decide) (hT _ wd_94) (fun _ h9 => h9) rfl d_Line_size_1 ?_
  exact hret hm hS d_Line_size_4
set_option maxHeartbeats 4000000 in
set_option maxRecDepth 100000 in
theorem c_OctetRow_add (l : Launch) (dC : Nat → ClassId) (dI : Nat → Nat → Nat) (dT : Nat → ClassId) (ad : Nat → Nat) (hD : ∀ u, va_D (xA ad 50) (cW dT ad u)) (j : Nat) (a1 : Int32) (u : xS) (hj : j < 6) (u1 : xS) (hm : m_OctetRow_add j a1 u = some u1) : Met l y_OctetRow_add (Cond.code y_OctetRow_add b_OctetRow_add 2 none :: xG) (xrm 0 0) (va_Pc [.ref (ad (33 + 3 * j)), .int a1] (xR (dC, dI) xCl (xT dT) (cW dT ad u))) (va_Qv (fun (u9 : xS) => u9 = u1) (fun u9 t => va_P (dC, dI) xCl (cW dT ad u9) t.heap) (xA ad 50)) 0 0 (xA ad 50) := by
  refine xm_rwv (Wd := cW dT ad) (cc := b_OctetRow_add) (maxL := 2) (by decide) rfl (Nat.le_of_ble_eq_true rfl) ?_
  intro p e s m args below meth c Q ls hx hb hml hts hown hK hN hP hl hret
  have hT : ∀ w ∈ xG, w.before args s = true := fun w h => hts w (List.mem_cons_of_mem _ h)
  have hown : s.vm.findClass "EventGraphText$OctetRow" = some m.cls := hown
  have hl : lv_has ls 2 [(0, .ref (ad (33 + 3 * j))), (1, .int a1)] := hl
  have hS : va_S (xA ad 50) s.heap s.heap [] := va_S.rf
  unfold m_OctetRow_add at hm
  refine lv_aload_n hx hb d_OctetRow_add_0 rfl (lv_at hl 0 rfl) ?_
  refine va_get (D := (dC, dI)) (ci := 5) (v := .int (xs_i u (30 + j))) (C := "EventGraphText$OctetRow") (T := T_OctetRow) (N := 2) hx hb hT hin_OctetRow hown hK hP (33 + 3 * j) (cW_O hj) rfl 1 (by decide) (hT _ wd_157) (fun _ h9 => h9) rfl d_OctetRow_add_1 ?_
  refine lv_sipush (v := (442 : Int32)) hx hb d_OctetRow_add_4 (by decide) ?_
  refine lv_icmp_ge (tgt := 30) hx hb d_OctetRow_add_7 rfl (fun h => ?_) (fun h => ?_)
  · replace hm := xi_pos h hm
    exact hret hm hP hS d_OctetRow_add_30
  · replace hm := xi_neg h hm
    refine lv_aload_n hx hb d_OctetRow_add_10 rfl (lv_at hl 0 rfl) ?_
    refine va_get (D := (dC, dI)) (ci := 5) (v := .ref (ad (34 + 3 * j))) (C := "EventGraphText$OctetRow") (T := T_OctetRow) (N := 2) hx hb hT hin_OctetRow hown hK hP (33 + 3 * j) (cW_O hj) rfl 0 (by decide) (hT _ wd_156) (fun _ h9 => h9) rfl d_OctetRow_add_11 ?_
    refine lv_aload_n hx hb d_OctetRow_add_14 rfl (lv_at hl 0 rfl) ?_
    refine va_get (D := (dC, dI)) (ci := 5) (v := .int (xs_i u (30 + j))) (C := "EventGraphText$OctetRow") (T := T_OctetRow) (N := 2) hx hb hT hin_OctetRow hown hK hP (33 + 3 * j) (cW_O hj) rfl 1 (by decide) (hT _ wd_157) (fun _ h9 => h9) rfl d_OctetRow_add_15 ?_
    refine lv_iload_n hx hb d_OctetRow_add_18 rfl (lv_at hl 1 rfl) ?_
    obtain ⟨g1, hm⟩ := xg_some hm
    obtain ⟨w19, hw19, hm⟩ := xlt_some hm
    refine va_iast hx hb hK hP (hD _) hS (34 + 3 * j) 0 (cW_O_row hj) rfl g1 d_OctetRow_add_19 (fun H locs hP _ hS => ?_)
    replace hP : va_P (dC, dI) xCl (cW dT ad w19) H := xp_conv ((cW_s_O_row hj).trans (congrArg (cW dT ad) hw19.symm)) hP
    refine lv_aload_n hx hb d_OctetRow_add_20 rfl (lv_at hl 0 rfl) ?_
    refine lv_dup hx hb d_OctetRow_add_21 rfl ?_
    refine va_get (D := (dC, dI)) (ci := 5) (v := .int (xs_i w19 (30 + j))) (C := "EventGraphText$OctetRow") (T := T_OctetRow) (N := 2) hx hb hT hin_OctetRow hown hK hP (33 + 3 * j) (cW_O hj) rfl 1 (by decide) (hT _ wd_157) (fun _ h9 => h9) rfl d_OctetRow_add_22 ?_
    refine lv_iconst (v := (1 : Int32)) hx hb d_OctetRow_add_25 (by decide) ?_
    refine lv_iadd hx hb d_OctetRow_add_26 ?_
    obtain ⟨w27, hw27, hm⟩ := xlt_some hm
    refine va_put (D := (dC, dI)) (ci := 5) (v := .int ((xs_i w19 (30 + j)) + (1 : Int32))) (ty := .int) (C := "EventGraphText$OctetRow") (T := T_OctetRow) (N := 2) hx hb hT hin_OctetRow ty_OctetRow tyok_OctetRow nm_OctetRow hown hK hP (hD _) hS (33 + 3 * j) (cW_O hj) rfl 1 (by decide) (hT _ wd_157) (fun _ h9 => h9) rfl (by decide +kernel) rfl rfl (Nat.le_of_ble_eq_true rfl) d_OctetRow_add_27 (fun H locs hP _ hS => ?_)
    replace hP : va_P (dC, dI) xCl (cW dT ad w27) H := xp_conv ((cW_f_O_count hj).trans (congrArg (cW dT ad) hw27.symm)) hP
    exact hret hm hP hS d_OctetRow_add_30
set_option maxHeartbeats 4000000 in
set_option maxRecDepth 100000 in
theorem c_OctetRow_put (l : Launch) (dC : Nat → ClassId) (dI : Nat → Nat → Nat) (dT : Nat → ClassId) (ad : Nat → Nat) (hD : ∀ u, va_D (xA ad 50) (cW dT ad u)) (j : Nat) (a1 : Int32) (u : xS) (hj : j < 6) (u1 : xS) (hm : m_OctetRow_put j a1 u = some u1) : Met l y_OctetRow_put (Cond.code y_OctetRow_put b_OctetRow_put 4 none :: xG) (xrm 1 21) (va_Pc [.ref (ad (33 + 3 * j)), .int a1] (xR (dC, dI) xCl (xT dT) (cW dT ad u))) (va_Qv (fun (u9 : xS) => u9 = u1) (fun u9 t => va_P (dC, dI) xCl (cW dT ad u9) t.heap) (xA ad 50)) 0 0 (xA ad 50) := by
  refine xm_rwv (Wd := cW dT ad) (cc := b_OctetRow_put) (maxL := 4) (by decide) rfl (Nat.le_of_ble_eq_true rfl) ?_
  intro p e s m args below meth c Q ls hx hb hml hts hown hK hN hP hl hret
  have hT : ∀ w ∈ xG, w.before args s = true := fun w h => hts w (List.mem_cons_of_mem _ h)
  have hown : s.vm.findClass "EventGraphText$OctetRow" = some m.cls := hown
  have hl : lv_has ls 4 [(0, .ref (ad (33 + 3 * j))), (1, .int a1)] := hl
  have hS : va_S (xA ad 50) s.heap s.heap [] := va_S.rf
  have hb38 : ∀ (b2 : Int32) (u : xS) (H : Heap) (locs : List Loc) (ls : Array Slot), lv_has ls 4 [(0, .ref (ad (33 + 3 * j))), (2, .int b2)] → va_P (dC, dI) xCl (cW dT ad u) H → va_S (xA ad 50) s.heap H locs → m_OctetRow_put_b38 j b2 u = some u1 → W p l e (xrm 1 21) s m args below meth c H locs 0 0 Q (F0 m 38 ls []) := by
    intro b2 u H locs ls hl hP hS hm
    unfold m_OctetRow_put_b38 at hm
    refine lv_aload_n hx hb d_OctetRow_put_38 rfl (lv_at hl 0 rfl) ?_
    refine lv_iload_n hx hb d_OctetRow_put_39 rfl (lv_at hl 1 rfl) ?_
    obtain ⟨u40, h40, hm⟩ := xb1_some hm
    refine xc_vw (Wd := cW dT ad) (va_runV (C := "EventGraphText$OctetRow") (As := [.int b2]) (rest := []) ⟨hx, hb, hml, hown, hts⟩ (c_OctetRow_add l dC dI dT ad hD j b2 u hj u40 h40) (cwV 1 hts (xgV wd_347 wd_349 wds_5 wd_8 wd_350) rfl rfl rfl pd_OctetRow_add ⟨Nat.le_of_ble_eq_true rfl, Nat.le_of_ble_eq_true rfl⟩) (xpreV (C := "EventGraphText$OctetRow") (T := T_OctetRow) (N := 2) hP hK hN rfl (cW_O hj)) rfl rfl hl.1 rfl (lv_room (Nat.le_of_ble_eq_true rfl)) d_OctetRow_put_40 ⟨Nat.le_of_ble_eq_true rfl, Nat.le_of_ble_eq_true rfl⟩) hS (fun _ h => h) (fun H locs hP hS => ?_)
    exact hret hm hP hS d_OctetRow_put_43
  have hs4 : ∀ (k4 : Nat → Int32 → Int32 → xS → Option xS) (hk4 : ∀ (b2 : Int32) (b3 : Int32) (u : xS) (H : Heap) (locs : List Loc) (ls : Array Slot), lv_has ls 4 [(0, .ref (ad (33 + 3 * j))), (2, .int b2), (3, .int b3)] → va_P (dC, dI) xCl (cW dT ad u) H → va_S (xA ad 50) s.heap H locs → k4 j b2 b3 u = some u1 → W p l e (xrm 1 21) s m args below meth c H locs 0 0 Q (F0 m 4 ls [])), ∀ (b2 : Int32) (b3 : Int32) (u : xS) (H : Heap) (locs : List Loc) (ls : Array Slot), lv_has ls 4 [(0, .ref (ad (33 + 3 * j))), (2, .int b2), (3, .int b3)] → va_P (dC, dI) xCl (cW dT ad u) H → va_S (xA ad 50) s.heap H locs → m_OctetRow_put_s4 k4 j b2 b3 u = some u1 → W p l e (xrm 1 21) s m args below meth c H locs 0 0 Q (F0 m 4 ls []) := by
    intro k4 hk4 b2 b3 u H locs ls hl hP hS hm
    unfold m_OctetRow_put_s4 at hm
    refine lv_iload_n hx hb d_OctetRow_put_4 rfl (lv_at hl 2 rfl) ?_
    refine lv_iconst (v := (5 : Int32)) hx hb d_OctetRow_put_5 (by decide) ?_
    refine lv_icmp_ge (tgt := 38) hx hb d_OctetRow_put_6 rfl (fun h => ?_) (fun h => ?_)
    · replace hm := xi_pos h hm
      exact hb38 b2 u _ _ _ (lv_sub hl [0, 1] rfl) hP hS hm
    · replace hm := xi_neg h hm
      refine lv_iload_n hx hb d_OctetRow_put_9 rfl (lv_at hl 1 rfl) ?_
      refine lv_bipush (v := (127 : Int32)) hx hb d_OctetRow_put_10 (by decide) ?_
      refine lv_icmp_le (tgt := 38) hx hb d_OctetRow_put_12 rfl (fun h => ?_) (fun h => ?_)
      · replace hm := xi_pos h hm
        exact hb38 b2 u _ _ _ (lv_sub hl [0, 1] rfl) hP hS hm
      · replace hm := xi_neg h hm
        refine lv_aload_n hx hb d_OctetRow_put_15 rfl (lv_at hl 0 rfl) ?_
        refine lv_sipush (v := (128 : Int32)) hx hb d_OctetRow_put_16 (by decide) ?_
        refine lv_iload_n hx hb d_OctetRow_put_19 rfl (lv_at hl 1 rfl) ?_
        refine lv_bipush (v := (127 : Int32)) hx hb d_OctetRow_put_20 (by decide) ?_
        refine lv_iand hx hb d_OctetRow_put_22 ?_
        refine lv_iadd hx hb d_OctetRow_put_23 ?_
        obtain ⟨u24, h24, hm⟩ := xb1_some hm
        refine xc_vw (Wd := cW dT ad) (va_runV (C := "EventGraphText$OctetRow") (As := [.int ((128 : Int32) + (b2 &&& (127 : Int32)))]) (rest := []) ⟨hx, hb, hml, hown, hts⟩ (c_OctetRow_add l dC dI dT ad hD j ((128 : Int32) + (b2 &&& (127 : Int32))) u hj u24 h24) (cwV 1 hts (xgV wd_347 wd_349 wds_5 wd_8 wd_350) rfl rfl rfl pd_OctetRow_add ⟨Nat.le_of_ble_eq_true rfl, Nat.le_of_ble_eq_true rfl⟩) (xpreV (C := "EventGraphText$OctetRow") (T := T_OctetRow) (N := 2) hP hK hN rfl (cW_O hj)) rfl rfl hl.1 rfl (lv_room (Nat.le_of_ble_eq_true rfl)) d_OctetRow_put_24 ⟨Nat.le_of_ble_eq_true rfl, Nat.le_of_ble_eq_true rfl⟩) hS (fun _ h => h) (fun H locs hP hS => ?_)
        refine lv_iload_n hx hb d_OctetRow_put_27 rfl (lv_at hl 1 rfl) ?_
        refine lv_bipush (v := (7 : Int32)) hx hb d_OctetRow_put_28 (by decide) ?_
        refine lv_ishr hx hb d_OctetRow_put_30 ?_
        refine lv_istore_n (lv' := [(2, .int (b2 >>> ((7 : Int32) &&& 31))), (0, .ref (ad (33 + 3 * j))), (3, .int b3)]) hx hb d_OctetRow_put_31 rfl hl (Nat.le_of_ble_eq_true rfl) rfl (fun ls hl => ?_)
        refine lv_iinc (k := 2) (v := (b3 + (1 : Int32))) (lv' := [(3, .int (b3 + (1 : Int32))), (2, .int (b2 >>> ((7 : Int32) &&& 31))), (0, .ref (ad (33 + 3 * j)))]) hx hb d_OctetRow_put_32 hl rfl rfl (Nat.le_of_ble_eq_true rfl) rfl (fun ls hl => ?_)
        refine lv_goto (tgt := 4) hx hb d_OctetRow_put_35 rfl ?_
        exact hk4 (b2 >>> ((7 : Int32) &&& 31)) (b3 + (1 : Int32)) u24 _ _ _ (lv_sub hl [2, 1, 0] rfl) hP hS hm
  have hl4 : ∀ (fu : Nat), ∀ (b2 : Int32) (b3 : Int32) (u : xS) (H : Heap) (locs : List Loc) (ls : Array Slot), lv_has ls 4 [(0, .ref (ad (33 + 3 * j))), (2, .int b2), (3, .int b3)] → va_P (dC, dI) xCl (cW dT ad u) H → va_S (xA ad 50) s.heap H locs → m_OctetRow_put_l4 fu j b2 b3 u = some u1 → W p l e (xrm 1 21) s m args below meth c H locs 0 0 Q (F0 m 4 ls []) := by
    intro fu
    induction fu with
    | zero => intro b2 b3 u H locs ls hl hP hS hm; exact absurd hm (fun z => by cases z)
    | succ n ih => intro b2 b3 u H locs ls hl hP hS hm; exact hs4 (m_OctetRow_put_l4 n) ih b2 b3 u H locs ls hl hP hS hm
  unfold m_OctetRow_put at hm
  refine lv_iload_n hx hb d_OctetRow_put_0 rfl (lv_at hl 1 rfl) ?_
  refine lv_istore_n (lv' := [(2, .int a1), (0, .ref (ad (33 + 3 * j))), (1, .int a1)]) hx hb d_OctetRow_put_1 rfl hl (Nat.le_of_ble_eq_true rfl) rfl (fun ls hl => ?_)
  refine lv_iconst (v := (1 : Int32)) hx hb d_OctetRow_put_2 (by decide) ?_
  refine lv_istore_n (lv' := [(3, .int (1 : Int32)), (2, .int a1), (0, .ref (ad (33 + 3 * j))), (1, .int a1)]) hx hb d_OctetRow_put_3 rfl hl (Nat.le_of_ble_eq_true rfl) rfl (fun ls hl => ?_)
  exact hl4 xFU a1 (1 : Int32) u _ _ _ (lv_sub hl [2, 1, 0] rfl) hP hS hm
set_option maxHeartbeats 4000000 in
set_option maxRecDepth 100000 in
theorem c_Line_get (l : Launch) (dC : Nat → ClassId) (dI : Nat → Nat → Nat) (dT : Nat → ClassId) (ad : Nat → Nat) (a1 : Int32) (u : xS) (out : Int32) (hm : m_Line_get a1 u = some out) : Met l y_Line_get (Cond.code y_Line_get b_Line_get 2 (some .int) :: xG) (xrm 0 0) (va_Pc [.ref (ad 16), .int a1] (xR (dC, dI) xCl (xT dT) (cW dT ad u))) (va_Qi (fun r9 (_ : Unit) => r9 = out) (fun _ _ => True) xN) 0 0 xN := by
  refine xm_roi (cc := b_Line_get) (maxL := 2) (by decide) rfl (Nat.le_of_ble_eq_true rfl) ?_
  intro p e s m args below meth c Q ls hx hb hml hts hown hK hN hP hl hret
  have hT : ∀ w ∈ xG, w.before args s = true := fun w h => hts w (List.mem_cons_of_mem _ h)
  have hown : s.vm.findClass "EventGraphText$Line" = some m.cls := hown
  have hl : lv_has ls 2 [(0, .ref (ad 16)), (1, .int a1)] := hl
  have hS : va_S xN s.heap s.heap [] := va_S.rf
  unfold m_Line_get at hm
  refine lv_aload_n hx hb d_Line_get_0 rfl (lv_at hl 0 rfl) ?_
  refine va_get (D := (dC, dI)) (ci := 2) (v := .ref (ad 17)) (C := "EventGraphText$Line") (T := T_Line) (N := 2) hx hb hT hin_Line hown hK hP 16 cW_N rfl 0 (by decide) (hT _ wd_93) (fun _ h9 => h9) rfl d_Line_get_1 ?_
  refine lv_iload_n hx hb d_Line_get_4 rfl (lv_at hl 1 rfl) ?_
  obtain ⟨g1, hm⟩ := xg_some hm
  refine va_iald hx hb hK hP 17 0 cW_N_slots rfl g1 d_Line_get_5 ?_
  exact hret hm hS d_Line_get_6
set_option maxHeartbeats 4000000 in
set_option maxRecDepth 100000 in
theorem c_History_siteOf (l : Launch) (dC : Nat → ClassId) (dI : Nat → Nat → Nat) (dT : Nat → ClassId) (ad : Nat → Nat) (a1 : Int32) (u : xS) (out : Int32) (hm : m_History_siteOf a1 u = some out) : Met l y_History_siteOf (Cond.code y_History_siteOf b_History_siteOf 2 (some .int) :: xG) (xrm 0 0) (va_Pc [.ref (ad 1), .int a1] (xR (dC, dI) xCl (xT dT) (cW dT ad u))) (va_Qi (fun r9 (_ : Unit) => r9 = out) (fun _ _ => True) xN) 0 0 xN := by
  refine xm_roi (cc := b_History_siteOf) (maxL := 2) (by decide) rfl (Nat.le_of_ble_eq_true rfl) ?_
  intro p e s m args below meth c Q ls hx hb hml hts hown hK hN hP hl hret
  have hT : ∀ w ∈ xG, w.before args s = true := fun w h => hts w (List.mem_cons_of_mem _ h)
  have hown : s.vm.findClass "EventGraphText$History" = some m.cls := hown
  have hl : lv_has ls 2 [(0, .ref (ad 1)), (1, .int a1)] := hl
  have hS : va_S xN s.heap s.heap [] := va_S.rf
  unfold m_History_siteOf at hm
  refine lv_aload_n hx hb d_History_siteOf_0 rfl (lv_at hl 0 rfl) ?_
  refine va_get (D := (dC, dI)) (ci := 1) (v := .ref (ad 2)) (C := "EventGraphText$History") (T := T_History) (N := 9) hx hb hT hin_History hown hK hP 1 cW_H rfl 0 (by decide) (hT _ wd_25) (fun _ h9 => h9) rfl d_History_siteOf_1 ?_
  refine lv_iload_n hx hb d_History_siteOf_4 rfl (lv_at hl 1 rfl) ?_
  obtain ⟨g1, hm⟩ := xg_some hm
  refine va_iald hx hb hK hP 2 0 cW_H_sites rfl g1 d_History_siteOf_5 ?_
  exact hret hm hS d_History_siteOf_6
set_option maxHeartbeats 4000000 in
set_option maxRecDepth 100000 in
theorem c_Message_writeSites (l : Launch) (dC : Nat → ClassId) (dI : Nat → Nat → Nat) (dT : Nat → ClassId) (ad : Nat → Nat) (hD : ∀ u, va_D (xA ad 50) (cW dT ad u)) (j : Nat) (u : xS) (hj : j < 6) (u1 : xS) (hm : m_Message_writeSites j u = some u1) : Met l y_Message_writeSites (Cond.code y_Message_writeSites b_Message_writeSites 6 none :: xG) (xrm 2 44) (va_Pc [.ref (ad (32 + 3 * j)), .ref (ad 1), .ref (ad 16)] (xR (dC, dI) xCl (xT dT) (cW dT ad u))) (va_Qv (fun (u9 : xS) => u9 = u1) (fun u9 t => va_P (dC, dI) xCl (cW dT ad u9) t.heap) (xA ad 50)) 0 0 (xA ad 50) := by
  refine xm_rwv (Wd := cW dT ad) (cc := b_Message_writeSites) (maxL := 6) (by decide) rfl (Nat.le_of_ble_eq_true rfl) ?_
  intro p e s m args below meth c Q ls hx hb hml hts hown hK hN hP hl hret
  have hT : ∀ w ∈ xG, w.before args s = true := fun w h => hts w (List.mem_cons_of_mem _ h)
  have hown : s.vm.findClass "EventGraphText$Message" = some m.cls := hown
  have hl : lv_has ls 6 [(0, .ref (ad (32 + 3 * j))), (1, .ref (ad 1)), (2, .ref (ad 16))] := hl
  have hS : va_S (xA ad 50) s.heap s.heap [] := va_S.rf
  have hb49 : ∀ (k5 : Nat → Int32 → Int32 → xS → Option xS) (hk5 : ∀ (b3 : Int32) (b4 : Int32) (u : xS) (H : Heap) (locs : List Loc) (ls : Array Slot), lv_has ls 6 [(0, .ref (ad (32 + 3 * j))), (1, .ref (ad 1)), (2, .ref (ad 16)), (3, .int b3), (4, .int b4)] → va_P (dC, dI) xCl (cW dT ad u) H → va_S (xA ad 50) s.heap H locs → k5 j b3 b4 u = some u1 → W p l e (xrm 2 44) s m args below meth c H locs 0 0 Q (F0 m 5 ls [])), ∀ (b3 : Int32) (b4 : Int32) (b5 : Int32) (u : xS) (H : Heap) (locs : List Loc) (ls : Array Slot), lv_has ls 6 [(0, .ref (ad (32 + 3 * j))), (1, .ref (ad 1)), (2, .ref (ad 16)), (3, .int b3), (4, .int b4), (5, .int b5)] → va_P (dC, dI) xCl (cW dT ad u) H → va_S (xA ad 50) s.heap H locs → m_Message_writeSites_b49 k5 j b3 b4 b5 u = some u1 → W p l e (xrm 2 44) s m args below meth c H locs 0 0 Q (F0 m 49 ls []) := by
    intro k5 hk5 b3 b4 b5 u H locs ls hl hP hS hm
    unfold m_Message_writeSites_b49 at hm
    refine lv_aload_n hx hb d_Message_writeSites_49 rfl (lv_at hl 0 rfl) ?_
    refine va_get (D := (dC, dI)) (ci := 4) (v := .ref (ad (33 + 3 * j))) (C := "EventGraphText$Message") (T := T_Message) (N := 5) hx hb hT hin_Message hown hK hP (32 + 3 * j) (cW_M hj) rfl 0 (by decide) (hT _ wd_163) (fun _ h9 => h9) rfl d_Message_writeSites_50 ?_
    refine lv_iload hx hb d_Message_writeSites_53 (lv_at hl 5 rfl) ?_
    obtain ⟨u55, h55, hm⟩ := xb1_some hm
    refine xc_vw (Wd := cW dT ad) (va_runV (C := "EventGraphText$OctetRow") (As := [.int b5]) (rest := []) ⟨hx, hb, hml, hown, hts⟩ (c_OctetRow_put l dC dI dT ad hD j b5 u hj u55 h55) (cwV 1 hts (xgV wd_343 wd_344 wd_345 wd_8 wd_346) rfl rfl rfl pd_OctetRow_put ⟨Nat.le_of_ble_eq_true rfl, Nat.le_of_ble_eq_true rfl⟩) (xpreV (C := "EventGraphText$OctetRow") (T := T_OctetRow) (N := 2) hP hK hN rfl (cW_O hj)) rfl rfl hl.1 rfl (lv_room (Nat.le_of_ble_eq_true rfl)) d_Message_writeSites_55 ⟨Nat.le_of_ble_eq_true rfl, Nat.le_of_ble_eq_true rfl⟩) hS (fun _ h => h) (fun H locs hP hS => ?_)
    refine lv_aload_n hx hb d_Message_writeSites_58 rfl (lv_at hl 0 rfl) ?_
    refine va_get (D := (dC, dI)) (ci := 4) (v := .ref (ad (33 + 3 * j))) (C := "EventGraphText$Message") (T := T_Message) (N := 5) hx hb hT hin_Message hown hK hP (32 + 3 * j) (cW_M hj) rfl 0 (by decide) (hT _ wd_163) (fun _ h9 => h9) rfl d_Message_writeSites_59 ?_
    refine lv_aload_n hx hb d_Message_writeSites_62 rfl (lv_at hl 1 rfl) ?_
    refine lv_aload_n hx hb d_Message_writeSites_63 rfl (lv_at hl 2 rfl) ?_
    refine lv_iload_n hx hb d_Message_writeSites_64 rfl (lv_at hl 3 rfl) ?_
    obtain ⟨r65, h65, hm⟩ := xb1_some hm
    refine xc_i (va_runV (C := "EventGraphText$Line") (As := [.int b3]) (rest := [.ref (ad 1), .ref (ad (33 + 3 * j))]) ⟨hx, hb, hml, hown, hts⟩ (c_Line_get l dC dI dT ad b3 u55 r65 h65) (cwV 1 hts (xgV wd_355 wd_356 wd_357 wd_4 wd_358) rfl rfl rfl pd_Line_get ⟨Nat.le_of_ble_eq_true rfl, Nat.le_of_ble_eq_true rfl⟩) (xpreV (C := "EventGraphText$Line") (T := T_Line) (N := 2) hP hK hN rfl cW_N) rfl rfl hl.1 rfl (lv_room (Nat.le_of_ble_eq_true rfl)) d_Message_writeSites_65 ⟨Nat.le_of_ble_eq_true rfl, Nat.le_of_ble_eq_true rfl⟩) hP hS (fun H locs hP hS => ?_)
    obtain ⟨r68, h68, hm⟩ := xb1_some hm
    refine xc_i (va_runV (C := "EventGraphText$History") (As := [.int r65]) (rest := [.ref (ad (33 + 3 * j))]) ⟨hx, hb, hml, hown, hts⟩ (c_History_numberOf l dC dI dT ad r65 u55 r68 h68) (cwV 1 hts (xgV wd_363 wd_276 wd_277 wd_2 wd_278) rfl rfl rfl pd_History_numberOf ⟨Nat.le_of_ble_eq_true rfl, Nat.le_of_ble_eq_true rfl⟩) (xpreV (C := "EventGraphText$History") (T := T_History) (N := 9) hP hK hN rfl cW_H) rfl rfl hl.1 rfl (lv_room (Nat.le_of_ble_eq_true rfl)) d_Message_writeSites_68 ⟨Nat.le_of_ble_eq_true rfl, Nat.le_of_ble_eq_true rfl⟩) hP hS (fun H locs hP hS => ?_)
    obtain ⟨u71, h71, hm⟩ := xb1_some hm
    refine xc_vw (Wd := cW dT ad) (va_runV (C := "EventGraphText$OctetRow") (As := [.int r68]) (rest := []) ⟨hx, hb, hml, hown, hts⟩ (c_OctetRow_put l dC dI dT ad hD j r68 u55 hj u71 h71) (cwV 1 hts (xgV wd_343 wd_344 wd_345 wd_8 wd_346) rfl rfl rfl pd_OctetRow_put ⟨Nat.le_of_ble_eq_true rfl, Nat.le_of_ble_eq_true rfl⟩) (xpreV (C := "EventGraphText$OctetRow") (T := T_OctetRow) (N := 2) hP hK hN rfl (cW_O hj)) rfl rfl hl.1 rfl (lv_room (Nat.le_of_ble_eq_true rfl)) d_Message_writeSites_71 ⟨Nat.le_of_ble_eq_true rfl, Nat.le_of_ble_eq_true rfl⟩) hS (fun _ h => h) (fun H locs hP hS => ?_)
    refine lv_aload_n hx hb d_Message_writeSites_74 rfl (lv_at hl 0 rfl) ?_
    refine va_get (D := (dC, dI)) (ci := 4) (v := .ref (ad (33 + 3 * j))) (C := "EventGraphText$Message") (T := T_Message) (N := 5) hx hb hT hin_Message hown hK hP (32 + 3 * j) (cW_M hj) rfl 0 (by decide) (hT _ wd_163) (fun _ h9 => h9) rfl d_Message_writeSites_75 ?_
    refine lv_iload hx hb d_Message_writeSites_78 (lv_at hl 4 rfl) ?_
    refine lv_iload_n hx hb d_Message_writeSites_80 rfl (lv_at hl 3 rfl) ?_
    refine lv_isub hx hb d_Message_writeSites_81 ?_
    obtain ⟨u82, h82, hm⟩ := xb1_some hm
    refine xc_vw (Wd := cW dT ad) (va_runV (C := "EventGraphText$OctetRow") (As := [.int (b4 - b3)]) (rest := []) ⟨hx, hb, hml, hown, hts⟩ (c_OctetRow_put l dC dI dT ad hD j (b4 - b3) u71 hj u82 h82) (cwV 1 hts (xgV wd_343 wd_344 wd_345 wd_8 wd_346) rfl rfl rfl pd_OctetRow_put ⟨Nat.le_of_ble_eq_true rfl, Nat.le_of_ble_eq_true rfl⟩) (xpreV (C := "EventGraphText$OctetRow") (T := T_OctetRow) (N := 2) hP hK hN rfl (cW_O hj)) rfl rfl hl.1 rfl (lv_room (Nat.le_of_ble_eq_true rfl)) d_Message_writeSites_82 ⟨Nat.le_of_ble_eq_true rfl, Nat.le_of_ble_eq_true rfl⟩) hS (fun _ h => h) (fun H locs hP hS => ?_)
    refine lv_iload hx hb d_Message_writeSites_85 (lv_at hl 4 rfl) ?_
    refine lv_istore_n (lv' := [(3, .int b4), (0, .ref (ad (32 + 3 * j))), (1, .ref (ad 1)), (2, .ref (ad 16)), (4, .int b4), (5, .int b5)]) hx hb d_Message_writeSites_87 rfl hl (Nat.le_of_ble_eq_true rfl) rfl (fun ls hl => ?_)
    refine lv_iinc (k := 4) (v := (b4 + (1 : Int32))) (lv' := [(4, .int (b4 + (1 : Int32))), (3, .int b4), (0, .ref (ad (32 + 3 * j))), (1, .ref (ad 1)), (2, .ref (ad 16)), (5, .int b5)]) hx hb d_Message_writeSites_88 hl rfl rfl (Nat.le_of_ble_eq_true rfl) rfl (fun ls hl => ?_)
    refine lv_goto (tgt := 5) hx hb d_Message_writeSites_91 rfl ?_
    exact hk5 b4 (b4 + (1 : Int32)) u82 _ _ _ (lv_sub hl [2, 3, 4, 1, 0] rfl) hP hS hm
  have hs5 : ∀ (k5 : Nat → Int32 → Int32 → xS → Option xS) (hk5 : ∀ (b3 : Int32) (b4 : Int32) (u : xS) (H : Heap) (locs : List Loc) (ls : Array Slot), lv_has ls 6 [(0, .ref (ad (32 + 3 * j))), (1, .ref (ad 1)), (2, .ref (ad 16)), (3, .int b3), (4, .int b4)] → va_P (dC, dI) xCl (cW dT ad u) H → va_S (xA ad 50) s.heap H locs → k5 j b3 b4 u = some u1 → W p l e (xrm 2 44) s m args below meth c H locs 0 0 Q (F0 m 5 ls [])), ∀ (b3 : Int32) (b4 : Int32) (u : xS) (H : Heap) (locs : List Loc) (ls : Array Slot), lv_has ls 6 [(0, .ref (ad (32 + 3 * j))), (1, .ref (ad 1)), (2, .ref (ad 16)), (3, .int b3), (4, .int b4)] → va_P (dC, dI) xCl (cW dT ad u) H → va_S (xA ad 50) s.heap H locs → m_Message_writeSites_s5 k5 j b3 b4 u = some u1 → W p l e (xrm 2 44) s m args below meth c H locs 0 0 Q (F0 m 5 ls []) := by
    intro k5 hk5 b3 b4 u H locs ls hl hP hS hm
    unfold m_Message_writeSites_s5 at hm
    refine lv_iload hx hb d_Message_writeSites_5 (lv_at hl 4 rfl) ?_
    refine lv_aload_n hx hb d_Message_writeSites_7 rfl (lv_at hl 2 rfl) ?_
    obtain ⟨r8, h8, hm⟩ := xb1_some hm
    refine xc_i (va_runV (C := "EventGraphText$Line") (As := []) (rest := [.int b4]) ⟨hx, hb, hml, hown, hts⟩ (c_Line_size l dC dI dT ad u r8 h8) (cwV 0 hts (xgV wd_339 wd_340 wd_341 wd_4 wd_342) rfl rfl rfl pd_Line_size ⟨Nat.le_of_ble_eq_true rfl, Nat.le_of_ble_eq_true rfl⟩) (xpreV (C := "EventGraphText$Line") (T := T_Line) (N := 2) hP hK hN rfl cW_N) rfl rfl hl.1 rfl (lv_room (Nat.le_of_ble_eq_true rfl)) d_Message_writeSites_8 ⟨Nat.le_of_ble_eq_true rfl, Nat.le_of_ble_eq_true rfl⟩) hP hS (fun H locs hP hS => ?_)
    refine lv_icmp_gt (tgt := 94) hx hb d_Message_writeSites_11 rfl (fun h => ?_) (fun h => ?_)
    · replace hm := xi_pos h hm
      exact hret hm hP hS d_Message_writeSites_94
    · replace hm := xi_neg h hm
      refine lv_aload_n hx hb d_Message_writeSites_14 rfl (lv_at hl 1 rfl) ?_
      refine lv_aload_n hx hb d_Message_writeSites_15 rfl (lv_at hl 2 rfl) ?_
      refine lv_iload_n hx hb d_Message_writeSites_16 rfl (lv_at hl 3 rfl) ?_
      obtain ⟨r17, h17, hm⟩ := xb1_some hm
      refine xc_i (va_runV (C := "EventGraphText$Line") (As := [.int b3]) (rest := [.ref (ad 1)]) ⟨hx, hb, hml, hown, hts⟩ (c_Line_get l dC dI dT ad b3 u r17 h17) (cwV 1 hts (xgV wd_355 wd_356 wd_357 wd_4 wd_358) rfl rfl rfl pd_Line_get ⟨Nat.le_of_ble_eq_true rfl, Nat.le_of_ble_eq_true rfl⟩) (xpreV (C := "EventGraphText$Line") (T := T_Line) (N := 2) hP hK hN rfl cW_N) rfl rfl hl.1 rfl (lv_room (Nat.le_of_ble_eq_true rfl)) d_Message_writeSites_17 ⟨Nat.le_of_ble_eq_true rfl, Nat.le_of_ble_eq_true rfl⟩) hP hS (fun H locs hP hS => ?_)
      obtain ⟨r20, h20, hm⟩ := xb1_some hm
      refine xc_i (va_runV (C := "EventGraphText$History") (As := [.int r17]) (rest := []) ⟨hx, hb, hml, hown, hts⟩ (c_History_siteOf l dC dI dT ad r17 u r20 h20) (cwV 1 hts (xgV wd_359 wd_360 wd_361 wd_2 wd_362) rfl rfl rfl pd_History_siteOf ⟨Nat.le_of_ble_eq_true rfl, Nat.le_of_ble_eq_true rfl⟩) (xpreV (C := "EventGraphText$History") (T := T_History) (N := 9) hP hK hN rfl cW_H) rfl rfl hl.1 rfl (lv_room (Nat.le_of_ble_eq_true rfl)) d_Message_writeSites_20 ⟨Nat.le_of_ble_eq_true rfl, Nat.le_of_ble_eq_true rfl⟩) hP hS (fun H locs hP hS => ?_)
      refine lv_istore (lv' := [(5, .int r20), (0, .ref (ad (32 + 3 * j))), (1, .ref (ad 1)), (2, .ref (ad 16)), (3, .int b3), (4, .int b4)]) hx hb d_Message_writeSites_23 hl (Nat.le_of_ble_eq_true rfl) rfl (fun ls hl => ?_)
      refine lv_iload hx hb d_Message_writeSites_25 (lv_at hl 5 rfl) ?_
      refine lv_aload_n hx hb d_Message_writeSites_27 rfl (lv_at hl 3 rfl) ?_
      obtain ⟨r28, h28, hm⟩ := xb1_some hm
      refine xc_i (va_runV (C := "EventGraphText$Line") (As := []) (rest := [.int b4]) ⟨hx, hb, hml, hown, hts⟩ (c_Line_size l dC dI dT ad u r28 h28) (cwV 0 hts (xgV wd_339 wd_340 wd_341 wd_4 wd_342) rfl rfl rfl pd_Line_size ⟨Nat.le_of_ble_eq_true rfl, Nat.le_of_ble_eq_true rfl⟩) (xpreV (C := "EventGraphText$Line") (T := T_Line) (N := 2) hP hK hN rfl cW_N) rfl rfl hl.1 rfl (lv_room (Nat.le_of_ble_eq_true rfl)) d_Message_writeSites_28 ⟨Nat.le_of_ble_eq_true rfl, Nat.le_of_ble_eq_true rfl⟩) hP hS (fun H locs hP hS => ?_)
      refine lv_icmp_eq (tgt := 49) hx hb d_Message_writeSites_31 rfl (fun h => ?_) (fun h => ?_)
      · replace hm := xi_pos h hm
        exact hb49 k5 hk5 b3 b4 r20 u _ _ _ (lv_sub hl [1, 2, 3, 4, 5, 0] rfl) hP hS hm
      · replace hm := xi_neg h hm
        refine lv_aload_n hx hb d_Message_writeSites_34 rfl (lv_at hl 2 rfl) ?_
        refine lv_aload_n hx hb d_Message_writeSites_35 rfl (lv_at hl 3 rfl) ?_
        refine lv_iload hx hb d_Message_writeSites_36 (lv_at hl 5 rfl) ?_
        obtain ⟨r38, h38, hm⟩ := xb1_some hm
        refine xc_i (va_runV (C := "EventGraphText$Line") (As := [.int b4]) (rest := [.ref (ad 1)]) ⟨hx, hb, hml, hown, hts⟩ (c_Line_get l dC dI dT ad b4 u r38 h38) (cwV 1 hts (xgV wd_355 wd_356 wd_357 wd_4 wd_358) rfl rfl rfl pd_Line_get ⟨Nat.le_of_ble_eq_true rfl, Nat.le_of_ble_eq_true rfl⟩) (xpreV (C := "EventGraphText$Line") (T := T_Line) (N := 2) hP hK hN rfl cW_N) rfl rfl hl.1 rfl (lv_room (Nat.le_of_ble_eq_true rfl)) d_Message_writeSites_38 ⟨Nat.le_of_ble_eq_true rfl, Nat.le_of_ble_eq_true rfl⟩) hP hS (fun H locs hP hS => ?_)
        obtain ⟨r41, h41, hm⟩ := xb1_some hm
        refine xc_i (va_runV (C := "EventGraphText$History") (As := [.int r38]) (rest := []) ⟨hx, hb, hml, hown, hts⟩ (c_History_siteOf l dC dI dT ad r38 u r41 h41) (cwV 1 hts (xgV wd_359 wd_360 wd_361 wd_2 wd_362) rfl rfl rfl pd_History_siteOf ⟨Nat.le_of_ble_eq_true rfl, Nat.le_of_ble_eq_true rfl⟩) (xpreV (C := "EventGraphText$History") (T := T_History) (N := 9) hP hK hN rfl cW_H) rfl rfl hl.1 rfl (lv_room (Nat.le_of_ble_eq_true rfl)) d_Message_writeSites_41 ⟨Nat.le_of_ble_eq_true rfl, Nat.le_of_ble_eq_true rfl⟩) hP hS (fun H locs hP hS => ?_)
        refine lv_iload hx hb d_Message_writeSites_44 (lv_at hl 0 rfl) ?_
        refine lv_icmp_eq (tgt := 88) hx hb d_Message_writeSites_46 rfl (fun h => ?_) (fun h => ?_)
        · replace hm := xi_pos h hm
          refine lv_iinc (k := 5) (v := (b4 + (1 : Int32))) (lv' := [(4, .int (b4 + (1 : Int32))), (5, .int r20), (0, .ref (ad (32 + 3 * j))), (1, .ref (ad 1)), (2, .ref (ad 16)), (3, .int b3)]) hx hb d_Message_writeSites_88 hl rfl rfl (Nat.le_of_ble_eq_true rfl) rfl (fun ls hl => ?_)
          refine lv_goto (tgt := 5) hx hb d_Message_writeSites_91 rfl ?_
          exact hk5 b3 (b4 + (1 : Int32)) u _ _ _ (lv_sub hl [2, 3, 4, 5, 0] rfl) hP hS hm
        · replace hm := xi_neg h hm
          exact hb49 k5 hk5 b3 b4 r20 u _ _ _ (lv_sub hl [1, 2, 3, 4, 5, 0] rfl) hP hS hm
  have hl5 : ∀ (fu : Nat), ∀ (b3 : Int32) (b4 : Int32) (u : xS) (H : Heap) (locs : List Loc) (ls : Array Slot), lv_has ls 6 [(0, .ref (ad (32 + 3 * j))), (1, .ref (ad 1)), (2, .ref (ad 16)), (3, .int b3), (4, .int b4)] → va_P (dC, dI) xCl (cW dT ad u) H → va_S (xA ad 50) s.heap H locs → m_Message_writeSites_l5 fu j b3 b4 u = some u1 → W p l e (xrm 2 44) s m args below meth c H locs 0 0 Q (F0 m 5 ls []) := by
    intro fu
    induction fu with
    | zero => intro b3 b4 u H locs ls hl hP hS hm; exact absurd hm (fun z => by cases z)
    | succ n ih => intro b3 b4 u H locs ls hl hP hS hm; exact hs5 (m_Message_writeSites_l5 n) ih b3 b4 u H locs ls hl hP hS hm
  unfold m_Message_writeSites at hm
  refine lv_iconst (v := (0 : Int32)) hx hb d_Message_writeSites_0 (by decide) ?_
  refine lv_istore_n (lv' := [(3, .int (0 : Int32)), (0, .ref (ad (32 + 3 * j))), (1, .ref (ad 1)), (2, .ref (ad 16))]) hx hb d_Message_writeSites_1 rfl hl (Nat.le_of_ble_eq_true rfl) rfl (fun ls hl => ?_)
  refine lv_iconst (v := (1 : Int32)) hx hb d_Message_writeSites_2 (by decide) ?_
  refine lv_istore (lv' := [(4, .int (1 : Int32)), (3, .int (0 : Int32)), (0, .ref (ad (32 + 3 * j))), (1, .ref (ad 1)), (2, .ref (ad 16))]) hx hb d_Message_writeSites_3 hl (Nat.le_of_ble_eq_true rfl) rfl (fun ls hl => ?_)
  exact hl5 xFU (0 : Int32) (1 : Int32) u _ _ _ (lv_sub hl [2, 3, 4, 1, 0] rfl) hP hS hm
set_option maxHeartbeats 4000000 in
set_option maxRecDepth 100000 in
theorem c_History_isInsert (l : Launch) (dC : Nat → ClassId) (dI : Nat → Nat → Nat) (dT : Nat → ClassId) (ad : Nat → Nat) (a1 : Int32) (u : xS) (out : Int32) (hm : m_History_isInsert a1 u = some out) : Met l y_History_isInsert (Cond.code y_History_isInsert b_History_isInsert 2 (some .boolean) :: xG) (xrm 0 0) (va_Pc [.ref (ad 1), .int a1] (xR (dC, dI) xCl (xT dT) (cW dT ad u))) (va_Qi (fun r9 (_ : Unit) => r9 = out) (fun _ _ => True) xN) 0 0 xN := by
  refine xm_roz (cc := b_History_isInsert) (maxL := 2) (by decide) rfl (Nat.le_of_ble_eq_true rfl) ?_
  intro p e s m args below meth c Q ls hx hb hml hts hown hK hN hP hl hret
  have hT : ∀ w ∈ xG, w.before args s = true := fun w h => hts w (List.mem_cons_of_mem _ h)
  have hown : s.vm.findClass "EventGraphText$History" = some m.cls := hown
  have hl : lv_has ls 2 [(0, .ref (ad 1)), (1, .int a1)] := hl
  have hS : va_S xN s.heap s.heap [] := va_S.rf
  unfold m_History_isInsert at hm
  refine lv_aload_n hx hb d_History_isInsert_0 rfl (lv_at hl 0 rfl) ?_
  refine va_get (D := (dC, dI)) (ci := 1) (v := .ref (ad 5)) (C := "EventGraphText$History") (T := T_History) (N := 9) hx hb hT hin_History hown hK hP 1 cW_H rfl 3 (by decide) (hT _ wd_28) (fun _ h9 => h9) rfl d_History_isInsert_1 ?_
  refine lv_iload_n hx hb d_History_isInsert_4 rfl (lv_at hl 1 rfl) ?_
  obtain ⟨g1, hm⟩ := xg_some hm
  refine va_iald hx hb hK hP 5 0 cW_H_characters rfl g1 d_History_isInsert_5 ?_
  refine lv_iconst (v := (-1 : Int32)) hx hb d_History_isInsert_6 (by decide) ?_
  refine lv_icmp_eq (tgt := 14) hx hb d_History_isInsert_7 rfl (fun h => ?_) (fun h => ?_)
  · replace hm := xi_pos h hm
    refine lv_iconst (v := (0 : Int32)) hx hb d_History_isInsert_14 (by decide) ?_
    exact hret hm rfl hS d_History_isInsert_15
  · replace hm := xi_neg h hm
    refine lv_iconst (v := (1 : Int32)) hx hb d_History_isInsert_10 (by decide) ?_
    refine lv_goto (tgt := 15) hx hb d_History_isInsert_11 rfl ?_
    exact hret hm rfl hS d_History_isInsert_15
