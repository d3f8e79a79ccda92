set_option maxHeartbeats 4000000 in
set_option maxRecDepth 100000 in
theorem c_Model_intoRow (l : Launch) (dC : Nat → ClassId) (dI : Nat → Nat → Nat) (dT : Nat → ClassId) (ad : Nat → Nat) (hD : ∀ u, va_D (xA ad 23) (mW dT ad u)) (a1 : Int32) (u : xS) (u1 : xS) (hm : m_Model_intoRow a1 u = some u1) : Met l y_Model_intoRow (Cond.code y_Model_intoRow b_Model_intoRow 4 none :: xG) (xrm 2 49) (va_Pc [.ref (ad 0), .int a1] (xR (dC, dI) xCl (xT dT) (mW dT ad u))) (va_Qv (fun (u9 : xS) => u9 = u1) (fun u9 t => va_P (dC, dI) xCl (mW dT ad u9) t.heap) (xA ad 23)) 0 0 (xA ad 23) := by
  refine xm_rwv (Wd := mW dT ad) (cc := b_Model_intoRow) (maxL := 4) (by decide) rfl (Nat.le_of_ble_eq_true rfl) ?_
  intro p e s m args below meth c Q ls hx hb hml hts hown hK hN hP hl hret
  have hT : ∀ w ∈ xG, w.before args s = true := fun w h => hts w (List.mem_cons_of_mem _ h)
  have hown : s.vm.findClass "EventGraphTextModel" = some m.cls := hown
  have hl : lv_has ls 4 [(0, .ref (ad 0)), (1, .int a1)] := hl
  have hS : va_S (xA ad 23) s.heap s.heap [] := va_S.rf
  have hs35 : ∀ (k35 : Int32 → Int32 → Int32 → xS → Option xS) (hk35 : ∀ (b1 : Int32) (b2 : Int32) (b3 : Int32) (u : xS) (H : Heap) (locs : List Loc) (ls : Array Slot), lv_has ls 4 [(0, .ref (ad 0)), (1, .int b1), (2, .int b2), (3, .int b3)] → va_P (dC, dI) xCl (mW dT ad u) H → va_S (xA ad 23) s.heap H locs → k35 b1 b2 b3 u = some u1 → W p l e (xrm 2 49) s m args below meth c H locs 0 0 Q (F0 m 35 ls [])), ∀ (b1 : Int32) (b2 : Int32) (b3 : Int32) (u : xS) (H : Heap) (locs : List Loc) (ls : Array Slot), lv_has ls 4 [(0, .ref (ad 0)), (1, .int b1), (2, .int b2), (3, .int b3)] → va_P (dC, dI) xCl (mW dT ad u) H → va_S (xA ad 23) s.heap H locs → m_Model_intoRow_s35 k35 b1 b2 b3 u = some u1 → W p l e (xrm 2 49) s m args below meth c H locs 0 0 Q (F0 m 35 ls []) := by
    intro k35 hk35 b1 b2 b3 u H locs ls hl hP hS hm
    unfold m_Model_intoRow_s35 at hm
    refine lv_iload_n hx hb d_Model_intoRow_35 rfl (lv_at hl 3 rfl) ?_
    refine lv_iload_n hx hb d_Model_intoRow_36 rfl (lv_at hl 2 rfl) ?_
    refine lv_icmp_le (tgt := 60) hx hb d_Model_intoRow_37 rfl (fun h => ?_) (fun h => ?_)
    · replace hm := xi_pos h hm
      refine lv_aload_n hx hb d_Model_intoRow_60 rfl (lv_at hl 0 rfl) ?_
      refine va_get (D := (dC, dI)) (ci := 8) (v := .ref (ad 11)) (C := "EventGraphTextModel") (T := T_Model) (N := 26) hx hb hT hin_Model hown hK hP 0 mW_X rfl 11 (by decide) (hT _ wd_569) (fun _ h9 => h9) rfl d_Model_intoRow_61 ?_
      refine lv_iload_n hx hb d_Model_intoRow_64 rfl (lv_at hl 2 rfl) ?_
      refine lv_iload_n hx hb d_Model_intoRow_65 rfl (lv_at hl 1 rfl) ?_
      obtain ⟨g1, hm⟩ := xg_some hm
      obtain ⟨w66, hw66, hm⟩ := xlt_some hm
      refine va_iast hx hb hK hP (hD _) hS 11 0 mW_X_row rfl g1 d_Model_intoRow_66 (fun H locs hP _ hS => ?_)
      replace hP : va_P (dC, dI) xCl (mW dT ad w66) H := xp_conv ((mW_s_X_row).trans (congrArg (mW dT ad) hw66.symm)) hP
      refine lv_aload_n hx hb d_Model_intoRow_67 rfl (lv_at hl 0 rfl) ?_
      refine lv_dup hx hb d_Model_intoRow_68 rfl ?_
      refine va_get (D := (dC, dI)) (ci := 8) (v := .int (xs_i w66 1)) (C := "EventGraphTextModel") (T := T_Model) (N := 26) hx hb hT hin_Model hown hK hP 0 mW_X rfl 12 (by decide) (hT _ wd_570) (fun _ h9 => h9) rfl d_Model_intoRow_69 ?_
      refine lv_iconst (v := (1 : Int32)) hx hb d_Model_intoRow_72 (by decide) ?_
      refine lv_iadd hx hb d_Model_intoRow_73 ?_
      obtain ⟨w74, hw74, hm⟩ := xlt_some hm
      refine va_put (D := (dC, dI)) (ci := 8) (v := .int ((xs_i w66 1) + (1 : Int32))) (ty := .int) (C := "EventGraphTextModel") (T := T_Model) (N := 26) hx hb hT hin_Model ty_Model tyok_Model nm_Model hown hK hP (hD _) hS 0 mW_X rfl 12 (by decide) (hT _ wd_570) (fun _ h9 => h9) rfl (by decide +kernel) rfl rfl (Nat.le_of_ble_eq_true rfl) d_Model_intoRow_74 (fun H locs hP _ hS => ?_)
      replace hP : va_P (dC, dI) xCl (mW dT ad w74) H := xp_conv ((mW_f_X_chars).trans (congrArg (mW dT ad) hw74.symm)) hP
      exact hret hm hP hS d_Model_intoRow_77
    · replace hm := xi_neg h hm
      refine lv_aload_n hx hb d_Model_intoRow_40 rfl (lv_at hl 0 rfl) ?_
      refine va_get (D := (dC, dI)) (ci := 8) (v := .ref (ad 11)) (C := "EventGraphTextModel") (T := T_Model) (N := 26) hx hb hT hin_Model hown hK hP 0 mW_X rfl 11 (by decide) (hT _ wd_569) (fun _ h9 => h9) rfl d_Model_intoRow_41 ?_
      refine lv_iload_n hx hb d_Model_intoRow_44 rfl (lv_at hl 3 rfl) ?_
      refine lv_aload_n hx hb d_Model_intoRow_45 rfl (lv_at hl 0 rfl) ?_
      refine va_get (D := (dC, dI)) (ci := 8) (v := .ref (ad 11)) (C := "EventGraphTextModel") (T := T_Model) (N := 26) hx hb hT hin_Model hown hK hP 0 mW_X rfl 11 (by decide) (hT _ wd_569) (fun _ h9 => h9) rfl d_Model_intoRow_46 ?_
      refine lv_iload_n hx hb d_Model_intoRow_49 rfl (lv_at hl 3 rfl) ?_
      refine lv_iconst (v := (1 : Int32)) hx hb d_Model_intoRow_50 (by decide) ?_
      refine lv_isub hx hb d_Model_intoRow_51 ?_
      obtain ⟨g2, hm⟩ := xg_some hm
      refine va_iald hx hb hK hP 11 0 mW_X_row rfl g2 d_Model_intoRow_52 ?_
      obtain ⟨g3, hm⟩ := xg_some hm
      obtain ⟨w53, hw53, hm⟩ := xlt_some hm
      refine va_iast hx hb hK hP (hD _) hS 11 0 mW_X_row rfl g3 d_Model_intoRow_53 (fun H locs hP _ hS => ?_)
      replace hP : va_P (dC, dI) xCl (mW dT ad w53) H := xp_conv ((mW_s_X_row).trans (congrArg (mW dT ad) hw53.symm)) hP
      refine lv_iinc (k := 3) (v := (b3 + (-1 : Int32))) (lv' := [(3, .int (b3 + (-1 : Int32))), (0, .ref (ad 0)), (1, .int b1), (2, .int b2)]) hx hb d_Model_intoRow_54 hl rfl rfl (Nat.le_of_ble_eq_true rfl) rfl (fun ls hl => ?_)
      refine lv_goto (tgt := 35) hx hb d_Model_intoRow_57 rfl ?_
      exact hk35 b1 b2 (b3 + (-1 : Int32)) w53 _ _ _ (lv_sub hl [1, 2, 3, 0] rfl) hP hS hm
  have hl35 : ∀ (fu : Nat), ∀ (b1 : Int32) (b2 : Int32) (b3 : Int32) (u : xS) (H : Heap) (locs : List Loc) (ls : Array Slot), lv_has ls 4 [(0, .ref (ad 0)), (1, .int b1), (2, .int b2), (3, .int b3)] → va_P (dC, dI) xCl (mW dT ad u) H → va_S (xA ad 23) s.heap H locs → m_Model_intoRow_l35 fu b1 b2 b3 u = some u1 → W p l e (xrm 2 49) s m args below meth c H locs 0 0 Q (F0 m 35 ls []) := by
    intro fu
    induction fu with
    | zero => intro b1 b2 b3 u H locs ls hl hP hS hm; exact absurd hm (fun z => by cases z)
    | succ n ih => intro b1 b2 b3 u H locs ls hl hP hS hm; exact hs35 (m_Model_intoRow_l35 n) ih b1 b2 b3 u H locs ls hl hP hS hm
  have hs2 : ∀ (k2 : Int32 → Int32 → xS → Option xS) (hk2 : ∀ (b1 : Int32) (b2 : Int32) (u : xS) (H : Heap) (locs : List Loc) (ls : Array Slot), lv_has ls 4 [(0, .ref (ad 0)), (1, .int b1), (2, .int b2)] → va_P (dC, dI) xCl (mW dT ad u) H → va_S (xA ad 23) s.heap H locs → k2 b1 b2 u = some u1 → W p l e (xrm 2 49) s m args below meth c H locs 0 0 Q (F0 m 2 ls [])), ∀ (b1 : Int32) (b2 : Int32) (u : xS) (H : Heap) (locs : List Loc) (ls : Array Slot), lv_has ls 4 [(0, .ref (ad 0)), (1, .int b1), (2, .int b2)] → va_P (dC, dI) xCl (mW dT ad u) H → va_S (xA ad 23) s.heap H locs → m_Model_intoRow_s2 k2 b1 b2 u = some u1 → W p l e (xrm 2 49) s m args below meth c H locs 0 0 Q (F0 m 2 ls []) := by
    intro k2 hk2 b1 b2 u H locs ls hl hP hS hm
    unfold m_Model_intoRow_s2 at hm
    refine lv_iload_n hx hb d_Model_intoRow_2 rfl (lv_at hl 2 rfl) ?_
    refine lv_aload_n hx hb d_Model_intoRow_3 rfl (lv_at hl 0 rfl) ?_
    refine va_get (D := (dC, dI)) (ci := 8) (v := .int (xs_i u 1)) (C := "EventGraphTextModel") (T := T_Model) (N := 26) hx hb hT hin_Model hown hK hP 0 mW_X rfl 12 (by decide) (hT _ wd_570) (fun _ h9 => h9) rfl d_Model_intoRow_4 ?_
    refine lv_icmp_ge (tgt := 30) hx hb d_Model_intoRow_7 rfl (fun h => ?_) (fun h => ?_)
    · replace hm := xi_pos h hm
      refine lv_aload_n hx hb d_Model_intoRow_30 rfl (lv_at hl 0 rfl) ?_
      refine va_get (D := (dC, dI)) (ci := 8) (v := .int (xs_i u 1)) (C := "EventGraphTextModel") (T := T_Model) (N := 26) hx hb hT hin_Model hown hK hP 0 mW_X rfl 12 (by decide) (hT _ wd_570) (fun _ h9 => h9) rfl d_Model_intoRow_31 ?_
      refine lv_istore_n (lv' := [(3, .int (xs_i u 1)), (0, .ref (ad 0)), (1, .int b1), (2, .int b2)]) hx hb d_Model_intoRow_34 rfl hl (Nat.le_of_ble_eq_true rfl) rfl (fun ls hl => ?_)
      exact hl35 xFU b1 b2 (xs_i u 1) u _ _ _ (lv_sub hl [1, 2, 3, 0] rfl) hP hS hm
    · replace hm := xi_neg h hm
      refine lv_aload_n hx hb d_Model_intoRow_10 rfl (lv_at hl 0 rfl) ?_
      refine lv_aload_n hx hb d_Model_intoRow_11 rfl (lv_at hl 0 rfl) ?_
      refine va_get (D := (dC, dI)) (ci := 8) (v := .ref (ad 11)) (C := "EventGraphTextModel") (T := T_Model) (N := 26) hx hb hT hin_Model hown hK hP 0 mW_X rfl 11 (by decide) (hT _ wd_569) (fun _ h9 => h9) rfl d_Model_intoRow_12 ?_
      refine lv_iload_n hx hb d_Model_intoRow_15 rfl (lv_at hl 2 rfl) ?_
      obtain ⟨g4, hm⟩ := xg_some hm
      refine va_iald hx hb hK hP 11 0 mW_X_row rfl g4 d_Model_intoRow_16 ?_
      refine lv_iload_n hx hb d_Model_intoRow_17 rfl (lv_at hl 1 rfl) ?_
      obtain ⟨r18, h18, hm⟩ := xb1_some hm
      refine xc_i (va_runV (C := "EventGraphTextModel") (As := [.int (xs_I u 8 b2.toNatClampNeg), .int b1]) (rest := []) ⟨hx, hb, hml, hown, hts⟩ (c_Model_stands l dC dI dT ad (xs_I u 8 b2.toNatClampNeg) b1 u r18 h18) (cwV 2 hts (xgV wd_683 wd_685 wds_18 wd_9 wd_686) rfl rfl rfl pd_Model_stands ⟨Nat.le_of_ble_eq_true rfl, Nat.le_of_ble_eq_true rfl⟩) (xpreV (C := "EventGraphTextModel") (T := T_Model) (N := 26) hP hK hN rfl mW_X) rfl rfl hl.1 rfl (lv_room (Nat.le_of_ble_eq_true rfl)) d_Model_intoRow_18 ⟨Nat.le_of_ble_eq_true rfl, Nat.le_of_ble_eq_true rfl⟩) hP hS (fun H locs hP hS => ?_)
      refine lv_if_eq (tgt := 30) hx hb d_Model_intoRow_21 rfl (fun h => ?_) (fun h => ?_)
      · replace hm := xi_pos h hm
        refine lv_aload_n hx hb d_Model_intoRow_30 rfl (lv_at hl 0 rfl) ?_
        refine va_get (D := (dC, dI)) (ci := 8) (v := .int (xs_i u 1)) (C := "EventGraphTextModel") (T := T_Model) (N := 26) hx hb hT hin_Model hown hK hP 0 mW_X rfl 12 (by decide) (hT _ wd_570) (fun _ h9 => h9) rfl d_Model_intoRow_31 ?_
        refine lv_istore_n (lv' := [(3, .int (xs_i u 1)), (0, .ref (ad 0)), (1, .int b1), (2, .int b2)]) hx hb d_Model_intoRow_34 rfl hl (Nat.le_of_ble_eq_true rfl) rfl (fun ls hl => ?_)
        exact hl35 xFU b1 b2 (xs_i u 1) u _ _ _ (lv_sub hl [1, 2, 3, 0] rfl) hP hS hm
      · replace hm := xi_neg h hm
        refine lv_iinc (k := 2) (v := (b2 + (1 : Int32))) (lv' := [(2, .int (b2 + (1 : Int32))), (0, .ref (ad 0)), (1, .int b1)]) hx hb d_Model_intoRow_24 hl rfl rfl (Nat.le_of_ble_eq_true rfl) rfl (fun ls hl => ?_)
        refine lv_goto (tgt := 2) hx hb d_Model_intoRow_27 rfl ?_
        exact hk2 b1 (b2 + (1 : Int32)) u _ _ _ (lv_sub hl [1, 2, 0] rfl) hP hS hm
  have hl2 : ∀ (fu : Nat), ∀ (b1 : Int32) (b2 : Int32) (u : xS) (H : Heap) (locs : List Loc) (ls : Array Slot), lv_has ls 4 [(0, .ref (ad 0)), (1, .int b1), (2, .int b2)] → va_P (dC, dI) xCl (mW dT ad u) H → va_S (xA ad 23) s.heap H locs → m_Model_intoRow_l2 fu b1 b2 u = some u1 → W p l e (xrm 2 49) s m args below meth c H locs 0 0 Q (F0 m 2 ls []) := by
    intro fu
    induction fu with
    | zero => intro b1 b2 u H locs ls hl hP hS hm; exact absurd hm (fun z => by cases z)
    | succ n ih => intro b1 b2 u H locs ls hl hP hS hm; exact hs2 (m_Model_intoRow_l2 n) ih b1 b2 u H locs ls hl hP hS hm
  unfold m_Model_intoRow at hm
  refine lv_iconst (v := (0 : Int32)) hx hb d_Model_intoRow_0 (by decide) ?_
  refine lv_istore_n (lv' := [(2, .int (0 : Int32)), (0, .ref (ad 0)), (1, .int a1)]) hx hb d_Model_intoRow_1 rfl hl (Nat.le_of_ble_eq_true rfl) rfl (fun ls hl => ?_)
  exact hl2 xFU a1 (0 : Int32) u _ _ _ (lv_sub hl [1, 2, 0] rfl) hP hS hm
set_option maxHeartbeats 4000000 in
set_option maxRecDepth 100000 in
theorem c_Model_tips (l : Launch) (dC : Nat → ClassId) (dI : Nat → Nat → Nat) (dT : Nat → ClassId) (ad : Nat → Nat) (a1 : Int64) (u : xS) (out : Int64) (hm : m_Model_tips a1 u = some out) : Met l y_Model_tips (Cond.code y_Model_tips b_Model_tips 6 (some .long) :: xG) (xrm 1 22) (va_Pc [.ref (ad 0), .long a1] (xR (dC, dI) xCl (xT dT) (mW dT ad u))) (va_Ql (fun r9 (_ : Unit) => r9 = out) (fun _ _ => True) xN) 0 0 xN := by
  refine xm_roj (cc := b_Model_tips) (maxL := 6) (by decide) rfl (Nat.le_of_ble_eq_true rfl) ?_
  intro p e s m args below meth c Q ls hx hb hml hts hown hK hN hP hl hret
  have hT : ∀ w ∈ xG, w.before args s = true := fun w h => hts w (List.mem_cons_of_mem _ h)
  have hown : s.vm.findClass "EventGraphTextModel" = some m.cls := hown
  have hl : lv_has ls 6 [(0, .ref (ad 0)), (1, .long a1)] := hl
  have hS : va_S xN s.heap s.heap [] := va_S.rf
  have hs5 : ∀ (k5 : Int64 → Int64 → Int32 → xS → Option Int64) (hk5 : ∀ (b1 : Int64) (b3 : Int64) (b5 : Int32) (H : Heap) (locs : List Loc) (ls : Array Slot), lv_has ls 6 [(0, .ref (ad 0)), (1, .long b1), (3, .long b3), (5, .int b5)] → va_P (dC, dI) xCl (mW dT ad u) H → va_S xN s.heap H locs → k5 b1 b3 b5 u = some out → W p l e (xrm 1 22) s m args below meth c H locs 0 0 Q (F0 m 5 ls [])), ∀ (b1 : Int64) (b3 : Int64) (b5 : Int32) (H : Heap) (locs : List Loc) (ls : Array Slot), lv_has ls 6 [(0, .ref (ad 0)), (1, .long b1), (3, .long b3), (5, .int b5)] → va_P (dC, dI) xCl (mW dT ad u) H → va_S xN s.heap H locs → m_Model_tips_s5 k5 b1 b3 b5 u = some out → W p l e (xrm 1 22) s m args below meth c H locs 0 0 Q (F0 m 5 ls []) := by
    intro k5 hk5 b1 b3 b5 H locs ls hl hP hS hm
    unfold m_Model_tips_s5 at hm
    refine lv_iload hx hb d_Model_tips_5 (lv_at hl 3 rfl) ?_
    refine lv_aload_n hx hb d_Model_tips_7 rfl (lv_at hl 0 rfl) ?_
    refine va_get (D := (dC, dI)) (ci := 8) (v := .int (xs_i u 0)) (C := "EventGraphTextModel") (T := T_Model) (N := 26) hx hb hT hin_Model hown hK hP 0 mW_X rfl 0 (by decide) (hT _ wd_558) (fun _ h9 => h9) rfl d_Model_tips_8 ?_
    refine lv_icmp_ge (tgt := 43) hx hb d_Model_tips_11 rfl (fun h => ?_) (fun h => ?_)
    · replace hm := xi_pos h hm
      refine lv_lload_n hx hb d_Model_tips_43 rfl (lv_at hl 1 rfl) ?_
      refine lv_lload_n hx hb d_Model_tips_44 rfl (lv_at hl 2 rfl) ?_
      refine lv_ldc2 (v := (-1 : Int64)) hx hb hown (hT _ wd_678) d_Model_tips_45 ?_
      refine lv_lxor hx hb d_Model_tips_48 ?_
      refine lv_land hx hb d_Model_tips_49 ?_
      exact hret hm hS d_Model_tips_50
    · replace hm := xi_neg h hm
      refine lv_lload_n hx hb d_Model_tips_14 rfl (lv_at hl 2 rfl) ?_
      refine lv_lload_n hx hb d_Model_tips_15 rfl (lv_at hl 1 rfl) ?_
      refine lv_iload hx hb d_Model_tips_16 (lv_at hl 3 rfl) ?_
      obtain ⟨r18, h18, hm⟩ := xb1_some hm
      refine xc_i (va_runS (As := [.long b1, .int b5]) (rest := [.long b3]) ⟨hx, hb, hml, hown, hts⟩ (c_Model_in l b1 b5 r18 h18) (va_cwS 2 hts (xgS wd_656 wd_657 wd_9 wd_658) rfl rfl rfl pd_Model_in.2 ⟨Nat.le_of_ble_eq_true rfl, Nat.le_of_ble_eq_true rfl⟩) xpreS0 rfl rfl hl.1 rfl (lv_room (Nat.le_of_ble_eq_true rfl)) d_Model_tips_18 ⟨Nat.le_of_ble_eq_true rfl, Nat.le_of_ble_eq_true rfl⟩) hP hS (fun H locs hP hS => ?_)
      refine lv_if_eq (tgt := 34) hx hb d_Model_tips_21 rfl (fun h => ?_) (fun h => ?_)
      · replace hm := xi_pos h hm
        refine lv_lconst (v := (0 : Int64)) hx hb d_Model_tips_34 (by decide) ?_
        refine lv_lor hx hb d_Model_tips_35 ?_
        refine lv_lstore_n (lv' := [(3, .long (b3 ||| (0 : Int64))), (0, .ref (ad 0)), (1, .long b1), (5, .int b5)]) hx hb d_Model_tips_36 rfl hl (Nat.le_of_ble_eq_true rfl) rfl (fun ls hl => ?_)
        refine lv_iinc (k := 3) (v := (b5 + (1 : Int32))) (lv' := [(5, .int (b5 + (1 : Int32))), (3, .long (b3 ||| (0 : Int64))), (0, .ref (ad 0)), (1, .long b1)]) hx hb d_Model_tips_37 hl rfl rfl (Nat.le_of_ble_eq_true rfl) rfl (fun ls hl => ?_)
        refine lv_goto (tgt := 5) hx hb d_Model_tips_40 rfl ?_
        exact hk5 b1 (b3 ||| (0 : Int64)) (b5 + (1 : Int32)) _ _ _ (lv_sub hl [2, 3, 1, 0] rfl) hP hS hm
      · replace hm := xi_neg h hm
        refine lv_aload_n hx hb d_Model_tips_24 rfl (lv_at hl 0 rfl) ?_
        refine va_get (D := (dC, dI)) (ci := 8) (v := .ref (ad 6)) (C := "EventGraphTextModel") (T := T_Model) (N := 26) hx hb hT hin_Model hown hK hP 0 mW_X rfl 6 (by decide) (hT _ wd_564) (fun _ h9 => h9) rfl d_Model_tips_25 ?_
        refine lv_iload hx hb d_Model_tips_28 (lv_at hl 3 rfl) ?_
        obtain ⟨g1, hm⟩ := xg_some hm
        refine va_lald hx hb hK hP 6 1 mW_X_earlier rfl g1 d_Model_tips_30 ?_
        refine lv_goto (tgt := 35) hx hb d_Model_tips_31 rfl ?_
        refine lv_lor hx hb d_Model_tips_35 ?_
        refine lv_lstore_n (lv' := [(3, .long (b3 ||| (xs_L u 0 b5.toNatClampNeg))), (0, .ref (ad 0)), (1, .long b1), (5, .int b5)]) hx hb d_Model_tips_36 rfl hl (Nat.le_of_ble_eq_true rfl) rfl (fun ls hl => ?_)
        refine lv_iinc (k := 3) (v := (b5 + (1 : Int32))) (lv' := [(5, .int (b5 + (1 : Int32))), (3, .long (b3 ||| (xs_L u 0 b5.toNatClampNeg))), (0, .ref (ad 0)), (1, .long b1)]) hx hb d_Model_tips_37 hl rfl rfl (Nat.le_of_ble_eq_true rfl) rfl (fun ls hl => ?_)
        refine lv_goto (tgt := 5) hx hb d_Model_tips_40 rfl ?_
        exact hk5 b1 (b3 ||| (xs_L u 0 b5.toNatClampNeg)) (b5 + (1 : Int32)) _ _ _ (lv_sub hl [2, 3, 1, 0] rfl) hP hS hm
  have hl5 : ∀ (fu : Nat), ∀ (b1 : Int64) (b3 : Int64) (b5 : Int32) (H : Heap) (locs : List Loc) (ls : Array Slot), lv_has ls 6 [(0, .ref (ad 0)), (1, .long b1), (3, .long b3), (5, .int b5)] → va_P (dC, dI) xCl (mW dT ad u) H → va_S xN s.heap H locs → m_Model_tips_l5 fu b1 b3 b5 u = some out → W p l e (xrm 1 22) s m args below meth c H locs 0 0 Q (F0 m 5 ls []) := by
    intro fu
    induction fu with
    | zero => intro b1 b3 b5 H locs ls hl hP hS hm; exact absurd hm (fun z => by cases z)
    | succ n ih => intro b1 b3 b5 H locs ls hl hP hS hm; exact hs5 (m_Model_tips_l5 n) ih b1 b3 b5 H locs ls hl hP hS hm
  unfold m_Model_tips at hm
  refine lv_lconst (v := (0 : Int64)) hx hb d_Model_tips_0 (by decide) ?_
  refine lv_lstore_n (lv' := [(3, .long (0 : Int64)), (0, .ref (ad 0)), (1, .long a1)]) hx hb d_Model_tips_1 rfl hl (Nat.le_of_ble_eq_true rfl) rfl (fun ls hl => ?_)
  refine lv_iconst (v := (0 : Int32)) hx hb d_Model_tips_2 (by decide) ?_
  refine lv_istore (lv' := [(5, .int (0 : Int32)), (3, .long (0 : Int64)), (0, .ref (ad 0)), (1, .long a1)]) hx hb d_Model_tips_3 hl (Nat.le_of_ble_eq_true rfl) rfl (fun ls hl => ?_)
  exact hl5 xFU a1 (0 : Int64) (0 : Int32) _ _ _ (lv_sub hl [2, 3, 1, 0] rfl) hP hS hm
set_option maxHeartbeats 4000000 in
set_option maxRecDepth 100000 in
theorem c_Model_event (l : Launch) (dC : Nat → ClassId) (dI : Nat → Nat → Nat) (dT : Nat → ClassId) (ad : Nat → Nat) (hD : ∀ u, va_D (xA ad 23) (mW dT ad u)) (a1 : Int32) (a2 : Int32) (a3 : Int32) (u : xS) (out : Int32) (u1 : xS) (hm : m_Model_event a1 a2 a3 u = some (out, u1)) : Met l y_Model_event (Cond.code y_Model_event b_Model_event 7 (some .int) :: xG) (xrm 2 47) (va_Pc [.ref (ad 0), .int a1, .int a2, .int a3] (xR (dC, dI) xCl (xT dT) (mW dT ad u))) (va_Qi (fun r9 (u9 : xS) => r9 = out ∧ u9 = u1) (fun u9 t => va_P (dC, dI) xCl (mW dT ad u9) t.heap) (xA ad 23)) 0 0 (xA ad 23) := by
  refine xm_rwi (Wd := mW dT ad) (cc := b_Model_event) (maxL := 7) (by decide) rfl (Nat.le_of_ble_eq_true rfl) ?_
  intro p e s m args below meth c Q ls hx hb hml hts hown hK hN hP hl hret
  have hT : ∀ w ∈ xG, w.before args s = true := fun w h => hts w (List.mem_cons_of_mem _ h)
  have hown : s.vm.findClass "EventGraphTextModel" = some m.cls := hown
  have hl : lv_has ls 7 [(0, .ref (ad 0)), (1, .int a1), (2, .int a2), (3, .int a3)] := hl
  have hS : va_S (xA ad 23) s.heap s.heap [] := va_S.rf
  have hs12 : ∀ (k12 : Int32 → Int32 → Int32 → Int32 → Int32 → Int32 → xS → Option (Int32 × xS)) (hk12 : ∀ (b1 : Int32) (b2 : Int32) (b3 : Int32) (b4 : Int32) (b5 : Int32) (b6 : Int32) (u : xS) (H : Heap) (locs : List Loc) (ls : Array Slot), lv_has ls 7 [(0, .ref (ad 0)), (1, .int b1), (2, .int b2), (3, .int b3), (4, .int b4), (5, .int b5), (6, .int b6)] → va_P (dC, dI) xCl (mW dT ad u) H → va_S (xA ad 23) s.heap H locs → k12 b1 b2 b3 b4 b5 b6 u = some (out, u1) → W p l e (xrm 2 47) s m args below meth c H locs 0 0 Q (F0 m 12 ls [])), ∀ (b1 : Int32) (b2 : Int32) (b3 : Int32) (b4 : Int32) (b5 : Int32) (b6 : Int32) (u : xS) (H : Heap) (locs : List Loc) (ls : Array Slot), lv_has ls 7 [(0, .ref (ad 0)), (1, .int b1), (2, .int b2), (3, .int b3), (4, .int b4), (5, .int b5), (6, .int b6)] → va_P (dC, dI) xCl (mW dT ad u) H → va_S (xA ad 23) s.heap H locs → m_Model_event_s12 k12 b1 b2 b3 b4 b5 b6 u = some (out, u1) → W p l e (xrm 2 47) s m args below meth c H locs 0 0 Q (F0 m 12 ls []) := by
    intro k12 hk12 b1 b2 b3 b4 b5 b6 u H locs ls hl hP hS hm
    unfold m_Model_event_s12 at hm
    refine lv_iload hx hb d_Model_event_12 (lv_at hl 6 rfl) ?_
    refine lv_aload_n hx hb d_Model_event_14 rfl (lv_at hl 0 rfl) ?_
    refine va_get (D := (dC, dI)) (ci := 8) (v := .int (xs_i u 0)) (C := "EventGraphTextModel") (T := T_Model) (N := 26) hx hb hT hin_Model hown hK hP 0 mW_X rfl 0 (by decide) (hT _ wd_558) (fun _ h9 => h9) rfl d_Model_event_15 ?_
    refine lv_icmp_ge (tgt := 48) hx hb d_Model_event_18 rfl (fun h => ?_) (fun h => ?_)
    · replace hm := xi_pos h hm
      refine lv_aload_n hx hb d_Model_event_48 rfl (lv_at hl 0 rfl) ?_
      refine va_get (D := (dC, dI)) (ci := 8) (v := .ref (ad 1)) (C := "EventGraphTextModel") (T := T_Model) (N := 26) hx hb hT hin_Model hown hK hP 0 mW_X rfl 1 (by decide) (hT _ wd_559) (fun _ h9 => h9) rfl d_Model_event_49 ?_
      refine lv_iload hx hb d_Model_event_52 (lv_at hl 4 rfl) ?_
      refine lv_iload_n hx hb d_Model_event_54 rfl (lv_at hl 1 rfl) ?_
      obtain ⟨g1, hm⟩ := xg_some hm
      obtain ⟨w55, hw55, hm⟩ := xlt_some hm
      refine va_iast hx hb hK hP (hD _) hS 1 0 mW_X_site rfl g1 d_Model_event_55 (fun H locs hP _ hS => ?_)
      replace hP : va_P (dC, dI) xCl (mW dT ad w55) H := xp_conv ((mW_s_X_site).trans (congrArg (mW dT ad) hw55.symm)) hP
      refine lv_aload_n hx hb d_Model_event_56 rfl (lv_at hl 0 rfl) ?_
      refine va_get (D := (dC, dI)) (ci := 8) (v := .ref (ad 2)) (C := "EventGraphTextModel") (T := T_Model) (N := 26) hx hb hT hin_Model hown hK hP 0 mW_X rfl 2 (by decide) (hT _ wd_560) (fun _ h9 => h9) rfl d_Model_event_57 ?_
      refine lv_iload hx hb d_Model_event_60 (lv_at hl 4 rfl) ?_
      refine lv_iload hx hb d_Model_event_62 (lv_at hl 5 rfl) ?_
      obtain ⟨w64, hw64, hm⟩ := xlt_some hm
      refine va_iast hx hb hK hP (hD _) hS 2 0 mW_X_number rfl g1 d_Model_event_64 (fun H locs hP _ hS => ?_)
      replace hP : va_P (dC, dI) xCl (mW dT ad w64) H := xp_conv ((mW_s_X_number).trans (congrArg (mW dT ad) hw64.symm)) hP
      refine lv_aload_n hx hb d_Model_event_65 rfl (lv_at hl 0 rfl) ?_
      refine va_get (D := (dC, dI)) (ci := 8) (v := .ref (ad 3)) (C := "EventGraphTextModel") (T := T_Model) (N := 26) hx hb hT hin_Model hown hK hP 0 mW_X rfl 3 (by decide) (hT _ wd_561) (fun _ h9 => h9) rfl d_Model_event_66 ?_
      refine lv_iload hx hb d_Model_event_69 (lv_at hl 4 rfl) ?_
      refine lv_iload_n hx hb d_Model_event_71 rfl (lv_at hl 2 rfl) ?_
      obtain ⟨w72, hw72, hm⟩ := xlt_some hm
      refine va_zast hx hb hK hP (hD _) hS 3 2 mW_X_inserts rfl g1 d_Model_event_72 (fun H locs hP _ hS => ?_)
      replace hP : va_P (dC, dI) xCl (mW dT ad w72) H := xp_conv ((mW_s_X_inserts).trans (congrArg (mW dT ad) hw72.symm)) hP
      refine lv_aload_n hx hb d_Model_event_73 rfl (lv_at hl 0 rfl) ?_
      refine va_get (D := (dC, dI)) (ci := 8) (v := .ref (ad 4)) (C := "EventGraphTextModel") (T := T_Model) (N := 26) hx hb hT hin_Model hown hK hP 0 mW_X rfl 4 (by decide) (hT _ wd_562) (fun _ h9 => h9) rfl d_Model_event_74 ?_
      refine lv_iload hx hb d_Model_event_77 (lv_at hl 4 rfl) ?_
      refine lv_iload_n hx hb d_Model_event_79 rfl (lv_at hl 3 rfl) ?_
      obtain ⟨w80, hw80, hm⟩ := xlt_some hm
      refine va_iast hx hb hK hP (hD _) hS 4 0 mW_X_index rfl g1 d_Model_event_80 (fun H locs hP _ hS => ?_)
      replace hP : va_P (dC, dI) xCl (mW dT ad w80) H := xp_conv ((mW_s_X_index).trans (congrArg (mW dT ad) hw80.symm)) hP
      refine lv_aload_n hx hb d_Model_event_81 rfl (lv_at hl 0 rfl) ?_
      refine va_get (D := (dC, dI)) (ci := 8) (v := .ref (ad 6)) (C := "EventGraphTextModel") (T := T_Model) (N := 26) hx hb hT hin_Model hown hK hP 0 mW_X rfl 6 (by decide) (hT _ wd_564) (fun _ h9 => h9) rfl d_Model_event_82 ?_
      refine lv_iload hx hb d_Model_event_85 (lv_at hl 4 rfl) ?_
      refine lv_aload_n hx hb d_Model_event_87 rfl (lv_at hl 0 rfl) ?_
      refine va_get (D := (dC, dI)) (ci := 8) (v := .ref (ad 12)) (C := "EventGraphTextModel") (T := T_Model) (N := 26) hx hb hT hin_Model hown hK hP 0 mW_X rfl 13 (by decide) (hT _ wd_571) (fun _ h9 => h9) rfl d_Model_event_88 ?_
      refine lv_iload_n hx hb d_Model_event_91 rfl (lv_at hl 1 rfl) ?_
      obtain ⟨g2, hm⟩ := xg_some hm
      refine va_lald hx hb hK hP 12 1 mW_X_graph rfl g2 d_Model_event_92 ?_
      obtain ⟨w93, hw93, hm⟩ := xlt_some hm
      refine va_last hx hb hK hP (hD _) hS 6 1 mW_X_earlier rfl g1 d_Model_event_93 (fun H locs hP _ hS => ?_)
      replace hP : va_P (dC, dI) xCl (mW dT ad w93) H := xp_conv ((mW_s_X_earlier).trans (congrArg (mW dT ad) hw93.symm)) hP
      refine lv_aload_n hx hb d_Model_event_94 rfl (lv_at hl 0 rfl) ?_
      refine va_get (D := (dC, dI)) (ci := 8) (v := .ref (ad 7)) (C := "EventGraphTextModel") (T := T_Model) (N := 26) hx hb hT hin_Model hown hK hP 0 mW_X rfl 7 (by decide) (hT _ wd_565) (fun _ h9 => h9) rfl d_Model_event_95 ?_
      refine lv_iload hx hb d_Model_event_98 (lv_at hl 4 rfl) ?_
      refine lv_aload_n hx hb d_Model_event_100 rfl (lv_at hl 0 rfl) ?_
      refine lv_aload_n hx hb d_Model_event_101 rfl (lv_at hl 0 rfl) ?_
      refine va_get (D := (dC, dI)) (ci := 8) (v := .ref (ad 12)) (C := "EventGraphTextModel") (T := T_Model) (N := 26) hx hb hT hin_Model hown hK hP 0 mW_X rfl 13 (by decide) (hT _ wd_571) (fun _ h9 => h9) rfl d_Model_event_102 ?_
      refine lv_iload_n hx hb d_Model_event_105 rfl (lv_at hl 1 rfl) ?_
      refine va_lald hx hb hK hP 12 1 mW_X_graph rfl g2 d_Model_event_106 ?_
      obtain ⟨r107, h107, hm⟩ := xb1_some hm
      refine xc_l (va_runV (C := "EventGraphTextModel") (As := [.long (xs_L w93 2 b1.toNatClampNeg)]) (rest := [.int b4, .ref (ad 7)]) ⟨hx, hb, hml, hown, hts⟩ (c_Model_tips l dC dI dT ad (xs_L w93 2 b1.toNatClampNeg) w93 r107 h107) (cwV 1 hts (xgV wd_674 wd_676 wds_19 wd_9 wd_677) rfl rfl rfl pd_Model_tips ⟨Nat.le_of_ble_eq_true rfl, Nat.le_of_ble_eq_true rfl⟩) (xpreV (C := "EventGraphTextModel") (T := T_Model) (N := 26) hP hK hN rfl mW_X) rfl rfl hl.1 rfl (lv_room (Nat.le_of_ble_eq_true rfl)) d_Model_event_107 ⟨Nat.le_of_ble_eq_true rfl, Nat.le_of_ble_eq_true rfl⟩) hP hS (fun H locs hP hS => ?_)
      obtain ⟨w110, hw110, hm⟩ := xlt_some hm
      refine va_last hx hb hK hP (hD _) hS 7 1 mW_X_parents rfl g1 d_Model_event_110 (fun H locs hP _ hS => ?_)
      replace hP : va_P (dC, dI) xCl (mW dT ad w110) H := xp_conv ((mW_s_X_parents).trans (congrArg (mW dT ad) hw110.symm)) hP
      refine lv_aload_n hx hb d_Model_event_111 rfl (lv_at hl 0 rfl) ?_
      refine va_get (D := (dC, dI)) (ci := 8) (v := .ref (ad 12)) (C := "EventGraphTextModel") (T := T_Model) (N := 26) hx hb hT hin_Model hown hK hP 0 mW_X rfl 13 (by decide) (hT _ wd_571) (fun _ h9 => h9) rfl d_Model_event_112 ?_
      refine lv_iload_n hx hb d_Model_event_115 rfl (lv_at hl 1 rfl) ?_
      refine lv_dup2_11 hx hb d_Model_event_116 rfl rfl ?_
      refine va_lald hx hb hK hP 12 1 mW_X_graph rfl g2 d_Model_event_117 ?_
      refine lv_iload hx hb d_Model_event_118 (lv_at hl 4 rfl) ?_
      obtain ⟨r120, h120, hm⟩ := xb1_some hm
      refine xc_l (va_runS (As := [.int b4]) (rest := [.long (xs_L w110 2 b1.toNatClampNeg), .int b1, .ref (ad 12)]) ⟨hx, hb, hml, hown, hts⟩ (c_Model_one l b4 r120 h120) (va_cwS 1 hts (xgS wd_659 wd_660 wd_9 wd_661) rfl rfl rfl pd_Model_one.2 ⟨Nat.le_of_ble_eq_true rfl, Nat.le_of_ble_eq_true rfl⟩) xpreS0 rfl rfl hl.1 rfl (lv_room (Nat.le_of_ble_eq_true rfl)) d_Model_event_120 ⟨Nat.le_of_ble_eq_true rfl, Nat.le_of_ble_eq_true rfl⟩) hP hS (fun H locs hP hS => ?_)
      refine lv_lor hx hb d_Model_event_123 ?_
      obtain ⟨w124, hw124, hm⟩ := xlt_some hm
      refine va_last hx hb hK hP (hD _) hS 12 1 mW_X_graph rfl g2 d_Model_event_124 (fun H locs hP _ hS => ?_)
      replace hP : va_P (dC, dI) xCl (mW dT ad w124) H := xp_conv ((mW_s_X_graph).trans (congrArg (mW dT ad) hw124.symm)) hP
      refine lv_aload_n hx hb d_Model_event_125 rfl (lv_at hl 0 rfl) ?_
      refine lv_dup hx hb d_Model_event_126 rfl ?_
      refine va_get (D := (dC, dI)) (ci := 8) (v := .int (xs_i w124 0)) (C := "EventGraphTextModel") (T := T_Model) (N := 26) hx hb hT hin_Model hown hK hP 0 mW_X rfl 0 (by decide) (hT _ wd_558) (fun _ h9 => h9) rfl d_Model_event_127 ?_
      refine lv_iconst (v := (1 : Int32)) hx hb d_Model_event_130 (by decide) ?_
      refine lv_iadd hx hb d_Model_event_131 ?_
      obtain ⟨w132, hw132, hm⟩ := xlt_some hm
      refine va_put (D := (dC, dI)) (ci := 8) (v := .int ((xs_i w124 0) + (1 : Int32))) (ty := .int) (C := "EventGraphTextModel") (T := T_Model) (N := 26) hx hb hT hin_Model ty_Model tyok_Model nm_Model hown hK hP (hD _) hS 0 mW_X rfl 0 (by decide) (hT _ wd_558) (fun _ h9 => h9) rfl (by decide +kernel) rfl rfl (Nat.le_of_ble_eq_true rfl) d_Model_event_132 (fun H locs hP _ hS => ?_)
      replace hP : va_P (dC, dI) xCl (mW dT ad w132) H := xp_conv ((mW_f_X_made).trans (congrArg (mW dT ad) hw132.symm)) hP
      refine lv_iload hx hb d_Model_event_135 (lv_at hl 4 rfl) ?_
      exact hret hm hP hS d_Model_event_137
    · replace hm := xi_neg h hm
      refine lv_iload hx hb d_Model_event_21 (lv_at hl 5 rfl) ?_
      refine lv_aload_n hx hb d_Model_event_23 rfl (lv_at hl 0 rfl) ?_
      refine va_get (D := (dC, dI)) (ci := 8) (v := .ref (ad 1)) (C := "EventGraphTextModel") (T := T_Model) (N := 26) hx hb hT hin_Model hown hK hP 0 mW_X rfl 1 (by decide) (hT _ wd_559) (fun _ h9 => h9) rfl d_Model_event_24 ?_
      refine lv_iload hx hb d_Model_event_27 (lv_at hl 6 rfl) ?_
      obtain ⟨g3, hm⟩ := xg_some hm
      refine va_iald hx hb hK hP 1 0 mW_X_site rfl g3 d_Model_event_29 ?_
      refine lv_iload_n hx hb d_Model_event_30 rfl (lv_at hl 1 rfl) ?_
      refine lv_icmp_ne (tgt := 38) hx hb d_Model_event_31 rfl (fun h => ?_) (fun h => ?_)
      · replace hm := xi_neg h hm
        refine lv_iconst (v := (0 : Int32)) hx hb d_Model_event_38 (by decide) ?_
        refine lv_iadd hx hb d_Model_event_39 ?_
        refine lv_istore (lv' := [(5, .int (b5 + (0 : Int32))), (0, .ref (ad 0)), (1, .int b1), (2, .int b2), (3, .int b3), (4, .int b4), (6, .int b6)]) hx hb d_Model_event_40 hl (Nat.le_of_ble_eq_true rfl) rfl (fun ls hl => ?_)
        refine lv_iinc (k := 6) (v := (b6 + (1 : Int32))) (lv' := [(6, .int (b6 + (1 : Int32))), (5, .int (b5 + (0 : Int32))), (0, .ref (ad 0)), (1, .int b1), (2, .int b2), (3, .int b3), (4, .int b4)]) hx hb d_Model_event_42 hl rfl rfl (Nat.le_of_ble_eq_true rfl) rfl (fun ls hl => ?_)
        refine lv_goto (tgt := 12) hx hb d_Model_event_45 rfl ?_
        exact hk12 b1 b2 b3 b4 (b5 + (0 : Int32)) (b6 + (1 : Int32)) u _ _ _ (lv_sub hl [2, 3, 4, 5, 6, 1, 0] rfl) hP hS hm
      · replace hm := xi_pos h hm
        refine lv_iconst (v := (1 : Int32)) hx hb d_Model_event_34 (by decide) ?_
        refine lv_goto (tgt := 39) hx hb d_Model_event_35 rfl ?_
        refine lv_iadd hx hb d_Model_event_39 ?_
        refine lv_istore (lv' := [(5, .int (b5 + (1 : Int32))), (0, .ref (ad 0)), (1, .int b1), (2, .int b2), (3, .int b3), (4, .int b4), (6, .int b6)]) hx hb d_Model_event_40 hl (Nat.le_of_ble_eq_true rfl) rfl (fun ls hl => ?_)
        refine lv_iinc (k := 6) (v := (b6 + (1 : Int32))) (lv' := [(6, .int (b6 + (1 : Int32))), (5, .int (b5 + (1 : Int32))), (0, .ref (ad 0)), (1, .int b1), (2, .int b2), (3, .int b3), (4, .int b4)]) hx hb d_Model_event_42 hl rfl rfl (Nat.le_of_ble_eq_true rfl) rfl (fun ls hl => ?_)
        refine lv_goto (tgt := 12) hx hb d_Model_event_45 rfl ?_
        exact hk12 b1 b2 b3 b4 (b5 + (1 : Int32)) (b6 + (1 : Int32)) u _ _ _ (lv_sub hl [2, 3, 4, 5, 6, 1, 0] rfl) hP hS hm
  have hl12 : ∀ (fu : Nat), ∀ (b1 : Int32) (b2 : Int32) (b3 : Int32) (b4 : Int32) (b5 : Int32) (b6 : Int32) (u : xS) (H : Heap) (locs : List Loc) (ls : Array Slot), lv_has ls 7 [(0, .ref (ad 0)), (1, .int b1), (2, .int b2), (3, .int b3), (4, .int b4), (5, .int b5), (6, .int b6)] → va_P (dC, dI) xCl (mW dT ad u) H → va_S (xA ad 23) s.heap H locs → m_Model_event_l12 fu b1 b2 b3 b4 b5 b6 u = some (out, u1) → W p l e (xrm 2 47) s m args below meth c H locs 0 0 Q (F0 m 12 ls []) := by
    intro fu
    induction fu with
    | zero => intro b1 b2 b3 b4 b5 b6 u H locs ls hl hP hS hm; exact absurd hm (fun z => by cases z)
    | succ n ih => intro b1 b2 b3 b4 b5 b6 u H locs ls hl hP hS hm; exact hs12 (m_Model_event_l12 n) ih b1 b2 b3 b4 b5 b6 u H locs ls hl hP hS hm
  unfold m_Model_event at hm
  refine lv_aload_n hx hb d_Model_event_0 rfl (lv_at hl 0 rfl) ?_
  refine va_get (D := (dC, dI)) (ci := 8) (v := .int (xs_i u 0)) (C := "EventGraphTextModel") (T := T_Model) (N := 26) hx hb hT hin_Model hown hK hP 0 mW_X rfl 0 (by decide) (hT _ wd_558) (fun _ h9 => h9) rfl d_Model_event_1 ?_
  refine lv_istore (lv' := [(4, .int (xs_i u 0)), (0, .ref (ad 0)), (1, .int a1), (2, .int a2), (3, .int a3)]) hx hb d_Model_event_4 hl (Nat.le_of_ble_eq_true rfl) rfl (fun ls hl => ?_)
  refine lv_iconst (v := (0 : Int32)) hx hb d_Model_event_6 (by decide) ?_
  refine lv_istore (lv' := [(5, .int (0 : Int32)), (4, .int (xs_i u 0)), (0, .ref (ad 0)), (1, .int a1), (2, .int a2), (3, .int a3)]) hx hb d_Model_event_7 hl (Nat.le_of_ble_eq_true rfl) rfl (fun ls hl => ?_)
  refine lv_iconst (v := (0 : Int32)) hx hb d_Model_event_9 (by decide) ?_
  refine lv_istore (lv' := [(6, .int (0 : Int32)), (5, .int (0 : Int32)), (4, .int (xs_i u 0)), (0, .ref (ad 0)), (1, .int a1), (2, .int a2), (3, .int a3)]) hx hb d_Model_event_10 hl (Nat.le_of_ble_eq_true rfl) rfl (fun ls hl => ?_)
  exact hl12 xFU a1 a2 a3 (xs_i u 0) (0 : Int32) (0 : Int32) u _ _ _ (lv_sub hl [3, 4, 5, 6, 2, 1, 0] rfl) hP hS hm
set_option maxHeartbeats 4000000 in
set_option maxRecDepth 100000 in
theorem c_Model_length (l : Launch) (dC : Nat → ClassId) (dI : Nat → Nat → Nat) (dT : Nat → ClassId) (ad : Nat → Nat) (a1 : Int32) (u : xS) (out : Int32) (hm : m_Model_length a1 u = some out) : Met l y_Model_length (Cond.code y_Model_length b_Model_length 2 (some .int) :: xG) (xrm 3 75) (va_Pc [.ref (ad 0), .int a1] (xR (dC, dI) xCl (xT dT) (mW dT ad u))) (va_Qi (fun r9 (_ : Unit) => r9 = out) (fun _ _ => True) xN) 0 0 xN := by
  refine xm_roi (cc := b_Model_length) (maxL := 2) (by decide) rfl (Nat.le_of_ble_eq_true rfl) ?_
  intro p e s m args below meth c Q ls hx hb hml hts hown hK hN hP hl hret
  have hT : ∀ w ∈ xG, w.before args s = true := fun w h => hts w (List.mem_cons_of_mem _ h)
  have hown : s.vm.findClass "EventGraphTextModel" = some m.cls := hown
  have hl : lv_has ls 2 [(0, .ref (ad 0)), (1, .int a1)] := hl
  have hS : va_S xN s.heap s.heap [] := va_S.rf
  unfold m_Model_length at hm
  refine lv_iload_n hx hb d_Model_length_0 rfl (lv_at hl 1 rfl) ?_
  obtain ⟨r1, h1, hm⟩ := xb1_some hm
  refine xc_i (va_runS (As := [.int a1]) (rest := []) ⟨hx, hb, hml, hown, hts⟩ (c_Model_wrong l a1 r1 h1) (va_cwS 1 hts (xgS wd_641 wd_642 wd_9 wd_643) rfl rfl rfl pd_Model_wrong.2 ⟨Nat.le_of_ble_eq_true rfl, Nat.le_of_ble_eq_true rfl⟩) xpreS0 rfl rfl hl.1 rfl (lv_room (Nat.le_of_ble_eq_true rfl)) d_Model_length_1 ⟨Nat.le_of_ble_eq_true rfl, Nat.le_of_ble_eq_true rfl⟩) hP hS (fun H locs hP hS => ?_)
  refine lv_if_eq (tgt := 13) hx hb d_Model_length_4 rfl (fun h => ?_) (fun h => ?_)
  · replace hm := xi_pos h hm
    refine lv_aload_n hx hb d_Model_length_13 rfl (lv_at hl 0 rfl) ?_
    refine lv_aload_n hx hb d_Model_length_14 rfl (lv_at hl 0 rfl) ?_
    refine va_get (D := (dC, dI)) (ci := 8) (v := .ref (ad 12)) (C := "EventGraphTextModel") (T := T_Model) (N := 26) hx hb hT hin_Model hown hK hP 0 mW_X rfl 13 (by decide) (hT _ wd_571) (fun _ h9 => h9) rfl d_Model_length_15 ?_
    refine lv_iload_n hx hb d_Model_length_18 rfl (lv_at hl 1 rfl) ?_
    obtain ⟨g1, hm⟩ := xg_some hm
    refine va_lald hx hb hK hP 12 1 mW_X_graph rfl g1 d_Model_length_19 ?_
    refine lv_iconst (v := (-1 : Int32)) hx hb d_Model_length_20 (by decide) ?_
    obtain ⟨r21, h21, hm⟩ := xb1_some hm
    refine xc_i (va_runV (C := "EventGraphTextModel") (As := [.long (xs_L u 2 a1.toNatClampNeg), .int (-1 : Int32)]) (rest := []) ⟨hx, hb, hml, hown, hts⟩ (c_Model_shownBefore l dC dI dT ad (xs_L u 2 a1.toNatClampNeg) (-1 : Int32) u r21 h21) (cwV 2 hts (xgV wd_648 wd_650 wds_20 wd_9 wd_651) rfl rfl rfl pd_Model_shownBefore ⟨Nat.le_of_ble_eq_true rfl, Nat.le_of_ble_eq_true rfl⟩) (xpreV (C := "EventGraphTextModel") (T := T_Model) (N := 26) hP hK hN rfl mW_X) rfl rfl hl.1 rfl (lv_room (Nat.le_of_ble_eq_true rfl)) d_Model_length_21 ⟨Nat.le_of_ble_eq_true rfl, Nat.le_of_ble_eq_true rfl⟩) hP hS (fun H locs hP hS => ?_)
    exact hret hm hS d_Model_length_24
  · replace hm := xi_neg h hm
    refine lv_sipush (v := (-1000 : Int32)) hx hb d_Model_length_7 (by decide) ?_
    refine lv_goto (tgt := 24) hx hb d_Model_length_10 rfl ?_
    exact hret hm hS d_Model_length_24
set_option maxHeartbeats 4000000 in
set_option maxRecDepth 100000 in
theorem c_Model_insert (l : Launch) (dC : Nat → ClassId) (dI : Nat → Nat → Nat) (dT : Nat → ClassId) (ad : Nat → Nat) (hD : ∀ u, va_D (xA ad 23) (mW dT ad u)) (a1 : Int32) (a2 : Int32) (a3 : Int32) (u : xS) (out : Int32) (u1 : xS) (hm : m_Model_insert a1 a2 a3 u = some (out, u1)) : Met l y_Model_insert (Cond.code y_Model_insert b_Model_insert 10 (some .int) :: xG) (xrm 4 96) (va_Pc [.ref (ad 0), .int a1, .int a2, .int a3] (xR (dC, dI) xCl (xT dT) (mW dT ad u))) (va_Qi (fun r9 (u9 : xS) => r9 = out ∧ u9 = u1) (fun u9 t => va_P (dC, dI) xCl (mW dT ad u9) t.heap) (xA ad 23)) 0 0 (xA ad 23) := by
  refine xm_rwi (Wd := mW dT ad) (cc := b_Model_insert) (maxL := 10) (by decide) rfl (Nat.le_of_ble_eq_true rfl) ?_
  intro p e s m args below meth c Q ls hx hb hml hts hown hK hN hP hl hret
  have hT : ∀ w ∈ xG, w.before args s = true := fun w h => hts w (List.mem_cons_of_mem _ h)
  have hown : s.vm.findClass "EventGraphTextModel" = some m.cls := hown
  have hl : lv_has ls 10 [(0, .ref (ad 0)), (1, .int a1), (2, .int a2), (3, .int a3)] := hl
  have hS : va_S (xA ad 23) s.heap s.heap [] := va_S.rf
  have hb157 : ∀ (b1 : Int32) (b2 : Int32) (b3 : Int32) (b7 : Int32) (t0 : Int32) (u : xS) (H : Heap) (locs : List Loc) (ls : Array Slot), lv_has ls 10 [(0, .ref (ad 0)), (1, .int b1), (2, .int b2), (3, .int b3), (7, .int b7)] → va_P (dC, dI) xCl (mW dT ad u) H → va_S (xA ad 23) s.heap H locs → m_Model_insert_b157 b1 b2 b3 b7 t0 u = some (out, u1) → W p l e (xrm 4 96) s m args below meth c H locs 0 0 Q (F0 m 157 ls [.int t0]) := by
    intro b1 b2 b3 b7 t0 u H locs ls hl hP hS hm
    unfold m_Model_insert_b157 at hm
    refine lv_istore (lv' := [(8, .int t0), (0, .ref (ad 0)), (1, .int b1), (2, .int b2), (3, .int b3), (7, .int b7)]) hx hb d_Model_insert_157 hl (Nat.le_of_ble_eq_true rfl) rfl (fun ls hl => ?_)
    refine lv_aload_n hx hb d_Model_insert_159 rfl (lv_at hl 1 rfl) ?_
    refine lv_iload_n hx hb d_Model_insert_160 rfl (lv_at hl 2 rfl) ?_
    refine lv_iconst (v := (1 : Int32)) hx hb d_Model_insert_161 (by decide) ?_
    refine lv_iload_n hx hb d_Model_insert_162 rfl (lv_at hl 3 rfl) ?_
    obtain ⟨r163, u163, h163, hm⟩ := xb2_some hm
    refine xc_iw (Wd := mW dT ad) (va_runV (C := "EventGraphTextModel") (As := [.int b1, .int (1 : Int32), .int b2]) (rest := []) ⟨hx, hb, hml, hown, hts⟩ (c_Model_event l dC dI dT ad hD b1 (1 : Int32) b2 u r163 u163 h163) (cwV 3 hts (xgV wd_670 wd_672 wds_23 wd_9 wd_673) rfl rfl rfl pd_Model_event ⟨Nat.le_of_ble_eq_true rfl, Nat.le_of_ble_eq_true rfl⟩) (xpreV (C := "EventGraphTextModel") (T := T_Model) (N := 26) hP hK hN rfl mW_X) rfl rfl hl.1 rfl (lv_room (Nat.le_of_ble_eq_true rfl)) d_Model_insert_163 ⟨Nat.le_of_ble_eq_true rfl, Nat.le_of_ble_eq_true rfl⟩) hS (fun _ h => h) (fun H locs hP hS => ?_)
    refine lv_istore (lv' := [(9, .int r163), (8, .int t0), (0, .ref (ad 0)), (1, .int b1), (2, .int b2), (3, .int b3), (7, .int b7)]) hx hb d_Model_insert_166 hl (Nat.le_of_ble_eq_true rfl) rfl (fun ls hl => ?_)
    refine lv_aload_n hx hb d_Model_insert_168 rfl (lv_at hl 2 rfl) ?_
    refine va_get (D := (dC, dI)) (ci := 8) (v := .ref (ad 5)) (C := "EventGraphTextModel") (T := T_Model) (N := 26) hx hb hT hin_Model hown hK hP 0 mW_X rfl 5 (by decide) (hT _ wd_563) (fun _ h9 => h9) rfl d_Model_insert_169 ?_
    refine lv_iload hx hb d_Model_insert_172 (lv_at hl 0 rfl) ?_
    refine lv_iload_n hx hb d_Model_insert_174 rfl (lv_at hl 5 rfl) ?_
    obtain ⟨g2, hm⟩ := xg_some hm
    obtain ⟨w175, hw175, hm⟩ := xlt_some hm
    refine va_iast hx hb hK hP (hD _) hS 5 0 mW_X_letter rfl g2 d_Model_insert_175 (fun H locs hP _ hS => ?_)
    replace hP : va_P (dC, dI) xCl (mW dT ad w175) H := xp_conv ((mW_s_X_letter).trans (congrArg (mW dT ad) hw175.symm)) hP
    refine lv_aload_n hx hb d_Model_insert_176 rfl (lv_at hl 2 rfl) ?_
    refine va_get (D := (dC, dI)) (ci := 8) (v := .ref (ad 8)) (C := "EventGraphTextModel") (T := T_Model) (N := 26) hx hb hT hin_Model hown hK hP 0 mW_X rfl 8 (by decide) (hT _ wd_566) (fun _ h9 => h9) rfl d_Model_insert_177 ?_
    refine lv_iload hx hb d_Model_insert_180 (lv_at hl 0 rfl) ?_
    refine lv_iload hx hb d_Model_insert_182 (lv_at hl 1 rfl) ?_
    obtain ⟨g3, hm⟩ := xg_some hm
    obtain ⟨w184, hw184, hm⟩ := xlt_some hm
    refine va_iast hx hb hK hP (hD _) hS 8 0 mW_X_place rfl g3 d_Model_insert_184 (fun H locs hP _ hS => ?_)
    replace hP : va_P (dC, dI) xCl (mW dT ad w184) H := xp_conv ((mW_s_X_place).trans (congrArg (mW dT ad) hw184.symm)) hP
    refine lv_aload_n hx hb d_Model_insert_185 rfl (lv_at hl 2 rfl) ?_
    refine va_get (D := (dC, dI)) (ci := 8) (v := .ref (ad 9)) (C := "EventGraphTextModel") (T := T_Model) (N := 26) hx hb hT hin_Model hown hK hP 0 mW_X rfl 9 (by decide) (hT _ wd_567) (fun _ h9 => h9) rfl d_Model_insert_186 ?_
    refine lv_iload hx hb d_Model_insert_189 (lv_at hl 0 rfl) ?_
    refine lv_iload hx hb d_Model_insert_191 (lv_at hl 6 rfl) ?_
    obtain ⟨w193, hw193, hm⟩ := xlt_some hm
    refine va_zast hx hb hK hP (hD _) hS 9 2 mW_X_right rfl g3 d_Model_insert_193 (fun H locs hP _ hS => ?_)
    replace hP : va_P (dC, dI) xCl (mW dT ad w193) H := xp_conv ((mW_s_X_right).trans (congrArg (mW dT ad) hw193.symm)) hP
    refine lv_aload_n hx hb d_Model_insert_194 rfl (lv_at hl 2 rfl) ?_
    refine va_get (D := (dC, dI)) (ci := 8) (v := .ref (ad 10)) (C := "EventGraphTextModel") (T := T_Model) (N := 26) hx hb hT hin_Model hown hK hP 0 mW_X rfl 10 (by decide) (hT _ wd_568) (fun _ h9 => h9) rfl d_Model_insert_195 ?_
    refine lv_iload hx hb d_Model_insert_198 (lv_at hl 0 rfl) ?_
    refine lv_aload_n hx hb d_Model_insert_200 rfl (lv_at hl 2 rfl) ?_
    refine va_get (D := (dC, dI)) (ci := 8) (v := .ref (ad 10)) (C := "EventGraphTextModel") (T := T_Model) (N := 26) hx hb hT hin_Model hown hK hP 0 mW_X rfl 10 (by decide) (hT _ wd_568) (fun _ h9 => h9) rfl d_Model_insert_201 ?_
    refine lv_iload hx hb d_Model_insert_204 (lv_at hl 1 rfl) ?_
    obtain ⟨g4, hm⟩ := xg_some hm
    refine va_iald hx hb hK hP 10 0 mW_X_depth rfl g4 d_Model_insert_206 ?_
    refine lv_iconst (v := (1 : Int32)) hx hb d_Model_insert_207 (by decide) ?_
    refine lv_iadd hx hb d_Model_insert_208 ?_
    obtain ⟨w209, hw209, hm⟩ := xlt_some hm
    refine va_iast hx hb hK hP (hD _) hS 10 0 mW_X_depth rfl g3 d_Model_insert_209 (fun H locs hP _ hS => ?_)
    replace hP : va_P (dC, dI) xCl (mW dT ad w209) H := xp_conv ((mW_s_X_depth).trans (congrArg (mW dT ad) hw209.symm)) hP
    refine lv_aload_n hx hb d_Model_insert_210 rfl (lv_at hl 2 rfl) ?_
    refine lv_iload hx hb d_Model_insert_211 (lv_at hl 0 rfl) ?_
    obtain ⟨u213, h213, hm⟩ := xb1_some hm
    refine xc_vw (Wd := mW dT ad) (va_runV (C := "EventGraphTextModel") (As := [.int r163]) (rest := []) ⟨hx, hb, hml, hown, hts⟩ (c_Model_intoRow l dC dI dT ad hD r163 w209 u213 h213) (cwV 1 hts (xgV wd_679 wd_681 wds_24 wd_9 wd_682) rfl rfl rfl pd_Model_intoRow ⟨Nat.le_of_ble_eq_true rfl, Nat.le_of_ble_eq_true rfl⟩) (xpreV (C := "EventGraphTextModel") (T := T_Model) (N := 26) hP hK hN rfl mW_X) rfl rfl hl.1 rfl (lv_room (Nat.le_of_ble_eq_true rfl)) d_Model_insert_213 ⟨Nat.le_of_ble_eq_true rfl, Nat.le_of_ble_eq_true rfl⟩) hS (fun _ h => h) (fun H locs hP hS => ?_)
    refine lv_aload_n hx hb d_Model_insert_216 rfl (lv_at hl 2 rfl) ?_
    refine va_get (D := (dC, dI)) (ci := 8) (v := .ref (ad 2)) (C := "EventGraphTextModel") (T := T_Model) (N := 26) hx hb hT hin_Model hown hK hP 0 mW_X rfl 2 (by decide) (hT _ wd_560) (fun _ h9 => h9) rfl d_Model_insert_217 ?_
    refine lv_iload hx hb d_Model_insert_220 (lv_at hl 0 rfl) ?_
    refine va_iald hx hb hK hP 2 0 mW_X_number rfl g2 d_Model_insert_222 ?_
    exact hret hm hP hS d_Model_insert_223
  have hs79 : ∀ (k79 : Int32 → Int32 → Int32 → Int64 → Int32 → Int32 → Int32 → xS → Option (Int32 × xS)) (hk79 : ∀ (b1 : Int32) (b2 : Int32) (b3 : Int32) (b4 : Int64) (b6 : Int32) (b7 : Int32) (b8 : Int32) (u : xS) (H : Heap) (locs : List Loc) (ls : Array Slot), lv_has ls 10 [(0, .ref (ad 0)), (1, .int b1), (2, .int b2), (3, .int b3), (4, .long b4), (6, .int b6), (7, .int b7), (8, .int b8)] → va_P (dC, dI) xCl (mW dT ad u) H → va_S (xA ad 23) s.heap H locs → k79 b1 b2 b3 b4 b6 b7 b8 u = some (out, u1) → W p l e (xrm 4 96) s m args below meth c H locs 0 0 Q (F0 m 79 ls [])), ∀ (b1 : Int32) (b2 : Int32) (b3 : Int32) (b4 : Int64) (b6 : Int32) (b7 : Int32) (b8 : Int32) (u : xS) (H : Heap) (locs : List Loc) (ls : Array Slot), lv_has ls 10 [(0, .ref (ad 0)), (1, .int b1), (2, .int b2), (3, .int b3), (4, .long b4), (6, .int b6), (7, .int b7), (8, .int b8)] → va_P (dC, dI) xCl (mW dT ad u) H → va_S (xA ad 23) s.heap H locs → m_Model_insert_s79 k79 b1 b2 b3 b4 b6 b7 b8 u = some (out, u1) → W p l e (xrm 4 96) s m args below meth c H locs 0 0 Q (F0 m 79 ls []) := by
    intro k79 hk79 b1 b2 b3 b4 b6 b7 b8 u H locs ls hl hP hS hm
    unfold m_Model_insert_s79 at hm
    refine lv_iload hx hb d_Model_insert_79 (lv_at hl 7 rfl) ?_
    refine lv_aload_n hx hb d_Model_insert_81 rfl (lv_at hl 0 rfl) ?_
    refine va_get (D := (dC, dI)) (ci := 8) (v := .int (xs_i u 0)) (C := "EventGraphTextModel") (T := T_Model) (N := 26) hx hb hT hin_Model hown hK hP 0 mW_X rfl 0 (by decide) (hT _ wd_558) (fun _ h9 => h9) rfl d_Model_insert_82 ?_
    refine lv_icmp_ge (tgt := 139) hx hb d_Model_insert_85 rfl (fun h => ?_) (fun h => ?_)
    · replace hm := xi_pos h hm
      refine lv_iload hx hb d_Model_insert_139 (lv_at hl 6 rfl) ?_
      refine lv_if_eq (tgt := 149) hx hb d_Model_insert_141 rfl (fun h => ?_) (fun h => ?_)
      · replace hm := xi_pos h hm
        refine lv_aload_n hx hb d_Model_insert_149 rfl (lv_at hl 0 rfl) ?_
        refine lv_lload hx hb d_Model_insert_150 (lv_at hl 4 rfl) ?_
        refine lv_iload hx hb d_Model_insert_152 (lv_at hl 5 rfl) ?_
        obtain ⟨r154, h154, hm⟩ := xb1_some hm
        refine xc_i (va_runV (C := "EventGraphTextModel") (As := [.long b4, .int b6]) (rest := []) ⟨hx, hb, hml, hown, hts⟩ (c_Model_behind l dC dI dT ad b4 b6 u r154 h154) (cwV 2 hts (xgV wd_666 wd_668 wds_22 wd_9 wd_669) rfl rfl rfl pd_Model_behind ⟨Nat.le_of_ble_eq_true rfl, Nat.le_of_ble_eq_true rfl⟩) (xpreV (C := "EventGraphTextModel") (T := T_Model) (N := 26) hP hK hN rfl mW_X) rfl rfl hl.1 rfl (lv_room (Nat.le_of_ble_eq_true rfl)) d_Model_insert_154 ⟨Nat.le_of_ble_eq_true rfl, Nat.le_of_ble_eq_true rfl⟩) hP hS (fun H locs hP hS => ?_)
        exact hb157 b1 b2 b3 b7 r154 u _ _ _ (lv_sub hl [0, 1, 2, 3, 6] rfl) hP hS hm
      · replace hm := xi_neg h hm
        refine lv_iload hx hb d_Model_insert_144 (lv_at hl 5 rfl) ?_
        refine lv_goto (tgt := 157) hx hb d_Model_insert_146 rfl ?_
        exact hb157 b1 b2 b3 b7 b6 u _ _ _ (lv_sub hl [0, 1, 2, 3, 6] rfl) hP hS hm
    · replace hm := xi_neg h hm
      refine lv_lload hx hb d_Model_insert_88 (lv_at hl 4 rfl) ?_
      refine lv_iload hx hb d_Model_insert_90 (lv_at hl 7 rfl) ?_
      obtain ⟨r92, h92, hm⟩ := xb1_some hm
      refine xc_i (va_runS (As := [.long b4, .int b8]) (rest := []) ⟨hx, hb, hml, hown, hts⟩ (c_Model_in l b4 b8 r92 h92) (va_cwS 2 hts (xgS wd_656 wd_657 wd_9 wd_658) rfl rfl rfl pd_Model_in.2 ⟨Nat.le_of_ble_eq_true rfl, Nat.le_of_ble_eq_true rfl⟩) xpreS0 rfl rfl hl.1 rfl (lv_room (Nat.le_of_ble_eq_true rfl)) d_Model_insert_92 ⟨Nat.le_of_ble_eq_true rfl, Nat.le_of_ble_eq_true rfl⟩) hP hS (fun H locs hP hS => ?_)
      refine lv_if_eq (tgt := 133) hx hb d_Model_insert_95 rfl (fun h => ?_) (fun h => ?_)
      · replace hm := xi_pos h hm
        refine lv_iinc (k := 7) (v := (b8 + (1 : Int32))) (lv' := [(8, .int (b8 + (1 : Int32))), (0, .ref (ad 0)), (1, .int b1), (2, .int b2), (3, .int b3), (4, .long b4), (6, .int b6), (7, .int b7)]) hx hb d_Model_insert_133 hl rfl rfl (Nat.le_of_ble_eq_true rfl) rfl (fun ls hl => ?_)
        refine lv_goto (tgt := 79) hx hb d_Model_insert_136 rfl ?_
        exact hk79 b1 b2 b3 b4 b6 b7 (b8 + (1 : Int32)) u _ _ _ (lv_sub hl [1, 2, 3, 4, 5, 6, 7, 0] rfl) hP hS hm
      · replace hm := xi_neg h hm
        refine lv_aload_n hx hb d_Model_insert_98 rfl (lv_at hl 0 rfl) ?_
        refine va_get (D := (dC, dI)) (ci := 8) (v := .ref (ad 3)) (C := "EventGraphTextModel") (T := T_Model) (N := 26) hx hb hT hin_Model hown hK hP 0 mW_X rfl 3 (by decide) (hT _ wd_561) (fun _ h9 => h9) rfl d_Model_insert_99 ?_
        refine lv_iload hx hb d_Model_insert_102 (lv_at hl 7 rfl) ?_
        obtain ⟨g5, hm⟩ := xg_some hm
        refine va_zald hx hb hK hP 3 2 mW_X_inserts rfl g5 d_Model_insert_104 ?_
        refine lv_if_eq (tgt := 133) hx hb d_Model_insert_105 rfl (fun h => ?_) (fun h => ?_)
        · replace hm := xi_pos h hm
          refine lv_iinc (k := 7) (v := (b8 + (1 : Int32))) (lv' := [(8, .int (b8 + (1 : Int32))), (0, .ref (ad 0)), (1, .int b1), (2, .int b2), (3, .int b3), (4, .long b4), (6, .int b6), (7, .int b7)]) hx hb d_Model_insert_133 hl rfl rfl (Nat.le_of_ble_eq_true rfl) rfl (fun ls hl => ?_)
          refine lv_goto (tgt := 79) hx hb d_Model_insert_136 rfl ?_
          exact hk79 b1 b2 b3 b4 b6 b7 (b8 + (1 : Int32)) u _ _ _ (lv_sub hl [1, 2, 3, 4, 5, 6, 7, 0] rfl) hP hS hm
        · replace hm := xi_neg h hm
          refine lv_aload_n hx hb d_Model_insert_108 rfl (lv_at hl 0 rfl) ?_
          refine va_get (D := (dC, dI)) (ci := 8) (v := .ref (ad 9)) (C := "EventGraphTextModel") (T := T_Model) (N := 26) hx hb hT hin_Model hown hK hP 0 mW_X rfl 9 (by decide) (hT _ wd_567) (fun _ h9 => h9) rfl d_Model_insert_109 ?_
          refine lv_iload hx hb d_Model_insert_112 (lv_at hl 7 rfl) ?_
          obtain ⟨g6, hm⟩ := xg_some hm
          refine va_zald hx hb hK hP 9 2 mW_X_right rfl g6 d_Model_insert_114 ?_
          refine lv_if_eq (tgt := 133) hx hb d_Model_insert_115 rfl (fun h => ?_) (fun h => ?_)
          · replace hm := xi_pos h hm
            refine lv_iinc (k := 7) (v := (b8 + (1 : Int32))) (lv' := [(8, .int (b8 + (1 : Int32))), (0, .ref (ad 0)), (1, .int b1), (2, .int b2), (3, .int b3), (4, .long b4), (6, .int b6), (7, .int b7)]) hx hb d_Model_insert_133 hl rfl rfl (Nat.le_of_ble_eq_true rfl) rfl (fun ls hl => ?_)
            refine lv_goto (tgt := 79) hx hb d_Model_insert_136 rfl ?_
            exact hk79 b1 b2 b3 b4 b6 b7 (b8 + (1 : Int32)) u _ _ _ (lv_sub hl [1, 2, 3, 4, 5, 6, 7, 0] rfl) hP hS hm
          · replace hm := xi_neg h hm
            refine lv_aload_n hx hb d_Model_insert_118 rfl (lv_at hl 0 rfl) ?_
            refine va_get (D := (dC, dI)) (ci := 8) (v := .ref (ad 8)) (C := "EventGraphTextModel") (T := T_Model) (N := 26) hx hb hT hin_Model hown hK hP 0 mW_X rfl 8 (by decide) (hT _ wd_566) (fun _ h9 => h9) rfl d_Model_insert_119 ?_
            refine lv_iload hx hb d_Model_insert_122 (lv_at hl 7 rfl) ?_
            refine va_iald hx hb hK hP 8 0 mW_X_place rfl g6 d_Model_insert_124 ?_
            refine lv_iload hx hb d_Model_insert_125 (lv_at hl 5 rfl) ?_
            refine lv_icmp_ne (tgt := 133) hx hb d_Model_insert_127 rfl (fun h => ?_) (fun h => ?_)
            · replace hm := xi_neg h hm
              refine lv_iinc (k := 7) (v := (b8 + (1 : Int32))) (lv' := [(8, .int (b8 + (1 : Int32))), (0, .ref (ad 0)), (1, .int b1), (2, .int b2), (3, .int b3), (4, .long b4), (6, .int b6), (7, .int b7)]) hx hb d_Model_insert_133 hl rfl rfl (Nat.le_of_ble_eq_true rfl) rfl (fun ls hl => ?_)
              refine lv_goto (tgt := 79) hx hb d_Model_insert_136 rfl ?_
              exact hk79 b1 b2 b3 b4 b6 b7 (b8 + (1 : Int32)) u _ _ _ (lv_sub hl [1, 2, 3, 4, 5, 6, 7, 0] rfl) hP hS hm
            · replace hm := xi_pos h hm
              refine lv_iconst (v := (0 : Int32)) hx hb d_Model_insert_130 (by decide) ?_
              refine lv_istore (lv' := [(7, .int (0 : Int32)), (0, .ref (ad 0)), (1, .int b1), (2, .int b2), (3, .int b3), (4, .long b4), (6, .int b6), (8, .int b8)]) hx hb d_Model_insert_131 hl (Nat.le_of_ble_eq_true rfl) rfl (fun ls hl => ?_)
              refine lv_iinc (k := 7) (v := (b8 + (1 : Int32))) (lv' := [(8, .int (b8 + (1 : Int32))), (7, .int (0 : Int32)), (0, .ref (ad 0)), (1, .int b1), (2, .int b2), (3, .int b3), (4, .long b4), (6, .int b6)]) hx hb d_Model_insert_133 hl rfl rfl (Nat.le_of_ble_eq_true rfl) rfl (fun ls hl => ?_)
              refine lv_goto (tgt := 79) hx hb d_Model_insert_136 rfl ?_
              exact hk79 b1 b2 b3 b4 b6 (0 : Int32) (b8 + (1 : Int32)) u _ _ _ (lv_sub hl [2, 3, 4, 5, 6, 7, 1, 0] rfl) hP hS hm
  have hl79 : ∀ (fu : Nat), ∀ (b1 : Int32) (b2 : Int32) (b3 : Int32) (b4 : Int64) (b6 : Int32) (b7 : Int32) (b8 : Int32) (u : xS) (H : Heap) (locs : List Loc) (ls : Array Slot), lv_has ls 10 [(0, .ref (ad 0)), (1, .int b1), (2, .int b2), (3, .int b3), (4, .long b4), (6, .int b6), (7, .int b7), (8, .int b8)] → va_P (dC, dI) xCl (mW dT ad u) H → va_S (xA ad 23) s.heap H locs → m_Model_insert_l79 fu b1 b2 b3 b4 b6 b7 b8 u = some (out, u1) → W p l e (xrm 4 96) s m args below meth c H locs 0 0 Q (F0 m 79 ls []) := by
    intro fu
    induction fu with
    | zero => intro b1 b2 b3 b4 b6 b7 b8 u H locs ls hl hP hS hm; exact absurd hm (fun z => by cases z)
    | succ n ih => intro b1 b2 b3 b4 b6 b7 b8 u H locs ls hl hP hS hm; exact hs79 (m_Model_insert_l79 n) ih b1 b2 b3 b4 b6 b7 b8 u H locs ls hl hP hS hm
  unfold m_Model_insert at hm
  refine lv_iload_n hx hb d_Model_insert_0 rfl (lv_at hl 1 rfl) ?_
  obtain ⟨r1, h1, hm⟩ := xb1_some hm
  refine xc_i (va_runS (As := [.int a1]) (rest := []) ⟨hx, hb, hml, hown, hts⟩ (c_Model_wrong l a1 r1 h1) (va_cwS 1 hts (xgS wd_641 wd_642 wd_9 wd_643) rfl rfl rfl pd_Model_wrong.2 ⟨Nat.le_of_ble_eq_true rfl, Nat.le_of_ble_eq_true rfl⟩) xpreS0 rfl rfl hl.1 rfl (lv_room (Nat.le_of_ble_eq_true rfl)) d_Model_insert_1 ⟨Nat.le_of_ble_eq_true rfl, Nat.le_of_ble_eq_true rfl⟩) hP hS (fun H locs hP hS => ?_)
  refine lv_if_ne (tgt := 41) hx hb d_Model_insert_4 rfl (fun h => ?_) (fun h => ?_)
  · replace hm := xi_neg h hm
    refine lv_sipush (v := (-1000 : Int32)) hx hb d_Model_insert_41 (by decide) ?_
    exact hret hm hP hS d_Model_insert_44
  · replace hm := xi_pos h hm
    refine lv_iload_n hx hb d_Model_insert_7 rfl (lv_at hl 3 rfl) ?_
    refine lv_bipush (v := (32 : Int32)) hx hb d_Model_insert_8 (by decide) ?_
    refine lv_icmp_lt (tgt := 41) hx hb d_Model_insert_10 rfl (fun h => ?_) (fun h => ?_)
    · replace hm := xi_pos h hm
      refine lv_sipush (v := (-1000 : Int32)) hx hb d_Model_insert_41 (by decide) ?_
      exact hret hm hP hS d_Model_insert_44
    · replace hm := xi_neg h hm
      refine lv_iload_n hx hb d_Model_insert_13 rfl (lv_at hl 3 rfl) ?_
      refine lv_bipush (v := (126 : Int32)) hx hb d_Model_insert_14 (by decide) ?_
      refine lv_icmp_gt (tgt := 41) hx hb d_Model_insert_16 rfl (fun h => ?_) (fun h => ?_)
      · replace hm := xi_pos h hm
        refine lv_sipush (v := (-1000 : Int32)) hx hb d_Model_insert_41 (by decide) ?_
        exact hret hm hP hS d_Model_insert_44
      · replace hm := xi_neg h hm
        refine lv_aload_n hx hb d_Model_insert_19 rfl (lv_at hl 0 rfl) ?_
        refine va_get (D := (dC, dI)) (ci := 8) (v := .int (xs_i u 0)) (C := "EventGraphTextModel") (T := T_Model) (N := 26) hx hb hT hin_Model hown hK hP 0 mW_X rfl 0 (by decide) (hT _ wd_558) (fun _ h9 => h9) rfl d_Model_insert_20 ?_
        refine lv_bipush (v := (40 : Int32)) hx hb d_Model_insert_23 (by decide) ?_
        refine lv_icmp_ge (tgt := 41) hx hb d_Model_insert_25 rfl (fun h => ?_) (fun h => ?_)
        · replace hm := xi_pos h hm
          refine lv_sipush (v := (-1000 : Int32)) hx hb d_Model_insert_41 (by decide) ?_
          exact hret hm hP hS d_Model_insert_44
        · replace hm := xi_neg h hm
          refine lv_iload_n hx hb d_Model_insert_28 rfl (lv_at hl 2 rfl) ?_
          refine lv_if_lt (tgt := 41) hx hb d_Model_insert_29 rfl (fun h => ?_) (fun h => ?_)
          · replace hm := xi_pos h hm
            refine lv_sipush (v := (-1000 : Int32)) hx hb d_Model_insert_41 (by decide) ?_
            exact hret hm hP hS d_Model_insert_44
          · replace hm := xi_neg h hm
            refine lv_iload_n hx hb d_Model_insert_32 rfl (lv_at hl 2 rfl) ?_
            refine lv_aload_n hx hb d_Model_insert_33 rfl (lv_at hl 0 rfl) ?_
            refine lv_iload_n hx hb d_Model_insert_34 rfl (lv_at hl 1 rfl) ?_
            obtain ⟨r35, h35, hm⟩ := xb1_some hm
            refine xc_i (va_runV (C := "EventGraphTextModel") (As := [.int a1]) (rest := [.int a2]) ⟨hx, hb, hml, hown, hts⟩ (c_Model_length l dC dI dT ad a1 u r35 h35) (cwV 1 hts (xgV wd_644 wd_645 wd_646 wd_9 wd_647) rfl rfl rfl pd_Model_length ⟨Nat.le_of_ble_eq_true rfl, Nat.le_of_ble_eq_true rfl⟩) (xpreV (C := "EventGraphTextModel") (T := T_Model) (N := 26) hP hK hN rfl mW_X) rfl rfl hl.1 rfl (lv_room (Nat.le_of_ble_eq_true rfl)) d_Model_insert_35 ⟨Nat.le_of_ble_eq_true rfl, Nat.le_of_ble_eq_true rfl⟩) hP hS (fun H locs hP hS => ?_)
            refine lv_icmp_le (tgt := 45) hx hb d_Model_insert_38 rfl (fun h => ?_) (fun h => ?_)
            · replace hm := xi_pos h hm
              refine lv_aload_n hx hb d_Model_insert_45 rfl (lv_at hl 0 rfl) ?_
              refine va_get (D := (dC, dI)) (ci := 8) (v := .ref (ad 12)) (C := "EventGraphTextModel") (T := T_Model) (N := 26) hx hb hT hin_Model hown hK hP 0 mW_X rfl 13 (by decide) (hT _ wd_571) (fun _ h9 => h9) rfl d_Model_insert_46 ?_
              refine lv_iload_n hx hb d_Model_insert_49 rfl (lv_at hl 1 rfl) ?_
              obtain ⟨g1, hm⟩ := xg_some hm
              refine va_lald hx hb hK hP 12 1 mW_X_graph rfl g1 d_Model_insert_50 ?_
              refine lv_lstore (lv' := [(4, .long (xs_L u 2 a1.toNatClampNeg)), (0, .ref (ad 0)), (1, .int a1), (2, .int a2), (3, .int a3)]) hx hb d_Model_insert_51 hl (Nat.le_of_ble_eq_true rfl) rfl (fun ls hl => ?_)
              refine lv_iload_n hx hb d_Model_insert_53 rfl (lv_at hl 3 rfl) ?_
              refine lv_if_ne (tgt := 62) hx hb d_Model_insert_54 rfl (fun h => ?_) (fun h => ?_)
              · replace hm := xi_neg h hm
                refine lv_aload_n hx hb d_Model_insert_62 rfl (lv_at hl 1 rfl) ?_
                refine lv_lload hx hb d_Model_insert_63 (lv_at hl 0 rfl) ?_
                refine lv_iload_n hx hb d_Model_insert_65 rfl (lv_at hl 3 rfl) ?_
                refine lv_iconst (v := (1 : Int32)) hx hb d_Model_insert_66 (by decide) ?_
                refine lv_isub hx hb d_Model_insert_67 ?_
                obtain ⟨r68, h68, hm⟩ := xb1_some hm
                refine xc_i (va_runV (C := "EventGraphTextModel") (As := [.long (xs_L u 2 a1.toNatClampNeg), .int (a2 - (1 : Int32))]) (rest := []) ⟨hx, hb, hml, hown, hts⟩ (c_Model_shownAt l dC dI dT ad (xs_L u 2 a1.toNatClampNeg) (a2 - (1 : Int32)) u r68 h68) (cwV 2 hts (xgV wd_662 wd_664 wds_21 wd_9 wd_665) rfl rfl rfl pd_Model_shownAt ⟨Nat.le_of_ble_eq_true rfl, Nat.le_of_ble_eq_true rfl⟩) (xpreV (C := "EventGraphTextModel") (T := T_Model) (N := 26) hP hK hN rfl mW_X) rfl rfl hl.1 rfl (lv_room (Nat.le_of_ble_eq_true rfl)) d_Model_insert_68 ⟨Nat.le_of_ble_eq_true rfl, Nat.le_of_ble_eq_true rfl⟩) hP hS (fun H locs hP hS => ?_)
                refine lv_istore (lv' := [(6, .int r68), (4, .long (xs_L u 2 a1.toNatClampNeg)), (0, .ref (ad 0)), (1, .int a1), (2, .int a2), (3, .int a3)]) hx hb d_Model_insert_71 hl (Nat.le_of_ble_eq_true rfl) rfl (fun ls hl => ?_)
                refine lv_iconst (v := (1 : Int32)) hx hb d_Model_insert_73 (by decide) ?_
                refine lv_istore (lv' := [(7, .int (1 : Int32)), (6, .int r68), (4, .long (xs_L u 2 a1.toNatClampNeg)), (0, .ref (ad 0)), (1, .int a1), (2, .int a2), (3, .int a3)]) hx hb d_Model_insert_74 hl (Nat.le_of_ble_eq_true rfl) rfl (fun ls hl => ?_)
                refine lv_iconst (v := (0 : Int32)) hx hb d_Model_insert_76 (by decide) ?_
                refine lv_istore (lv' := [(8, .int (0 : Int32)), (7, .int (1 : Int32)), (6, .int r68), (4, .long (xs_L u 2 a1.toNatClampNeg)), (0, .ref (ad 0)), (1, .int a1), (2, .int a2), (3, .int a3)]) hx hb d_Model_insert_77 hl (Nat.le_of_ble_eq_true rfl) rfl (fun ls hl => ?_)
                exact hl79 xFU a1 a2 a3 (xs_L u 2 a1.toNatClampNeg) r68 (1 : Int32) (0 : Int32) u _ _ _ (lv_sub hl [4, 5, 6, 7, 3, 2, 1, 0] rfl) hP hS hm
              · replace hm := xi_pos h hm
                refine lv_bipush (v := (40 : Int32)) hx hb d_Model_insert_57 (by decide) ?_
                refine lv_goto (tgt := 71) hx hb d_Model_insert_59 rfl ?_
                refine lv_istore (lv' := [(6, .int (40 : Int32)), (4, .long (xs_L u 2 a1.toNatClampNeg)), (0, .ref (ad 0)), (1, .int a1), (2, .int a2), (3, .int a3)]) hx hb d_Model_insert_71 hl (Nat.le_of_ble_eq_true rfl) rfl (fun ls hl => ?_)
                refine lv_iconst (v := (1 : Int32)) hx hb d_Model_insert_73 (by decide) ?_
                refine lv_istore (lv' := [(7, .int (1 : Int32)), (6, .int (40 : Int32)), (4, .long (xs_L u 2 a1.toNatClampNeg)), (0, .ref (ad 0)), (1, .int a1), (2, .int a2), (3, .int a3)]) hx hb d_Model_insert_74 hl (Nat.le_of_ble_eq_true rfl) rfl (fun ls hl => ?_)
                refine lv_iconst (v := (0 : Int32)) hx hb d_Model_insert_76 (by decide) ?_
                refine lv_istore (lv' := [(8, .int (0 : Int32)), (7, .int (1 : Int32)), (6, .int (40 : Int32)), (4, .long (xs_L u 2 a1.toNatClampNeg)), (0, .ref (ad 0)), (1, .int a1), (2, .int a2), (3, .int a3)]) hx hb d_Model_insert_77 hl (Nat.le_of_ble_eq_true rfl) rfl (fun ls hl => ?_)
                exact hl79 xFU a1 a2 a3 (xs_L u 2 a1.toNatClampNeg) (40 : Int32) (1 : Int32) (0 : Int32) u _ _ _ (lv_sub hl [4, 5, 6, 7, 3, 2, 1, 0] rfl) hP hS hm
            · replace hm := xi_neg h hm
              refine lv_sipush (v := (-1000 : Int32)) hx hb d_Model_insert_41 (by decide) ?_
              exact hret hm hP hS d_Model_insert_44
