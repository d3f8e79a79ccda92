set_option maxHeartbeats 4000000 in
set_option maxRecDepth 100000 in
theorem c_CharacterList_indexIn (l : Launch) (dC : Nat → ClassId) (dI : Nat → Nat → Nat) (dT : Nat → ClassId) (ad : Nat → Nat) (a1 : Int64) (a3 : Int32) (u : xS) (out : Int32) (hm : m_CharacterList_indexIn a1 a3 u = some out) : Met l y_CharacterList_indexIn (Cond.code y_CharacterList_indexIn b_CharacterList_indexIn 6 (some .int) :: xG) (xrm 2 42) (va_Pc [.ref (ad 10), .long a1, .int a3] (xR (dC, dI) xCl (xT dT) (cW dT ad u))) (va_Qi (fun r9 (_ : Unit) => r9 = out) (fun _ _ => True) xN) 0 0 xN := by
  refine xm_roi (cc := b_CharacterList_indexIn) (maxL := 6) (by decide) rfl (Nat.le_of_ble_eq_true rfl) ?_
  intro p e s m args below meth c Q ls hx hb hml hts hown hK hN hP hl hret
  have hT : ∀ w ∈ xG, w.before args s = true := fun w h => hts w (List.mem_cons_of_mem _ h)
  have hown : s.vm.findClass "EventGraphText$CharacterList" = some m.cls := hown
  have hl : lv_has ls 6 [(0, .ref (ad 10)), (1, .long a1), (3, .int a3)] := hl
  have hS : va_S xN s.heap s.heap [] := va_S.rf
  have hs6 : ∀ (k6 : Int64 → Int32 → Int32 → Int32 → xS → Option Int32) (hk6 : ∀ (b1 : Int64) (b3 : Int32) (b4 : Int32) (b5 : Int32) (H : Heap) (locs : List Loc) (ls : Array Slot), lv_has ls 6 [(0, .ref (ad 10)), (1, .long b1), (3, .int b3), (4, .int b4), (5, .int b5)] → va_P (dC, dI) xCl (cW dT ad u) H → va_S xN s.heap H locs → k6 b1 b3 b4 b5 u = some out → W p l e (xrm 2 42) s m args below meth c H locs 0 0 Q (F0 m 6 ls [])), ∀ (b1 : Int64) (b3 : Int32) (b4 : Int32) (b5 : Int32) (H : Heap) (locs : List Loc) (ls : Array Slot), lv_has ls 6 [(0, .ref (ad 10)), (1, .long b1), (3, .int b3), (4, .int b4), (5, .int b5)] → va_P (dC, dI) xCl (cW dT ad u) H → va_S xN s.heap H locs → m_CharacterList_indexIn_s6 k6 b1 b3 b4 b5 u = some out → W p l e (xrm 2 42) s m args below meth c H locs 0 0 Q (F0 m 6 ls []) := by
    intro k6 hk6 b1 b3 b4 b5 H locs ls hl hP hS hm
    unfold m_CharacterList_indexIn_s6 at hm
    refine lv_iload hx hb d_CharacterList_indexIn_6 (lv_at hl 4 rfl) ?_
    refine lv_aload_n hx hb d_CharacterList_indexIn_8 rfl (lv_at hl 0 rfl) ?_
    refine va_get (D := (dC, dI)) (ci := 0) (v := .int (xs_i u 1)) (C := "EventGraphText$CharacterList") (T := T_CharacterList) (N := 8) hx hb hT hin_CharacterList hown hK hP 10 cW_L rfl 7 (by decide) (hT _ wd_68) (fun _ h9 => h9) rfl d_CharacterList_indexIn_9 ?_
    refine lv_icmp_ge (tgt := 49) hx hb d_CharacterList_indexIn_12 rfl (fun h => ?_) (fun h => ?_)
    · replace hm := xi_pos h hm
      refine lv_iload hx hb d_CharacterList_indexIn_49 (lv_at hl 3 rfl) ?_
      exact hret hm hS d_CharacterList_indexIn_51
    · replace hm := xi_neg h hm
      refine lv_aload_n hx hb d_CharacterList_indexIn_15 rfl (lv_at hl 0 rfl) ?_
      refine va_get (D := (dC, dI)) (ci := 0) (v := .ref (ad 11)) (C := "EventGraphText$CharacterList") (T := T_CharacterList) (N := 8) hx hb hT hin_CharacterList hown hK hP 10 cW_L rfl 0 (by decide) (hT _ wd_61) (fun _ h9 => h9) rfl d_CharacterList_indexIn_16 ?_
      refine lv_iload hx hb d_CharacterList_indexIn_19 (lv_at hl 4 rfl) ?_
      obtain ⟨g1, hm⟩ := xg_some hm
      refine va_iald hx hb hK hP 11 0 cW_L_order rfl g1 d_CharacterList_indexIn_21 ?_
      refine lv_iload_n hx hb d_CharacterList_indexIn_22 rfl (lv_at hl 2 rfl) ?_
      refine lv_icmp_eq (tgt := 49) hx hb d_CharacterList_indexIn_23 rfl (fun h => ?_) (fun h => ?_)
      · replace hm := xi_pos h hm
        refine lv_iload hx hb d_CharacterList_indexIn_49 (lv_at hl 3 rfl) ?_
        exact hret hm hS d_CharacterList_indexIn_51
      · replace hm := xi_neg h hm
        refine lv_lload_n hx hb d_CharacterList_indexIn_26 rfl (lv_at hl 1 rfl) ?_
        refine lv_aload_n hx hb d_CharacterList_indexIn_27 rfl (lv_at hl 0 rfl) ?_
        refine va_get (D := (dC, dI)) (ci := 0) (v := .ref (ad 11)) (C := "EventGraphText$CharacterList") (T := T_CharacterList) (N := 8) hx hb hT hin_CharacterList hown hK hP 10 cW_L rfl 0 (by decide) (hT _ wd_61) (fun _ h9 => h9) rfl d_CharacterList_indexIn_28 ?_
        refine lv_iload hx hb d_CharacterList_indexIn_31 (lv_at hl 4 rfl) ?_
        refine va_iald hx hb hK hP 11 0 cW_L_order rfl g1 d_CharacterList_indexIn_33 ?_
        obtain ⟨r34, h34, hm⟩ := xb1_some hm
        refine xc_i (va_runSN (As := [.long b1, .int (xs_I u 6 b5.toNatClampNeg)]) (rest := []) ⟨hx, hb, hml, hown, hts⟩ (c_Text_has l b1 (xs_I u 6 b5.toNatClampNeg) r34 h34) ⟨va_cnB 2 hts (xg0 wd_217) rfl rfl rfl (nmm_7 hN) (hT _ wd_1) pd_Text_has.2 ⟨Nat.le_of_ble_eq_true rfl, Nat.le_of_ble_eq_true rfl⟩, hT _ wd_216, trivial⟩ xpreS0 rfl rfl hl.1 rfl (lv_room (Nat.le_of_ble_eq_true rfl)) d_CharacterList_indexIn_34 ⟨Nat.le_of_ble_eq_true rfl, Nat.le_of_ble_eq_true rfl⟩) hP hS (fun H locs hP hS => ?_)
        refine lv_if_eq (tgt := 43) hx hb d_CharacterList_indexIn_37 rfl (fun h => ?_) (fun h => ?_)
        · replace hm := xi_pos h hm
          refine lv_iinc (k := 4) (v := (b5 + (1 : Int32))) (lv' := [(5, .int (b5 + (1 : Int32))), (0, .ref (ad 10)), (1, .long b1), (3, .int b3), (4, .int b4)]) hx hb d_CharacterList_indexIn_43 hl rfl rfl (Nat.le_of_ble_eq_true rfl) rfl (fun ls hl => ?_)
          refine lv_goto (tgt := 6) hx hb d_CharacterList_indexIn_46 rfl ?_
          exact hk6 b1 b3 b4 (b5 + (1 : Int32)) _ _ _ (lv_sub hl [1, 2, 3, 4, 0] rfl) hP hS hm
        · replace hm := xi_neg h hm
          refine lv_iinc (k := 3) (v := (b4 + (1 : Int32))) (lv' := [(4, .int (b4 + (1 : Int32))), (0, .ref (ad 10)), (1, .long b1), (3, .int b3), (5, .int b5)]) hx hb d_CharacterList_indexIn_40 hl rfl rfl (Nat.le_of_ble_eq_true rfl) rfl (fun ls hl => ?_)
          refine lv_iinc (k := 4) (v := (b5 + (1 : Int32))) (lv' := [(5, .int (b5 + (1 : Int32))), (4, .int (b4 + (1 : Int32))), (0, .ref (ad 10)), (1, .long b1), (3, .int b3)]) hx hb d_CharacterList_indexIn_43 hl rfl rfl (Nat.le_of_ble_eq_true rfl) rfl (fun ls hl => ?_)
          refine lv_goto (tgt := 6) hx hb d_CharacterList_indexIn_46 rfl ?_
          exact hk6 b1 b3 (b4 + (1 : Int32)) (b5 + (1 : Int32)) _ _ _ (lv_sub hl [2, 3, 4, 1, 0] rfl) hP hS hm
  have hl6 : ∀ (fu : Nat), ∀ (b1 : Int64) (b3 : Int32) (b4 : Int32) (b5 : Int32) (H : Heap) (locs : List Loc) (ls : Array Slot), lv_has ls 6 [(0, .ref (ad 10)), (1, .long b1), (3, .int b3), (4, .int b4), (5, .int b5)] → va_P (dC, dI) xCl (cW dT ad u) H → va_S xN s.heap H locs → m_CharacterList_indexIn_l6 fu b1 b3 b4 b5 u = some out → W p l e (xrm 2 42) s m args below meth c H locs 0 0 Q (F0 m 6 ls []) := by
    intro fu
    induction fu with
    | zero => intro b1 b3 b4 b5 H locs ls hl hP hS hm; exact absurd hm (fun z => by cases z)
    | succ n ih => intro b1 b3 b4 b5 H locs ls hl hP hS hm; exact hs6 (m_CharacterList_indexIn_l6 n) ih b1 b3 b4 b5 H locs ls hl hP hS hm
  unfold m_CharacterList_indexIn at hm
  refine lv_iconst (v := (0 : Int32)) hx hb d_CharacterList_indexIn_0 (by decide) ?_
  refine lv_istore (lv' := [(4, .int (0 : Int32)), (0, .ref (ad 10)), (1, .long a1), (3, .int a3)]) hx hb d_CharacterList_indexIn_1 hl (Nat.le_of_ble_eq_true rfl) rfl (fun ls hl => ?_)
  refine lv_iconst (v := (0 : Int32)) hx hb d_CharacterList_indexIn_3 (by decide) ?_
  refine lv_istore (lv' := [(5, .int (0 : Int32)), (4, .int (0 : Int32)), (0, .ref (ad 10)), (1, .long a1), (3, .int a3)]) hx hb d_CharacterList_indexIn_4 hl (Nat.le_of_ble_eq_true rfl) rfl (fun ls hl => ?_)
  exact hl6 xFU a1 a3 (0 : Int32) (0 : Int32) _ _ _ (lv_sub hl [2, 3, 4, 1, 0] rfl) hP hS hm
set_option maxHeartbeats 4000000 in
set_option maxRecDepth 100000 in
theorem c_CharacterList_takenBy (l : Launch) (dC : Nat → ClassId) (dI : Nat → Nat → Nat) (dT : Nat → ClassId) (ad : Nat → Nat) (a1 : Int32) (u : xS) (out : Int32) (hm : m_CharacterList_takenBy a1 u = some out) : Met l y_CharacterList_takenBy (Cond.code y_CharacterList_takenBy b_CharacterList_takenBy 2 (some .int) :: xG) (xrm 0 0) (va_Pc [.ref (ad 10), .int a1] (xR (dC, dI) xCl (xT dT) (cW dT ad u))) (va_Qi (fun r9 (_ : Unit) => r9 = out) (fun _ _ => True) xN) 0 0 xN := by
  refine xm_roi (cc := b_CharacterList_takenBy) (maxL := 2) (by decide) rfl (Nat.le_of_ble_eq_true rfl) ?_
  intro p e s m args below meth c Q ls hx hb hml hts hown hK hN hP hl hret
  have hT : ∀ w ∈ xG, w.before args s = true := fun w h => hts w (List.mem_cons_of_mem _ h)
  have hown : s.vm.findClass "EventGraphText$CharacterList" = some m.cls := hown
  have hl : lv_has ls 2 [(0, .ref (ad 10)), (1, .int a1)] := hl
  have hS : va_S xN s.heap s.heap [] := va_S.rf
  unfold m_CharacterList_takenBy at hm
  refine lv_aload_n hx hb d_CharacterList_takenBy_0 rfl (lv_at hl 0 rfl) ?_
  refine va_get (D := (dC, dI)) (ci := 0) (v := .ref (ad 15)) (C := "EventGraphText$CharacterList") (T := T_CharacterList) (N := 8) hx hb hT hin_CharacterList hown hK hP 10 cW_L rfl 4 (by decide) (hT _ wd_65) (fun _ h9 => h9) rfl d_CharacterList_takenBy_1 ?_
  refine lv_iload_n hx hb d_CharacterList_takenBy_4 rfl (lv_at hl 1 rfl) ?_
  obtain ⟨g1, hm⟩ := xg_some hm
  refine va_iald hx hb hK hP 15 0 cW_L_taken rfl g1 d_CharacterList_takenBy_5 ?_
  exact hret hm hS d_CharacterList_takenBy_6
set_option maxHeartbeats 4000000 in
set_option maxRecDepth 100000 in
theorem c_Merge_removal (l : Launch) (dC : Nat → ClassId) (dI : Nat → Nat → Nat) (dT : Nat → ClassId) (ad : Nat → Nat) (a1 : Int64) (a3 : Int32) (u : xS) (out : Int32) (hm : m_Merge_removal a1 a3 u = some out) : Met l y_Merge_removal (Cond.code y_Merge_removal b_Merge_removal 6 (some .int) :: xG) (xrm 3 67) (va_Pc [.ref (ad 10), .long a1, .int a3] (xR (dC, dI) xCl (xT dT) (cW dT ad u))) (va_Qi (fun r9 (_ : Unit) => r9 = out) (fun _ _ => True) xN) 0 0 xN := by
  refine xm_roi (cc := b_Merge_removal) (maxL := 6) (by decide) rfl (Nat.le_of_ble_eq_true rfl) ?_
  intro p e s m args below meth c Q ls hx hb hml hts hown hK hN hP hl hret
  have hT : ∀ w ∈ xG, w.before args s = true := fun w h => hts w (List.mem_cons_of_mem _ h)
  have hown : s.vm.findClass "EventGraphText$Merge" = some m.cls := hown
  have hl : lv_has ls 6 [(0, .ref (ad 10)), (1, .long a1), (3, .int a3)] := hl
  have hS : va_S xN s.heap s.heap [] := va_S.rf
  unfold m_Merge_removal at hm
  refine lv_aload_n hx hb d_Merge_removal_0 rfl (lv_at hl 0 rfl) ?_
  refine lv_lload_n hx hb d_Merge_removal_1 rfl (lv_at hl 1 rfl) ?_
  obtain ⟨r2, h2, hm⟩ := xb1_some hm
  refine xc_l (va_runV (C := "EventGraphText$CharacterList") (As := [.long a1]) (rest := []) ⟨hx, hb, hml, hown, hts⟩ (c_CharacterList_shownIn l dC dI dT ad a1 u r2 h2) (cwV 1 hts (xgV wd_462 wd_212 wd_213 wd_3 wd_214) rfl rfl rfl pd_CharacterList_shownIn ⟨Nat.le_of_ble_eq_true rfl, Nat.le_of_ble_eq_true rfl⟩) (xpreV (C := "EventGraphText$CharacterList") (T := T_CharacterList) (N := 8) hP hK hN rfl cW_L) rfl rfl hl.1 rfl (lv_room (Nat.le_of_ble_eq_true rfl)) d_Merge_removal_2 ⟨Nat.le_of_ble_eq_true rfl, Nat.le_of_ble_eq_true rfl⟩) hP hS (fun H locs hP hS => ?_)
  refine lv_lstore (lv' := [(4, .long r2), (0, .ref (ad 10)), (1, .long a1), (3, .int a3)]) hx hb d_Merge_removal_5 hl (Nat.le_of_ble_eq_true rfl) rfl (fun ls hl => ?_)
  refine lv_lload hx hb d_Merge_removal_7 (lv_at hl 0 rfl) ?_
  refine lv_iload_n hx hb d_Merge_removal_9 rfl (lv_at hl 3 rfl) ?_
  obtain ⟨r10, h10, hm⟩ := xb1_some hm
  refine xc_i (va_runSN (As := [.long r2, .int a3]) (rest := []) ⟨hx, hb, hml, hown, hts⟩ (c_Text_has l r2 a3 r10 h10) ⟨va_cnB 2 hts (xg0 wd_217) rfl rfl rfl (nmm_13 hN) (hT _ wd_1) pd_Text_has.2 ⟨Nat.le_of_ble_eq_true rfl, Nat.le_of_ble_eq_true rfl⟩, hT _ wd_216, trivial⟩ xpreS0 rfl rfl hl.1 rfl (lv_room (Nat.le_of_ble_eq_true rfl)) d_Merge_removal_10 ⟨Nat.le_of_ble_eq_true rfl, Nat.le_of_ble_eq_true rfl⟩) hP hS (fun H locs hP hS => ?_)
  refine lv_if_eq (tgt := 28) hx hb d_Merge_removal_13 rfl (fun h => ?_) (fun h => ?_)
  · replace hm := xi_pos h hm
    refine lv_sipush (v := (1000 : Int32)) hx hb d_Merge_removal_28 (by decide) ?_
    exact hret hm hS d_Merge_removal_31
  · replace hm := xi_neg h hm
    refine lv_iconst (v := (-1 : Int32)) hx hb d_Merge_removal_16 (by decide) ?_
    refine lv_aload_n hx hb d_Merge_removal_17 rfl (lv_at hl 1 rfl) ?_
    refine lv_lload hx hb d_Merge_removal_18 (lv_at hl 0 rfl) ?_
    refine lv_iload_n hx hb d_Merge_removal_20 rfl (lv_at hl 3 rfl) ?_
    obtain ⟨r21, h21, hm⟩ := xb1_some hm
    refine xc_i (va_runV (C := "EventGraphText$CharacterList") (As := [.long r2, .int a3]) (rest := [.int (-1 : Int32)]) ⟨hx, hb, hml, hown, hts⟩ (c_CharacterList_indexIn l dC dI dT ad r2 a3 u r21 h21) (cwV 2 hts (xgV wd_463 wd_464 wd_465 wd_3 wd_466) rfl rfl rfl pd_CharacterList_indexIn ⟨Nat.le_of_ble_eq_true rfl, Nat.le_of_ble_eq_true rfl⟩) (xpreV (C := "EventGraphText$CharacterList") (T := T_CharacterList) (N := 8) hP hK hN rfl cW_L) rfl rfl hl.1 rfl (lv_room (Nat.le_of_ble_eq_true rfl)) d_Merge_removal_21 ⟨Nat.le_of_ble_eq_true rfl, Nat.le_of_ble_eq_true rfl⟩) hP hS (fun H locs hP hS => ?_)
    refine lv_isub hx hb d_Merge_removal_24 ?_
    refine lv_goto (tgt := 31) hx hb d_Merge_removal_25 rfl ?_
    exact hret hm hS d_Merge_removal_31
set_option maxHeartbeats 4000000 in
set_option maxRecDepth 100000 in
theorem c_Merge_applyAll (l : Launch) (dC : Nat → ClassId) (dI : Nat → Nat → Nat) (dT : Nat → ClassId) (ad : Nat → Nat) (hD : ∀ u, va_D (xA ad 50) (cW dT ad u)) (j : Nat) (a4 : Int64) (u : xS) (hj : j < 3) (u1 : xS) (hm : m_Merge_applyAll j a4 u = some u1) : Met l y_Merge_applyAll (Cond.code y_Merge_applyAll b_Merge_applyAll 10 none :: xG) (xrm 4 92) (va_Pc [.ref (ad (21 + 4 * j)), .ref (ad 1), .ref (ad 10), .ref (ad 16), .long a4] (xR (dC, dI) xCl (xT dT) (cW dT ad u))) (va_Qv (fun (u9 : xS) => u9 = u1) (fun u9 t => va_P (dC, dI) xCl (cW dT ad u9) t.heap) (xA ad 50)) 0 0 (xA ad 50) := by
  refine xm_rwv (Wd := cW dT ad) (cc := b_Merge_applyAll) (maxL := 10) (by decide) rfl (Nat.le_of_ble_eq_true rfl) ?_
  intro p e s m args below meth c Q ls hx hb hml hts hown hK hN hP hl hret
  have hT : ∀ w ∈ xG, w.before args s = true := fun w h => hts w (List.mem_cons_of_mem _ h)
  have hown : s.vm.findClass "EventGraphText$Merge" = some m.cls := hown
  have hl : lv_has ls 10 [(0, .ref (ad (21 + 4 * j))), (1, .ref (ad 1)), (2, .ref (ad 10)), (3, .ref (ad 16)), (4, .long a4)] := hl
  have hS : va_S (xA ad 50) s.heap s.heap [] := va_S.rf
  have hb74 : ∀ (k15 : Nat → Int64 → Int32 → xS → Option xS) (hk15 : ∀ (b6 : Int64) (b8 : Int32) (u : xS) (H : Heap) (locs : List Loc) (ls : Array Slot), lv_has ls 10 [(0, .ref (ad (21 + 4 * j))), (1, .ref (ad 1)), (2, .ref (ad 10)), (3, .ref (ad 16)), (6, .long b6), (8, .int b8)] → va_P (dC, dI) xCl (cW dT ad u) H → va_S (xA ad 50) s.heap H locs → k15 j b6 b8 u = some u1 → W p l e (xrm 4 92) s m args below meth c H locs 0 0 Q (F0 m 15 ls [])), ∀ (b6 : Int64) (b8 : Int32) (b9 : Int32) (t0 : Int32) (t1 : Int32) (u : xS) (H : Heap) (locs : List Loc) (ls : Array Slot), lv_has ls 10 [(0, .ref (ad (21 + 4 * j))), (1, .ref (ad 1)), (2, .ref (ad 10)), (3, .ref (ad 16)), (6, .long b6), (8, .int b8), (9, .int b9)] → va_P (dC, dI) xCl (cW dT ad u) H → va_S (xA ad 50) s.heap H locs → m_Merge_applyAll_b74 k15 j b6 b8 b9 t0 t1 u = some u1 → W p l e (xrm 4 92) s m args below meth c H locs 0 0 Q (F0 m 74 ls [.int t0, .int t1, .ref (ad (22 + 4 * j))]) := by
    intro k15 hk15 b6 b8 b9 t0 t1 u H locs ls hl hP hS hm
    unfold m_Merge_applyAll_b74 at hm
    obtain ⟨g1, hm⟩ := xg_some hm
    obtain ⟨w74, hw74, hm⟩ := xlt_some hm
    refine va_iast hx hb hK hP (hD _) hS (22 + 4 * j) 0 (cW_G_operations hj) rfl g1 d_Merge_applyAll_74 (fun H locs hP _ hS => ?_)
    replace hP : va_P (dC, dI) xCl (cW dT ad w74) H := xp_conv ((cW_s_G_operations hj).trans (congrArg (cW dT ad) hw74.symm)) hP
    refine lv_lload hx hb d_Merge_applyAll_75 (lv_at hl 4 rfl) ?_
    refine lv_iload hx hb d_Merge_applyAll_77 (lv_at hl 6 rfl) ?_
    obtain ⟨r79, h79, hm⟩ := xb1_some hm
    refine xc_l (va_runSN (As := [.int b9]) (rest := [.long b6]) ⟨hx, hb, hml, hown, hts⟩ (c_Text_bit l b9 r79 h79) ⟨va_cnB 1 hts (xg0 wd_220) rfl rfl rfl (nmm_14 hN) (hT _ wd_1) pd_Text_bit.2 ⟨Nat.le_of_ble_eq_true rfl, Nat.le_of_ble_eq_true rfl⟩, hT _ wd_219, trivial⟩ xpreS0 rfl rfl hl.1 rfl (lv_room (Nat.le_of_ble_eq_true rfl)) d_Merge_applyAll_79 ⟨Nat.le_of_ble_eq_true rfl, Nat.le_of_ble_eq_true rfl⟩) hP hS (fun H locs hP hS => ?_)
    refine lv_lor hx hb d_Merge_applyAll_82 ?_
    refine lv_lstore (lv' := [(6, .long (b6 ||| r79)), (0, .ref (ad (21 + 4 * j))), (1, .ref (ad 1)), (2, .ref (ad 10)), (3, .ref (ad 16)), (8, .int b8), (9, .int b9)]) hx hb d_Merge_applyAll_83 hl (Nat.le_of_ble_eq_true rfl) rfl (fun ls hl => ?_)
    refine lv_iinc (k := 5) (v := (b8 + (1 : Int32))) (lv' := [(8, .int (b8 + (1 : Int32))), (6, .long (b6 ||| r79)), (0, .ref (ad (21 + 4 * j))), (1, .ref (ad 1)), (2, .ref (ad 10)), (3, .ref (ad 16)), (9, .int b9)]) hx hb d_Merge_applyAll_85 hl rfl rfl (Nat.le_of_ble_eq_true rfl) rfl (fun ls hl => ?_)
    refine lv_goto (tgt := 15) hx hb d_Merge_applyAll_88 rfl ?_
    exact hk15 (b6 ||| r79) (b8 + (1 : Int32)) w74 _ _ _ (lv_sub hl [2, 3, 4, 5, 1, 0] rfl) hP hS hm
  have hs15 : ∀ (k15 : Nat → Int64 → Int32 → xS → Option xS) (hk15 : ∀ (b6 : Int64) (b8 : Int32) (u : xS) (H : Heap) (locs : List Loc) (ls : Array Slot), lv_has ls 10 [(0, .ref (ad (21 + 4 * j))), (1, .ref (ad 1)), (2, .ref (ad 10)), (3, .ref (ad 16)), (6, .long b6), (8, .int b8)] → va_P (dC, dI) xCl (cW dT ad u) H → va_S (xA ad 50) s.heap H locs → k15 j b6 b8 u = some u1 → W p l e (xrm 4 92) s m args below meth c H locs 0 0 Q (F0 m 15 ls [])), ∀ (b6 : Int64) (b8 : Int32) (u : xS) (H : Heap) (locs : List Loc) (ls : Array Slot), lv_has ls 10 [(0, .ref (ad (21 + 4 * j))), (1, .ref (ad 1)), (2, .ref (ad 10)), (3, .ref (ad 16)), (6, .long b6), (8, .int b8)] → va_P (dC, dI) xCl (cW dT ad u) H → va_S (xA ad 50) s.heap H locs → m_Merge_applyAll_s15 k15 j b6 b8 u = some u1 → W p l e (xrm 4 92) s m args below meth c H locs 0 0 Q (F0 m 15 ls []) := by
    intro k15 hk15 b6 b8 u H locs ls hl hP hS hm
    unfold m_Merge_applyAll_s15 at hm
    refine lv_iload hx hb d_Merge_applyAll_15 (lv_at hl 5 rfl) ?_
    refine lv_aload_n hx hb d_Merge_applyAll_17 rfl (lv_at hl 0 rfl) ?_
    refine va_get (D := (dC, dI)) (ci := 3) (v := .int (xs_i u (3 + j))) (C := "EventGraphText$Merge") (T := T_Merge) (N := 4) hx hb hT hin_Merge hown hK hP (21 + 4 * j) (cW_G hj) rfl 1 (by decide) (hT _ wd_115) (fun _ h9 => h9) rfl d_Merge_applyAll_18 ?_
    refine lv_icmp_ge (tgt := 91) hx hb d_Merge_applyAll_21 rfl (fun h => ?_) (fun h => ?_)
    · replace hm := xi_pos h hm
      exact hret hm hP hS d_Merge_applyAll_91
    · replace hm := xi_neg h hm
      refine lv_aload_n hx hb d_Merge_applyAll_24 rfl (lv_at hl 3 rfl) ?_
      refine lv_iload hx hb d_Merge_applyAll_25 (lv_at hl 5 rfl) ?_
      obtain ⟨r27, h27, hm⟩ := xb1_some hm
      refine xc_i (va_runV (C := "EventGraphText$Line") (As := [.int b8]) (rest := []) ⟨hx, hb, hml, hown, hts⟩ (c_Line_get l dC dI dT ad b8 u r27 h27) (cwV 1 hts (xgV wd_452 wd_356 wd_357 wd_4 wd_358) rfl rfl rfl pd_Line_get ⟨Nat.le_of_ble_eq_true rfl, Nat.le_of_ble_eq_true rfl⟩) (xpreV (C := "EventGraphText$Line") (T := T_Line) (N := 2) hP hK hN rfl cW_N) rfl rfl hl.1 rfl (lv_room (Nat.le_of_ble_eq_true rfl)) d_Merge_applyAll_27 ⟨Nat.le_of_ble_eq_true rfl, Nat.le_of_ble_eq_true rfl⟩) hP hS (fun H locs hP hS => ?_)
      refine lv_istore (lv' := [(9, .int r27), (0, .ref (ad (21 + 4 * j))), (1, .ref (ad 1)), (2, .ref (ad 10)), (3, .ref (ad 16)), (6, .long b6), (8, .int b8)]) hx hb d_Merge_applyAll_30 hl (Nat.le_of_ble_eq_true rfl) rfl (fun ls hl => ?_)
      refine lv_aload_n hx hb d_Merge_applyAll_32 rfl (lv_at hl 1 rfl) ?_
      refine va_get (D := (dC, dI)) (ci := 3) (v := .ref (ad (22 + 4 * j))) (C := "EventGraphText$Merge") (T := T_Merge) (N := 4) hx hb hT hin_Merge hown hK hP (21 + 4 * j) (cW_G hj) rfl 0 (by decide) (hT _ wd_113) (fun _ h9 => h9) rfl d_Merge_applyAll_33 ?_
      refine lv_iload hx hb d_Merge_applyAll_36 (lv_at hl 6 rfl) ?_
      refine lv_aload_n hx hb d_Merge_applyAll_38 rfl (lv_at hl 2 rfl) ?_
      refine lv_iload hx hb d_Merge_applyAll_39 (lv_at hl 0 rfl) ?_
      obtain ⟨r41, h41, hm⟩ := xb1_some hm
      refine xc_i (va_runV (C := "EventGraphText$History") (As := [.int r27]) (rest := [.int b8, .ref (ad (22 + 4 * j))]) ⟨hx, hb, hml, hown, hts⟩ (c_History_isInsert l dC dI dT ad r27 u r41 h41) (cwV 1 hts (xgV wd_461 wd_369 wd_370 wd_2 wd_371) rfl rfl rfl pd_History_isInsert ⟨Nat.le_of_ble_eq_true rfl, Nat.le_of_ble_eq_true rfl⟩) (xpreV (C := "EventGraphText$History") (T := T_History) (N := 9) hP hK hN rfl cW_H) rfl rfl hl.1 rfl (lv_room (Nat.le_of_ble_eq_true rfl)) d_Merge_applyAll_41 ⟨Nat.le_of_ble_eq_true rfl, Nat.le_of_ble_eq_true rfl⟩) hP hS (fun H locs hP hS => ?_)
      refine lv_if_eq (tgt := 62) hx hb d_Merge_applyAll_44 rfl (fun h => ?_) (fun h => ?_)
      · replace hm := xi_pos h hm
        refine lv_aload_n hx hb d_Merge_applyAll_62 rfl (lv_at hl 3 rfl) ?_
        refine lv_lload hx hb d_Merge_applyAll_63 (lv_at hl 5 rfl) ?_
        refine lv_aload_n hx hb d_Merge_applyAll_65 rfl (lv_at hl 3 rfl) ?_
        refine lv_iload hx hb d_Merge_applyAll_66 (lv_at hl 0 rfl) ?_
        obtain ⟨r68, h68, hm⟩ := xb1_some hm
        refine xc_i (va_runV (C := "EventGraphText$CharacterList") (As := [.int r27]) (rest := [.long b6, .ref (ad 10), .int b8, .ref (ad (22 + 4 * j))]) ⟨hx, hb, hml, hown, hts⟩ (c_CharacterList_takenBy l dC dI dT ad r27 u r68 h68) (cwV 1 hts (xgV wd_467 wd_468 wd_469 wd_3 wd_470) rfl rfl rfl pd_CharacterList_takenBy ⟨Nat.le_of_ble_eq_true rfl, Nat.le_of_ble_eq_true rfl⟩) (xpreV (C := "EventGraphText$CharacterList") (T := T_CharacterList) (N := 8) hP hK hN rfl cW_L) rfl rfl hl.1 rfl (lv_room (Nat.le_of_ble_eq_true rfl)) d_Merge_applyAll_68 ⟨Nat.le_of_ble_eq_true rfl, Nat.le_of_ble_eq_true rfl⟩) hP hS (fun H locs hP hS => ?_)
        obtain ⟨r71, h71, hm⟩ := xb1_some hm
        refine xc_i (va_runS (As := [.ref (ad 10), .long b6, .int r68]) (rest := [.int b8, .ref (ad (22 + 4 * j))]) ⟨hx, hb, hml, hown, hts⟩ (c_Merge_removal l dC dI dT ad b6 r68 u r71 h71) (va_cwS 3 hts (xgS wd_471 wd_472 wd_6 wd_473) rfl rfl rfl pd_Merge_removal.2 ⟨Nat.le_of_ble_eq_true rfl, Nat.le_of_ble_eq_true rfl⟩) (xpreS hP hK hN) rfl rfl hl.1 rfl (lv_room (Nat.le_of_ble_eq_true rfl)) d_Merge_applyAll_71 ⟨Nat.le_of_ble_eq_true rfl, Nat.le_of_ble_eq_true rfl⟩) hP hS (fun H locs hP hS => ?_)
        exact hb74 k15 hk15 b6 b8 r27 r71 b8 u _ _ _ (lv_sub hl [1, 2, 3, 4, 5, 6, 0] rfl) hP hS hm
      · replace hm := xi_neg h hm
        refine lv_aload_n hx hb d_Merge_applyAll_47 rfl (lv_at hl 3 rfl) ?_
        refine lv_aload_n hx hb d_Merge_applyAll_48 rfl (lv_at hl 3 rfl) ?_
        refine lv_lload hx hb d_Merge_applyAll_49 (lv_at hl 5 rfl) ?_
        obtain ⟨r51, h51, hm⟩ := xb1_some hm
        refine xc_l (va_runV (C := "EventGraphText$CharacterList") (As := [.long b6]) (rest := [.ref (ad 10), .int b8, .ref (ad (22 + 4 * j))]) ⟨hx, hb, hml, hown, hts⟩ (c_CharacterList_shownIn l dC dI dT ad b6 u r51 h51) (cwV 1 hts (xgV wd_462 wd_212 wd_213 wd_3 wd_214) rfl rfl rfl pd_CharacterList_shownIn ⟨Nat.le_of_ble_eq_true rfl, Nat.le_of_ble_eq_true rfl⟩) (xpreV (C := "EventGraphText$CharacterList") (T := T_CharacterList) (N := 8) hP hK hN rfl cW_L) rfl rfl hl.1 rfl (lv_room (Nat.le_of_ble_eq_true rfl)) d_Merge_applyAll_51 ⟨Nat.le_of_ble_eq_true rfl, Nat.le_of_ble_eq_true rfl⟩) hP hS (fun H locs hP hS => ?_)
        refine lv_iload hx hb d_Merge_applyAll_54 (lv_at hl 0 rfl) ?_
        obtain ⟨r56, h56, hm⟩ := xb1_some hm
        refine xc_i (va_runV (C := "EventGraphText$CharacterList") (As := [.long r51, .int r27]) (rest := [.int b8, .ref (ad (22 + 4 * j))]) ⟨hx, hb, hml, hown, hts⟩ (c_CharacterList_indexIn l dC dI dT ad r51 r27 u r56 h56) (cwV 2 hts (xgV wd_463 wd_464 wd_465 wd_3 wd_466) rfl rfl rfl pd_CharacterList_indexIn ⟨Nat.le_of_ble_eq_true rfl, Nat.le_of_ble_eq_true rfl⟩) (xpreV (C := "EventGraphText$CharacterList") (T := T_CharacterList) (N := 8) hP hK hN rfl cW_L) rfl rfl hl.1 rfl (lv_room (Nat.le_of_ble_eq_true rfl)) d_Merge_applyAll_56 ⟨Nat.le_of_ble_eq_true rfl, Nat.le_of_ble_eq_true rfl⟩) hP hS (fun H locs hP hS => ?_)
        refine lv_goto (tgt := 74) hx hb d_Merge_applyAll_59 rfl ?_
        exact hb74 k15 hk15 b6 b8 r27 r56 b8 u _ _ _ (lv_sub hl [1, 2, 3, 4, 5, 6, 0] rfl) hP hS hm
  have hl15 : ∀ (fu : Nat), ∀ (b6 : Int64) (b8 : Int32) (u : xS) (H : Heap) (locs : List Loc) (ls : Array Slot), lv_has ls 10 [(0, .ref (ad (21 + 4 * j))), (1, .ref (ad 1)), (2, .ref (ad 10)), (3, .ref (ad 16)), (6, .long b6), (8, .int b8)] → va_P (dC, dI) xCl (cW dT ad u) H → va_S (xA ad 50) s.heap H locs → m_Merge_applyAll_l15 fu j b6 b8 u = some u1 → W p l e (xrm 4 92) s m args below meth c H locs 0 0 Q (F0 m 15 ls []) := by
    intro fu
    induction fu with
    | zero => intro b6 b8 u H locs ls hl hP hS hm; exact absurd hm (fun z => by cases z)
    | succ n ih => intro b6 b8 u H locs ls hl hP hS hm; exact hs15 (m_Merge_applyAll_l15 n) ih b6 b8 u H locs ls hl hP hS hm
  unfold m_Merge_applyAll at hm
  refine lv_lload hx hb d_Merge_applyAll_0 (lv_at hl 4 rfl) ?_
  refine lv_lstore (lv' := [(6, .long a4), (0, .ref (ad (21 + 4 * j))), (1, .ref (ad 1)), (2, .ref (ad 10)), (3, .ref (ad 16)), (4, .long a4)]) hx hb d_Merge_applyAll_2 hl (Nat.le_of_ble_eq_true rfl) rfl (fun ls hl => ?_)
  refine lv_aload_n hx hb d_Merge_applyAll_4 rfl (lv_at hl 1 rfl) ?_
  refine lv_aload_n hx hb d_Merge_applyAll_5 rfl (lv_at hl 4 rfl) ?_
  obtain ⟨r6, h6, hm⟩ := xb1_some hm
  refine xc_i (va_runV (C := "EventGraphText$Line") (As := []) (rest := [.ref (ad (21 + 4 * j))]) ⟨hx, hb, hml, hown, hts⟩ (c_Line_size l dC dI dT ad u r6 h6) (cwV 0 hts (xgV wd_451 wd_340 wd_341 wd_4 wd_342) rfl rfl rfl pd_Line_size ⟨Nat.le_of_ble_eq_true rfl, Nat.le_of_ble_eq_true rfl⟩) (xpreV (C := "EventGraphText$Line") (T := T_Line) (N := 2) hP hK hN rfl cW_N) rfl rfl hl.1 rfl (lv_room (Nat.le_of_ble_eq_true rfl)) d_Merge_applyAll_6 ⟨Nat.le_of_ble_eq_true rfl, Nat.le_of_ble_eq_true rfl⟩) hP hS (fun H locs hP hS => ?_)
  obtain ⟨w9, hw9, hm⟩ := xlt_some hm
  refine va_put (D := (dC, dI)) (ci := 3) (v := .int r6) (ty := .int) (C := "EventGraphText$Merge") (T := T_Merge) (N := 4) hx hb hT hin_Merge ty_Merge tyok_Merge nm_Merge hown hK hP (hD _) hS (21 + 4 * j) (cW_G hj) rfl 1 (by decide) (hT _ wd_115) (fun _ h9 => h9) rfl (by decide +kernel) rfl rfl (Nat.le_of_ble_eq_true rfl) d_Merge_applyAll_9 (fun H locs hP _ hS => ?_)
  replace hP : va_P (dC, dI) xCl (cW dT ad w9) H := xp_conv ((cW_f_G_applied hj).trans (congrArg (cW dT ad) hw9.symm)) hP
  refine lv_iconst (v := (0 : Int32)) hx hb d_Merge_applyAll_12 (by decide) ?_
  refine lv_istore (lv' := [(8, .int (0 : Int32)), (6, .long a4), (0, .ref (ad (21 + 4 * j))), (1, .ref (ad 1)), (2, .ref (ad 10)), (3, .ref (ad 16)), (4, .long a4)]) hx hb d_Merge_applyAll_13 hl (Nat.le_of_ble_eq_true rfl) rfl (fun ls hl => ?_)
  exact hl15 xFU a4 (0 : Int32) w9 _ _ _ (lv_sub hl [2, 3, 4, 5, 1, 0] rfl) hP hS hm
set_option maxHeartbeats 4000000 in
set_option maxRecDepth 100000 in
theorem c_Merge_perform (l : Launch) (dC : Nat → ClassId) (dI : Nat → Nat → Nat) (dT : Nat → ClassId) (ad : Nat → Nat) (hD : ∀ u, va_D (xA ad 50) (cW dT ad u)) (j : Nat) (a4 : Int64) (a6 : Int64) (u : xS) (hj : j < 3) (u1 : xS) (hm : m_Merge_perform j a4 a6 u = some u1) : Met l y_Merge_perform (Cond.code y_Merge_perform b_Merge_perform 14 none :: xG) (xrm 5 121) (va_Pc [.ref (ad (21 + 4 * j)), .ref (ad 1), .ref (ad 10), .ref (ad 16), .long a4, .long a6] (xR (dC, dI) xCl (xT dT) (cW dT ad u))) (va_Qv (fun (u9 : xS) => u9 = u1) (fun u9 t => va_P (dC, dI) xCl (cW dT ad u9) t.heap) (xA ad 50)) 0 0 (xA ad 50) := by
  refine xm_rwv (Wd := cW dT ad) (cc := b_Merge_perform) (maxL := 14) (by decide) rfl (Nat.le_of_ble_eq_true rfl) ?_
  intro p e s m args below meth c Q ls hx hb hml hts hown hK hN hP hl hret
  have hT : ∀ w ∈ xG, w.before args s = true := fun w h => hts w (List.mem_cons_of_mem _ h)
  have hown : s.vm.findClass "EventGraphText$Merge" = some m.cls := hown
  have hl : lv_has ls 14 [(0, .ref (ad (21 + 4 * j))), (1, .ref (ad 1)), (2, .ref (ad 10)), (3, .ref (ad 16)), (4, .long a4), (6, .long a6)] := hl
  have hS : va_S (xA ad 50) s.heap s.heap [] := va_S.rf
  unfold m_Merge_perform at hm
  refine lv_aload_n hx hb d_Merge_perform_0 rfl (lv_at hl 1 rfl) ?_
  refine lv_aload_n hx hb d_Merge_perform_1 rfl (lv_at hl 1 rfl) ?_
  refine lv_lload hx hb d_Merge_perform_2 (lv_at hl 4 rfl) ?_
  refine lv_lload hx hb d_Merge_perform_4 (lv_at hl 5 rfl) ?_
  refine lv_lor hx hb d_Merge_perform_6 ?_
  refine lv_lload hx hb d_Merge_perform_7 (lv_at hl 4 rfl) ?_
  obtain ⟨r9, h9, hm⟩ := xb1_some hm
  refine xc_i (va_runV (C := "EventGraphText$History") (As := [.long (a4 ||| a6), .long a4]) (rest := [.ref (ad 1)]) ⟨hx, hb, hml, hown, hts⟩ (c_History_lastCritical l dC dI dT ad (a4 ||| a6) a4 u r9 h9) (cwV 2 hts (xgV wd_427 wd_428 wd_429 wd_2 wd_430) rfl rfl rfl pd_History_lastCritical ⟨Nat.le_of_ble_eq_true rfl, Nat.le_of_ble_eq_true rfl⟩) (xpreV (C := "EventGraphText$History") (T := T_History) (N := 9) hP hK hN rfl cW_H) rfl rfl hl.1 rfl (lv_room (Nat.le_of_ble_eq_true rfl)) d_Merge_perform_9 ⟨Nat.le_of_ble_eq_true rfl, Nat.le_of_ble_eq_true rfl⟩) hP hS (fun H locs hP hS => ?_)
  obtain ⟨r12, h12, hm⟩ := xb1_some hm
  refine xc_l (va_runV (C := "EventGraphText$History") (As := [.int r9]) (rest := []) ⟨hx, hb, hml, hown, hts⟩ (c_History_upTo l dC dI dT ad r9 u r12 h12) (cwV 1 hts (xgV wd_443 wd_436 wd_437 wd_2 wd_438) rfl rfl rfl pd_History_upTo ⟨Nat.le_of_ble_eq_true rfl, Nat.le_of_ble_eq_true rfl⟩) (xpreV (C := "EventGraphText$History") (T := T_History) (N := 9) hP hK hN rfl cW_H) rfl rfl hl.1 rfl (lv_room (Nat.le_of_ble_eq_true rfl)) d_Merge_perform_12 ⟨Nat.le_of_ble_eq_true rfl, Nat.le_of_ble_eq_true rfl⟩) hP hS (fun H locs hP hS => ?_)
  refine lv_lstore (lv' := [(8, .long r12), (0, .ref (ad (21 + 4 * j))), (1, .ref (ad 1)), (2, .ref (ad 10)), (3, .ref (ad 16)), (4, .long a4), (6, .long a6)]) hx hb d_Merge_perform_15 hl (Nat.le_of_ble_eq_true rfl) rfl (fun ls hl => ?_)
  refine lv_lload hx hb d_Merge_perform_17 (lv_at hl 5 rfl) ?_
  refine lv_lload hx hb d_Merge_perform_19 (lv_at hl 0 rfl) ?_
  refine lv_ldc2 (v := (-1 : Int64)) hx hb hown (hT _ wd_444) d_Merge_perform_21 ?_
  refine lv_lxor hx hb d_Merge_perform_24 ?_
  refine lv_land hx hb d_Merge_perform_25 ?_
  refine lv_lstore (lv' := [(10, .long (a4 &&& (r12 ^^^ (-1 : Int64)))), (8, .long r12), (0, .ref (ad (21 + 4 * j))), (1, .ref (ad 1)), (2, .ref (ad 10)), (3, .ref (ad 16)), (4, .long a4), (6, .long a6)]) hx hb d_Merge_perform_26 hl (Nat.le_of_ble_eq_true rfl) rfl (fun ls hl => ?_)
  refine lv_aload_n hx hb d_Merge_perform_28 rfl (lv_at hl 2 rfl) ?_
  refine lv_iconst (v := (0 : Int32)) hx hb d_Merge_perform_29 (by decide) ?_
  obtain ⟨w30, hw30, hm⟩ := xlt_some hm
  refine va_put (D := (dC, dI)) (ci := 3) (v := .int (0 : Int32)) (ty := .int) (C := "EventGraphText$Merge") (T := T_Merge) (N := 4) hx hb hT hin_Merge ty_Merge tyok_Merge nm_Merge hown hK hP (hD _) hS (21 + 4 * j) (cW_G hj) rfl 3 (by decide) (hT _ wd_119) (fun _ h9 => h9) rfl (by decide +kernel) rfl rfl (Nat.le_of_ble_eq_true rfl) d_Merge_perform_30 (fun H locs hP _ hS => ?_)
  replace hP : va_P (dC, dI) xCl (cW dT ad w30) H := xp_conv ((cW_f_G_moves hj).trans (congrArg (cW dT ad) hw30.symm)) hP
  refine lv_aload_n hx hb d_Merge_perform_33 rfl (lv_at hl 2 rfl) ?_
  refine lv_lload hx hb d_Merge_perform_34 (lv_at hl 0 rfl) ?_
  obtain ⟨r36, h36, hm⟩ := xb1_some hm
  refine xc_i (va_runS (As := [.long (a4 &&& (r12 ^^^ (-1 : Int64)))]) (rest := [.ref (ad (21 + 4 * j))]) ⟨hx, hb, hml, hown, hts⟩ (c_Long_bitCount l (a4 &&& (r12 ^^^ (-1 : Int64))) r36 h36) (va_cwS 1 hts (xgS wd_445 wd_224 wd_10 wd_225) rfl rfl rfl pd_Long_bitCount.2 ⟨Nat.le_of_ble_eq_true rfl, Nat.le_of_ble_eq_true rfl⟩) xpreS0 rfl rfl hl.1 rfl (lv_room (Nat.le_of_ble_eq_true rfl)) d_Merge_perform_36 ⟨Nat.le_of_ble_eq_true rfl, Nat.le_of_ble_eq_true rfl⟩) hP hS (fun H locs hP hS => ?_)
  obtain ⟨w39, hw39, hm⟩ := xlt_some hm
  refine va_put (D := (dC, dI)) (ci := 3) (v := .int r36) (ty := .int) (C := "EventGraphText$Merge") (T := T_Merge) (N := 4) hx hb hT hin_Merge ty_Merge tyok_Merge nm_Merge hown hK hP (hD _) hS (21 + 4 * j) (cW_G hj) rfl 2 (by decide) (hT _ wd_117) (fun _ h9 => h9) rfl (by decide +kernel) rfl rfl (Nat.le_of_ble_eq_true rfl) d_Merge_perform_39 (fun H locs hP _ hS => ?_)
  replace hP : va_P (dC, dI) xCl (cW dT ad w39) H := xp_conv ((cW_f_G_replayed hj).trans (congrArg (cW dT ad) hw39.symm)) hP
  refine lv_aload_n hx hb d_Merge_perform_42 rfl (lv_at hl 5 rfl) ?_
  refine lv_aload_n hx hb d_Merge_perform_43 rfl (lv_at hl 3 rfl) ?_
  refine lv_lload hx hb d_Merge_perform_44 (lv_at hl 0 rfl) ?_
  obtain ⟨u46, h46, hm⟩ := xb1_some hm
  refine xc_vw (Wd := cW dT ad) (va_runV (C := "EventGraphText$Line") (As := [.ref (ad 1), .long (a4 &&& (r12 ^^^ (-1 : Int64)))]) (rest := []) ⟨hx, hb, hml, hown, hts⟩ (c_Line_arrange l dC dI dT ad hD (a4 &&& (r12 ^^^ (-1 : Int64))) w39 u46 h46) (cwV 2 hts (xgV wd_446 wd_312 wd_313 wd_4 wd_314) rfl rfl rfl pd_Line_arrange ⟨Nat.le_of_ble_eq_true rfl, Nat.le_of_ble_eq_true rfl⟩) (xpreV (C := "EventGraphText$Line") (T := T_Line) (N := 2) hP hK hN rfl cW_N) rfl rfl hl.1 rfl (lv_room (Nat.le_of_ble_eq_true rfl)) d_Merge_perform_46 ⟨Nat.le_of_ble_eq_true rfl, Nat.le_of_ble_eq_true rfl⟩) hS (fun _ h => h) (fun H locs hP hS => ?_)
  refine lv_aload_n hx hb d_Merge_perform_49 rfl (lv_at hl 2 rfl) ?_
  refine lv_aload_n hx hb d_Merge_perform_50 rfl (lv_at hl 3 rfl) ?_
  refine lv_aload_n hx hb d_Merge_perform_51 rfl (lv_at hl 5 rfl) ?_
  refine lv_lload hx hb d_Merge_perform_52 (lv_at hl 1 rfl) ?_
  obtain ⟨r54, u54, h54, hm⟩ := xb2_some hm
  refine xc_lw (Wd := cW dT ad) (va_runV (C := "EventGraphText$Merge") (As := [.ref (ad 1), .ref (ad 16), .long r12]) (rest := []) ⟨hx, hb, hml, hown, hts⟩ (c_Merge_passThrough l dC dI dT ad hD j r12 u46 hj r54 u54 h54) (cwV 3 hts (xgV wd_447 wd_449 wds_13 wd_6 wd_450) rfl rfl rfl pd_Merge_passThrough ⟨Nat.le_of_ble_eq_true rfl, Nat.le_of_ble_eq_true rfl⟩) (xpreV (C := "EventGraphText$Merge") (T := T_Merge) (N := 4) hP hK hN rfl (cW_G hj)) rfl rfl hl.1 rfl (lv_room (Nat.le_of_ble_eq_true rfl)) d_Merge_perform_54 ⟨Nat.le_of_ble_eq_true rfl, Nat.le_of_ble_eq_true rfl⟩) hS (fun _ h => h) (fun H locs hP hS => ?_)
  refine lv_lstore (lv' := [(12, .long r54), (10, .long (a4 &&& (r12 ^^^ (-1 : Int64)))), (8, .long r12), (0, .ref (ad (21 + 4 * j))), (1, .ref (ad 1)), (2, .ref (ad 10)), (3, .ref (ad 16)), (4, .long a4), (6, .long a6)]) hx hb d_Merge_perform_57 hl (Nat.le_of_ble_eq_true rfl) rfl (fun ls hl => ?_)
  refine lv_aload_n hx hb d_Merge_perform_59 rfl (lv_at hl 6 rfl) ?_
  refine lv_aload_n hx hb d_Merge_perform_60 rfl (lv_at hl 4 rfl) ?_
  refine lv_lload hx hb d_Merge_perform_61 (lv_at hl 8 rfl) ?_
  obtain ⟨u63, h63, hm⟩ := xb1_some hm
  refine xc_vw (Wd := cW dT ad) (va_runV (C := "EventGraphText$Line") (As := [.ref (ad 1), .long a6]) (rest := []) ⟨hx, hb, hml, hown, hts⟩ (c_Line_arrange l dC dI dT ad hD a6 u54 u63 h63) (cwV 2 hts (xgV wd_446 wd_312 wd_313 wd_4 wd_314) rfl rfl rfl pd_Line_arrange ⟨Nat.le_of_ble_eq_true rfl, Nat.le_of_ble_eq_true rfl⟩) (xpreV (C := "EventGraphText$Line") (T := T_Line) (N := 2) hP hK hN rfl cW_N) rfl rfl hl.1 rfl (lv_room (Nat.le_of_ble_eq_true rfl)) d_Merge_perform_63 ⟨Nat.le_of_ble_eq_true rfl, Nat.le_of_ble_eq_true rfl⟩) hS (fun _ h => h) (fun H locs hP hS => ?_)
  refine lv_aload_n hx hb d_Merge_perform_66 rfl (lv_at hl 3 rfl) ?_
  refine lv_aload_n hx hb d_Merge_perform_67 rfl (lv_at hl 4 rfl) ?_
  refine lv_aload_n hx hb d_Merge_perform_68 rfl (lv_at hl 6 rfl) ?_
  refine lv_lload hx hb d_Merge_perform_69 (lv_at hl 0 rfl) ?_
  obtain ⟨r71, u71, h71, hm⟩ := xb2_some hm
  refine xc_lw (Wd := cW dT ad) (va_runV (C := "EventGraphText$Merge") (As := [.ref (ad 1), .ref (ad 16), .long r54]) (rest := []) ⟨hx, hb, hml, hown, hts⟩ (c_Merge_passThrough l dC dI dT ad hD j r54 u63 hj r71 u71 h71) (cwV 3 hts (xgV wd_447 wd_449 wds_13 wd_6 wd_450) rfl rfl rfl pd_Merge_passThrough ⟨Nat.le_of_ble_eq_true rfl, Nat.le_of_ble_eq_true rfl⟩) (xpreV (C := "EventGraphText$Merge") (T := T_Merge) (N := 4) hP hK hN rfl (cW_G hj)) rfl rfl hl.1 rfl (lv_room (Nat.le_of_ble_eq_true rfl)) d_Merge_perform_71 ⟨Nat.le_of_ble_eq_true rfl, Nat.le_of_ble_eq_true rfl⟩) hS (fun _ h => h) (fun H locs hP hS => ?_)
  refine lv_pop2_2 hx hb d_Merge_perform_74 rfl ?_
  refine lv_aload_n hx hb d_Merge_perform_75 rfl (lv_at hl 3 rfl) ?_
  refine lv_aload_n hx hb d_Merge_perform_76 rfl (lv_at hl 4 rfl) ?_
  refine lv_aload_n hx hb d_Merge_perform_77 rfl (lv_at hl 5 rfl) ?_
  refine lv_aload_n hx hb d_Merge_perform_78 rfl (lv_at hl 6 rfl) ?_
  refine lv_lload hx hb d_Merge_perform_79 (lv_at hl 7 rfl) ?_
  obtain ⟨u81, h81, hm⟩ := xb1_some hm
  refine xc_vw (Wd := cW dT ad) (va_runV (C := "EventGraphText$Merge") (As := [.ref (ad 1), .ref (ad 10), .ref (ad 16), .long a4]) (rest := []) ⟨hx, hb, hml, hown, hts⟩ (c_Merge_applyAll l dC dI dT ad hD j a4 u71 hj u81 h81) (cwV 4 hts (xgV wd_457 wd_459 wds_14 wd_6 wd_460) rfl rfl rfl pd_Merge_applyAll ⟨Nat.le_of_ble_eq_true rfl, Nat.le_of_ble_eq_true rfl⟩) (xpreV (C := "EventGraphText$Merge") (T := T_Merge) (N := 4) hP hK hN rfl (cW_G hj)) rfl rfl hl.1 rfl (lv_room (Nat.le_of_ble_eq_true rfl)) d_Merge_perform_81 ⟨Nat.le_of_ble_eq_true rfl, Nat.le_of_ble_eq_true rfl⟩) hS (fun _ h => h) (fun H locs hP hS => ?_)
  exact hret hm hP hS d_Merge_perform_84
set_option maxHeartbeats 4000000 in
set_option maxRecDepth 100000 in
theorem c_Text_deliver (l : Launch) (dC : Nat → ClassId) (dI : Nat → Nat → Nat) (dT : Nat → ClassId) (ad : Nat → Nat) (hD : ∀ u, va_D (xA ad 50) (cW dT ad u)) (a1 : Int32) (u : xS) (out : Int32) (u1 : xS) (hm : m_Text_deliver a1 u = some (out, u1)) : Met l y_Text_deliver (Cond.code y_Text_deliver b_Text_deliver 10 (some .int) :: xG) (xrm 6 154) (va_Pc [.ref (ad 0), .int a1] (xR (dC, dI) xCl (xT dT) (cW dT ad u))) (va_Qi (fun r9 (u9 : xS) => r9 = out ∧ u9 = u1) (fun u9 t => va_P (dC, dI) xCl (cW dT ad u9) t.heap) (xA ad 50)) 0 0 (xA ad 50) := by
  refine xm_rwi (Wd := cW dT ad) (cc := b_Text_deliver) (maxL := 10) (by decide) rfl (Nat.le_of_ble_eq_true rfl) ?_
  intro p e s m args below meth c Q ls hx hb hml hts hown hK hN hP hl hret
  have hT : ∀ w ∈ xG, w.before args s = true := fun w h => hts w (List.mem_cons_of_mem _ h)
  have hown : s.vm.findClass "EventGraphText" = some m.cls := hown
  have hl : lv_has ls 10 [(0, .ref (ad 0)), (1, .int a1)] := hl
  have hS : va_S (xA ad 50) s.heap s.heap [] := va_S.rf
  have hb138 : ∀ (b8 : Int64) (u : xS) (H : Heap) (locs : List Loc) (ls : Array Slot), lv_has ls 10 [(8, .long b8)] → va_P (dC, dI) xCl (cW dT ad u) H → va_S (xA ad 50) s.heap H locs → m_Text_deliver_b138 b8 u = some (out, u1) → W p l e (xrm 6 154) s m args below meth c H locs 0 0 Q (F0 m 138 ls []) := by
    intro b8 u H locs ls hl hP hS hm
    unfold m_Text_deliver_b138 at hm
    refine lv_lload hx hb d_Text_deliver_138 (lv_at hl 0 rfl) ?_
    obtain ⟨r140, h140, hm⟩ := xb1_some hm
    refine xc_i (va_runS (As := [.long b8]) (rest := []) ⟨hx, hb, hml, hown, hts⟩ (c_Long_bitCount l b8 r140 h140) (va_cwS 1 hts (xgS wd_223 wd_224 wd_10 wd_225) rfl rfl rfl pd_Long_bitCount.2 ⟨Nat.le_of_ble_eq_true rfl, Nat.le_of_ble_eq_true rfl⟩) xpreS0 rfl rfl hl.1 rfl (lv_room (Nat.le_of_ble_eq_true rfl)) d_Text_deliver_140 ⟨Nat.le_of_ble_eq_true rfl, Nat.le_of_ble_eq_true rfl⟩) hP hS (fun H locs hP hS => ?_)
    exact hret hm hP hS d_Text_deliver_143
  unfold m_Text_deliver at hm
  refine lv_aload_n hx hb d_Text_deliver_0 rfl (lv_at hl 0 rfl) ?_
  refine lv_iload_n hx hb d_Text_deliver_1 rfl (lv_at hl 1 rfl) ?_
  obtain ⟨r2, h2, hm⟩ := xb1_some hm
  refine xc_i (va_runV (C := "EventGraphText") (As := [.int a1]) (rest := []) ⟨hx, hb, hml, hown, hts⟩ (c_Text_isUnderWay l dC dI dT ad a1 u r2 h2) (cwV 1 hts (xgV wd_414 wd_416 wds_15 wd_1 wd_417) rfl rfl rfl pd_Text_isUnderWay ⟨Nat.le_of_ble_eq_true rfl, Nat.le_of_ble_eq_true rfl⟩) (xpreV (C := "EventGraphText") (T := T_Text) (N := 5) hP hK hN rfl cW_E) rfl rfl hl.1 rfl (lv_room (Nat.le_of_ble_eq_true rfl)) d_Text_deliver_2 ⟨Nat.le_of_ble_eq_true rfl, Nat.le_of_ble_eq_true rfl⟩) hP hS (fun H locs hP hS => ?_)
  refine lv_if_ne (tgt := 12) hx hb d_Text_deliver_5 rfl (fun h => ?_) (fun h => ?_)
  · replace hm := xi_neg h hm
    refine lv_aload_n hx hb d_Text_deliver_12 rfl (lv_at hl 0 rfl) ?_
    refine va_get (D := (dC, dI)) (ci := 7) (v := .ref (ad 31)) (C := "EventGraphText") (T := T_Text) (N := 5) hx hb hT hin_Text hown hK hP 0 cW_E rfl 4 (by decide) (hT _ wd_188) (fun _ h9 => h9) rfl d_Text_deliver_13 ?_
    refine lv_iload_n hx hb d_Text_deliver_16 rfl (lv_at hl 1 rfl) ?_
    obtain ⟨g1, hm⟩ := xg_some hm
    refine va_aldq hx hb hK hP 31 4 rfl rfl g1 d_Text_deliver_17 ?_
    refine W.eq (g2 := F0 m 18 ls [.ref (ad (32 + 3 * (a1.toNatClampNeg)))]) rfl ?_
    refine lv_astore_n (lv' := [(2, .ref (ad (32 + 3 * (a1.toNatClampNeg)))), (0, .ref (ad 0)), (1, .int a1)]) hx hb d_Text_deliver_18 rfl hl (Nat.le_of_ble_eq_true rfl) rfl (fun ls hl => ?_)
    refine lv_aload_n hx hb d_Text_deliver_19 rfl (lv_at hl 0 rfl) ?_
    refine va_getN (D := (dC, dI)) (ci := 4) (v := .long (xs_l u (5 + (a1.toNatClampNeg)))) (C := "EventGraphText$Message") (T := T_Message) (N := 5) hx hb hT hin_Message hown hK hP (32 + 3 * (a1.toNatClampNeg)) (cW_M (xin_lt g1)) rfl 4 (by decide) (va_Nw.use rfl (nf_11 hN)) (fun _ h9 => h9) rfl d_Text_deliver_20 ?_
    refine lv_lstore_n (lv' := [(3, .long (xs_l u (5 + (a1.toNatClampNeg)))), (2, .ref (ad (32 + 3 * (a1.toNatClampNeg)))), (0, .ref (ad 0)), (1, .int a1)]) hx hb d_Text_deliver_23 rfl hl (Nat.le_of_ble_eq_true rfl) rfl (fun ls hl => ?_)
    refine lv_aload_n hx hb d_Text_deliver_24 rfl (lv_at hl 2 rfl) ?_
    refine va_get (D := (dC, dI)) (ci := 7) (v := .ref (ad 18)) (C := "EventGraphText") (T := T_Text) (N := 5) hx hb hT hin_Text hown hK hP 0 cW_E rfl 3 (by decide) (hT _ wd_187) (fun _ h9 => h9) rfl d_Text_deliver_25 ?_
    refine lv_aload_n hx hb d_Text_deliver_28 rfl (lv_at hl 1 rfl) ?_
    refine va_getN (D := (dC, dI)) (ci := 4) (v := .int (xs_i u (24 + (a1.toNatClampNeg)))) (C := "EventGraphText$Message") (T := T_Message) (N := 5) hx hb hT hin_Message hown hK hP (32 + 3 * (a1.toNatClampNeg)) (cW_M (xin_lt g1)) rfl 3 (by decide) (va_Nw.use rfl (nf_10 hN)) (fun _ h9 => h9) rfl d_Text_deliver_29 ?_
    obtain ⟨g2, hm⟩ := xg_some hm
    refine va_aldq hx hb hK hP 18 3 rfl rfl g2 d_Text_deliver_32 ?_
    refine W.eq (g2 := F0 m 33 ls [.ref (ad (19 + 4 * ((xs_i u (24 + (a1.toNatClampNeg))).toNatClampNeg)))]) rfl ?_
    refine lv_astore (lv' := [(5, .ref (ad (19 + 4 * ((xs_i u (24 + (a1.toNatClampNeg))).toNatClampNeg)))), (3, .long (xs_l u (5 + (a1.toNatClampNeg)))), (2, .ref (ad (32 + 3 * (a1.toNatClampNeg)))), (0, .ref (ad 0)), (1, .int a1)]) hx hb d_Text_deliver_33 hl (Nat.le_of_ble_eq_true rfl) rfl (fun ls hl => ?_)
    refine lv_aload hx hb d_Text_deliver_35 (lv_at hl 0 rfl) ?_
    refine va_getN (D := (dC, dI)) (ci := 6) (v := .long (xs_l u (2 + ((xs_i u (24 + (a1.toNatClampNeg))).toNatClampNeg)))) (C := "EventGraphText$Site") (T := T_Site) (N := 3) hx hb hT hin_Site hown hK hP (19 + 4 * ((xs_i u (24 + (a1.toNatClampNeg))).toNatClampNeg)) (cW_S (xin_lt g2)) rfl 2 (by decide) (va_Nw.use rfl (nf_6 hN)) (fun _ h9 => h9) rfl d_Text_deliver_37 ?_
    refine lv_lstore (lv' := [(6, .long (xs_l u (2 + ((xs_i u (24 + (a1.toNatClampNeg))).toNatClampNeg)))), (5, .ref (ad (19 + 4 * ((xs_i u (24 + (a1.toNatClampNeg))).toNatClampNeg)))), (3, .long (xs_l u (5 + (a1.toNatClampNeg)))), (2, .ref (ad (32 + 3 * (a1.toNatClampNeg)))), (0, .ref (ad 0)), (1, .int a1)]) hx hb d_Text_deliver_40 hl (Nat.le_of_ble_eq_true rfl) rfl (fun ls hl => ?_)
    refine lv_aload_n hx hb d_Text_deliver_42 rfl (lv_at hl 4 rfl) ?_
    refine va_get (D := (dC, dI)) (ci := 7) (v := .ref (ad 1)) (C := "EventGraphText") (T := T_Text) (N := 5) hx hb hT hin_Text hown hK hP 0 cW_E rfl 0 (by decide) (hT _ wd_184) (fun _ h9 => h9) rfl d_Text_deliver_43 ?_
    refine lv_lload_n hx hb d_Text_deliver_46 rfl (lv_at hl 2 rfl) ?_
    obtain ⟨r47, h47, hm⟩ := xb1_some hm
    refine xc_l (va_runV (C := "EventGraphText$History") (As := [.long (xs_l u (5 + (a1.toNatClampNeg)))]) (rest := []) ⟨hx, hb, hml, hown, hts⟩ (c_History_parentsOfAll l dC dI dT ad (xs_l u (5 + (a1.toNatClampNeg))) u r47 h47) (cwV 1 hts (xgV wd_418 wd_242 wd_243 wd_2 wd_244) rfl rfl rfl pd_History_parentsOfAll ⟨Nat.le_of_ble_eq_true rfl, Nat.le_of_ble_eq_true rfl⟩) (xpreV (C := "EventGraphText$History") (T := T_History) (N := 9) hP hK hN rfl cW_H) rfl rfl hl.1 rfl (lv_room (Nat.le_of_ble_eq_true rfl)) d_Text_deliver_47 ⟨Nat.le_of_ble_eq_true rfl, Nat.le_of_ble_eq_true rfl⟩) hP hS (fun H locs hP hS => ?_)
    refine lv_lload_n hx hb d_Text_deliver_50 rfl (lv_at hl 2 rfl) ?_
    refine lv_lload hx hb d_Text_deliver_51 (lv_at hl 0 rfl) ?_
    refine lv_lor hx hb d_Text_deliver_53 ?_
    refine lv_ldc2 (v := (-1 : Int64)) hx hb hown (hT _ wd_306) d_Text_deliver_54 ?_
    refine lv_lxor hx hb d_Text_deliver_57 ?_
    refine lv_land hx hb d_Text_deliver_58 ?_
    refine lv_lconst (v := (0 : Int64)) hx hb d_Text_deliver_59 (by decide) ?_
    refine xl_cmp_eq (tgt := 66) hx hb d_Text_deliver_60 d_Text_deliver_61 rfl (fun h => ?_) (fun h => ?_)
    · replace hm := xi_pos h hm
      refine lv_aload hx hb d_Text_deliver_66 (lv_at hl 1 rfl) ?_
      refine va_getN (D := (dC, dI)) (ci := 6) (v := .ref (ad (20 + 4 * ((xs_i u (24 + (a1.toNatClampNeg))).toNatClampNeg)))) (C := "EventGraphText$Site") (T := T_Site) (N := 3) hx hb hT hin_Site hown hK hP (19 + 4 * ((xs_i u (24 + (a1.toNatClampNeg))).toNatClampNeg)) (cW_S (xin_lt g2)) rfl 0 (by decide) (va_Nw.use rfl (nf_4 hN)) (fun _ h9 => h9) rfl d_Text_deliver_68 ?_
      refine lv_aload_n hx hb d_Text_deliver_71 rfl (lv_at hl 3 rfl) ?_
      refine va_getN (D := (dC, dI)) (ci := 4) (v := .int (xs_i u (18 + (a1.toNatClampNeg)))) (C := "EventGraphText$Message") (T := T_Message) (N := 5) hx hb hT hin_Message hown hK hP (32 + 3 * (a1.toNatClampNeg)) (cW_M (xin_lt g1)) rfl 2 (by decide) (va_Nw.use rfl (nf_9 hN)) (fun _ h9 => h9) rfl d_Text_deliver_72 ?_
      refine lv_dup2_11 hx hb d_Text_deliver_75 rfl rfl ?_
      obtain ⟨g3, hm⟩ := xg_some hm
      refine va_lald hx hb hK hP (20 + 4 * ((xs_i u (24 + (a1.toNatClampNeg))).toNatClampNeg)) 1 (cW_S_beliefs (xin_lt g2)) rfl g3 d_Text_deliver_76 ?_
      refine lv_aload_n hx hb d_Text_deliver_77 rfl (lv_at hl 4 rfl) ?_
      refine va_get (D := (dC, dI)) (ci := 7) (v := .ref (ad 1)) (C := "EventGraphText") (T := T_Text) (N := 5) hx hb hT hin_Text hown hK hP 0 cW_E rfl 0 (by decide) (hT _ wd_184) (fun _ h9 => h9) rfl d_Text_deliver_78 ?_
      refine lv_lload_n hx hb d_Text_deliver_81 rfl (lv_at hl 2 rfl) ?_
      obtain ⟨r82, h82, hm⟩ := xb1_some hm
      refine xc_l (va_runV (C := "EventGraphText$History") (As := [.long (xs_l u (5 + (a1.toNatClampNeg)))]) (rest := [.long (xs_L u (3 + ((xs_i u (24 + (a1.toNatClampNeg))).toNatClampNeg)) (xs_i u (18 + (a1.toNatClampNeg))).toNatClampNeg), .int (xs_i u (18 + (a1.toNatClampNeg))), .ref (ad (20 + 4 * ((xs_i u (24 + (a1.toNatClampNeg))).toNatClampNeg)))]) ⟨hx, hb, hml, hown, hts⟩ (c_History_withAncestors l dC dI dT ad (xs_l u (5 + (a1.toNatClampNeg))) u r82 h82) (cwV 1 hts (xgV wd_419 wd_420 wd_421 wd_2 wd_422) rfl rfl rfl pd_History_withAncestors ⟨Nat.le_of_ble_eq_true rfl, Nat.le_of_ble_eq_true rfl⟩) (xpreV (C := "EventGraphText$History") (T := T_History) (N := 9) hP hK hN rfl cW_H) rfl rfl hl.1 rfl (lv_room (Nat.le_of_ble_eq_true rfl)) d_Text_deliver_82 ⟨Nat.le_of_ble_eq_true rfl, Nat.le_of_ble_eq_true rfl⟩) hP hS (fun H locs hP hS => ?_)
      refine lv_lor hx hb d_Text_deliver_85 ?_
      obtain ⟨w86, hw86, hm⟩ := xlt_some hm
      refine va_last hx hb hK hP (hD _) hS (20 + 4 * ((xs_i u (24 + (a1.toNatClampNeg))).toNatClampNeg)) 1 (cW_S_beliefs (xin_lt g2)) rfl g3 d_Text_deliver_86 (fun H locs hP _ hS => ?_)
      replace hP : va_P (dC, dI) xCl (cW dT ad w86) H := xp_conv ((cW_s_S_beliefs (xin_lt g2)).trans (congrArg (cW dT ad) hw86.symm)) hP
      refine lv_lload_n hx hb d_Text_deliver_87 rfl (lv_at hl 2 rfl) ?_
      refine lv_lload hx hb d_Text_deliver_88 (lv_at hl 0 rfl) ?_
      refine lv_ldc2 (v := (-1 : Int64)) hx hb hown (hT _ wd_306) d_Text_deliver_90 ?_
      refine lv_lxor hx hb d_Text_deliver_93 ?_
      refine lv_land hx hb d_Text_deliver_94 ?_
      refine lv_lstore (lv' := [(8, .long ((xs_l u (5 + (a1.toNatClampNeg))) &&& ((xs_l u (2 + ((xs_i u (24 + (a1.toNatClampNeg))).toNatClampNeg))) ^^^ (-1 : Int64)))), (6, .long (xs_l u (2 + ((xs_i u (24 + (a1.toNatClampNeg))).toNatClampNeg)))), (5, .ref (ad (19 + 4 * ((xs_i u (24 + (a1.toNatClampNeg))).toNatClampNeg)))), (3, .long (xs_l u (5 + (a1.toNatClampNeg)))), (2, .ref (ad (32 + 3 * (a1.toNatClampNeg)))), (0, .ref (ad 0)), (1, .int a1)]) hx hb d_Text_deliver_95 hl (Nat.le_of_ble_eq_true rfl) rfl (fun ls hl => ?_)
      refine lv_lload hx hb d_Text_deliver_97 (lv_at hl 0 rfl) ?_
      refine lv_lconst (v := (0 : Int64)) hx hb d_Text_deliver_99 (by decide) ?_
      refine xl_cmp_eq (tgt := 138) hx hb d_Text_deliver_100 d_Text_deliver_101 rfl (fun h => ?_) (fun h => ?_)
      · replace hm := xi_pos h hm
        exact hb138 ((xs_l u (5 + (a1.toNatClampNeg))) &&& ((xs_l u (2 + ((xs_i u (24 + (a1.toNatClampNeg))).toNatClampNeg))) ^^^ (-1 : Int64))) w86 _ _ _ (lv_sub hl [0] rfl) hP hS hm
      · replace hm := xi_neg h hm
        refine lv_aload hx hb d_Text_deliver_104 (lv_at hl 2 rfl) ?_
        refine va_getN (D := (dC, dI)) (ci := 6) (v := .ref (ad (21 + 4 * ((xs_i u (24 + (a1.toNatClampNeg))).toNatClampNeg)))) (C := "EventGraphText$Site") (T := T_Site) (N := 3) hx hb hT hin_Site hown hK hP (19 + 4 * ((xs_i u (24 + (a1.toNatClampNeg))).toNatClampNeg)) (cW_S (xin_lt g2)) rfl 1 (by decide) (va_Nw.use rfl (nf_5 hN)) (fun _ h9 => h9) rfl d_Text_deliver_106 ?_
        refine lv_aload_n hx hb d_Text_deliver_109 rfl (lv_at hl 5 rfl) ?_
        refine va_get (D := (dC, dI)) (ci := 7) (v := .ref (ad 1)) (C := "EventGraphText") (T := T_Text) (N := 5) hx hb hT hin_Text hown hK hP 0 cW_E rfl 0 (by decide) (hT _ wd_184) (fun _ h9 => h9) rfl d_Text_deliver_110 ?_
        refine lv_aload_n hx hb d_Text_deliver_113 rfl (lv_at hl 5 rfl) ?_
        refine va_get (D := (dC, dI)) (ci := 7) (v := .ref (ad 10)) (C := "EventGraphText") (T := T_Text) (N := 5) hx hb hT hin_Text hown hK hP 0 cW_E rfl 1 (by decide) (hT _ wd_185) (fun _ h9 => h9) rfl d_Text_deliver_114 ?_
        refine lv_aload_n hx hb d_Text_deliver_117 rfl (lv_at hl 5 rfl) ?_
        refine va_get (D := (dC, dI)) (ci := 7) (v := .ref (ad 16)) (C := "EventGraphText") (T := T_Text) (N := 5) hx hb hT hin_Text hown hK hP 0 cW_E rfl 2 (by decide) (hT _ wd_186) (fun _ h9 => h9) rfl d_Text_deliver_118 ?_
        refine lv_lload hx hb d_Text_deliver_121 (lv_at hl 1 rfl) ?_
        refine lv_lload hx hb d_Text_deliver_123 (lv_at hl 0 rfl) ?_
        obtain ⟨u125, h125, hm⟩ := xb1_some hm
        refine xc_vw (Wd := cW dT ad) (va_runV (C := "EventGraphText$Merge") (As := [.ref (ad 1), .ref (ad 10), .ref (ad 16), .long (xs_l u (2 + ((xs_i u (24 + (a1.toNatClampNeg))).toNatClampNeg))), .long ((xs_l u (5 + (a1.toNatClampNeg))) &&& ((xs_l u (2 + ((xs_i u (24 + (a1.toNatClampNeg))).toNatClampNeg))) ^^^ (-1 : Int64)))]) (rest := []) ⟨hx, hb, hml, hown, hts⟩ (c_Merge_perform l dC dI dT ad hD ((xs_i u (24 + (a1.toNatClampNeg))).toNatClampNeg) (xs_l u (2 + ((xs_i u (24 + (a1.toNatClampNeg))).toNatClampNeg))) ((xs_l u (5 + (a1.toNatClampNeg))) &&& ((xs_l u (2 + ((xs_i u (24 + (a1.toNatClampNeg))).toNatClampNeg))) ^^^ (-1 : Int64))) w86 (xin_lt g2) u125 h125) (cwV 5 hts (xgV wd_423 wd_424 wd_425 wd_6 wd_426) rfl rfl rfl pd_Merge_perform ⟨Nat.le_of_ble_eq_true rfl, Nat.le_of_ble_eq_true rfl⟩) (xpreV (C := "EventGraphText$Merge") (T := T_Merge) (N := 4) hP hK hN rfl (cW_G (xin_lt g2))) rfl rfl hl.1 rfl (lv_room (Nat.le_of_ble_eq_true rfl)) d_Text_deliver_125 ⟨Nat.le_of_ble_eq_true rfl, Nat.le_of_ble_eq_true rfl⟩) hS (fun _ h => h) (fun H locs hP hS => ?_)
        refine lv_aload hx hb d_Text_deliver_128 (lv_at hl 2 rfl) ?_
        refine lv_lload hx hb d_Text_deliver_130 (lv_at hl 1 rfl) ?_
        refine lv_lload hx hb d_Text_deliver_132 (lv_at hl 0 rfl) ?_
        refine lv_lor hx hb d_Text_deliver_134 ?_
        obtain ⟨w135, hw135, hm⟩ := xlt_some hm
        refine va_putN (D := (dC, dI)) (ci := 6) (v := .long ((xs_l u (2 + ((xs_i u (24 + (a1.toNatClampNeg))).toNatClampNeg))) ||| ((xs_l u (5 + (a1.toNatClampNeg))) &&& ((xs_l u (2 + ((xs_i u (24 + (a1.toNatClampNeg))).toNatClampNeg))) ^^^ (-1 : Int64))))) (ty := .long) (C := "EventGraphText$Site") (T := T_Site) (N := 3) hx hb hT hin_Site ty_Site tyok_Site nm_Site hown hK hP (hD _) hS (19 + 4 * ((xs_i u (24 + (a1.toNatClampNeg))).toNatClampNeg)) (cW_S (xin_lt g2)) rfl 2 (by decide) (va_Nw.use rfl (nf_6 hN)) (fun _ h9 => h9) rfl (by decide +kernel) rfl rfl (Nat.le_of_ble_eq_true rfl) d_Text_deliver_135 (fun H locs hP _ hS => ?_)
        replace hP : va_P (dC, dI) xCl (cW dT ad w135) H := xp_conv ((cW_f_S_graph (xin_lt g2)).trans (congrArg (cW dT ad) hw135.symm)) hP
        exact hb138 ((xs_l u (5 + (a1.toNatClampNeg))) &&& ((xs_l u (2 + ((xs_i u (24 + (a1.toNatClampNeg))).toNatClampNeg))) ^^^ (-1 : Int64))) w135 _ _ _ (lv_sub hl [0] rfl) hP hS hm
    · replace hm := xi_neg h hm
      refine lv_iconst (v := (-1 : Int32)) hx hb d_Text_deliver_64 (by decide) ?_
      exact hret hm hP hS d_Text_deliver_65
  · replace hm := xi_pos h hm
    refine lv_sipush (v := (-1000 : Int32)) hx hb d_Text_deliver_8 (by decide) ?_
    exact hret hm hP hS d_Text_deliver_11
set_option maxHeartbeats 4000000 in
set_option maxRecDepth 100000 in
theorem c_Text_discard (l : Launch) (dC : Nat → ClassId) (dI : Nat → Nat → Nat) (dT : Nat → ClassId) (ad : Nat → Nat) (hD : ∀ u, va_D (xA ad 50) (cW dT ad u)) (a1 : Int32) (u : xS) (out : Int32) (u1 : xS) (hm : m_Text_discard a1 u = some (out, u1)) : Met l y_Text_discard (Cond.code y_Text_discard b_Text_discard 2 (some .boolean) :: xG) (xrm 1 21) (va_Pc [.ref (ad 0), .int a1] (xR (dC, dI) xCl (xT dT) (cW dT ad u))) (va_Qi (fun r9 (u9 : xS) => r9 = out ∧ u9 = u1) (fun u9 t => va_P (dC, dI) xCl (cW dT ad u9) t.heap) (xA ad 50)) 0 0 (xA ad 50) := by
  refine xm_rwz (Wd := cW dT ad) (cc := b_Text_discard) (maxL := 2) (by decide) rfl (Nat.le_of_ble_eq_true rfl) ?_
  intro p e s m args below meth c Q ls hx hb hml hts hown hK hN hP hl hret
  have hT : ∀ w ∈ xG, w.before args s = true := fun w h => hts w (List.mem_cons_of_mem _ h)
  have hown : s.vm.findClass "EventGraphText" = some m.cls := hown
  have hl : lv_has ls 2 [(0, .ref (ad 0)), (1, .int a1)] := hl
  have hS : va_S (xA ad 50) s.heap s.heap [] := va_S.rf
  unfold m_Text_discard at hm
  refine lv_aload_n hx hb d_Text_discard_0 rfl (lv_at hl 0 rfl) ?_
  refine lv_iload_n hx hb d_Text_discard_1 rfl (lv_at hl 1 rfl) ?_
  obtain ⟨r2, h2, hm⟩ := xb1_some hm
  refine xc_i (va_runV (C := "EventGraphText") (As := [.int a1]) (rest := []) ⟨hx, hb, hml, hown, hts⟩ (c_Text_isUnderWay l dC dI dT ad a1 u r2 h2) (cwV 1 hts (xgV wd_414 wd_416 wds_15 wd_1 wd_417) rfl rfl rfl pd_Text_isUnderWay ⟨Nat.le_of_ble_eq_true rfl, Nat.le_of_ble_eq_true rfl⟩) (xpreV (C := "EventGraphText") (T := T_Text) (N := 5) hP hK hN rfl cW_E) rfl rfl hl.1 rfl (lv_room (Nat.le_of_ble_eq_true rfl)) d_Text_discard_2 ⟨Nat.le_of_ble_eq_true rfl, Nat.le_of_ble_eq_true rfl⟩) hP hS (fun H locs hP hS => ?_)
  refine lv_if_ne (tgt := 10) hx hb d_Text_discard_5 rfl (fun h => ?_) (fun h => ?_)
  · replace hm := xi_neg h hm
    refine lv_aload_n hx hb d_Text_discard_10 rfl (lv_at hl 0 rfl) ?_
    refine va_get (D := (dC, dI)) (ci := 7) (v := .ref (ad 31)) (C := "EventGraphText") (T := T_Text) (N := 5) hx hb hT hin_Text hown hK hP 0 cW_E rfl 4 (by decide) (hT _ wd_188) (fun _ h9 => h9) rfl d_Text_discard_11 ?_
    refine lv_iload_n hx hb d_Text_discard_14 rfl (lv_at hl 1 rfl) ?_
    obtain ⟨g1, hm⟩ := xg_some hm
    refine va_aldq hx hb hK hP 31 4 rfl rfl g1 d_Text_discard_15 ?_
    refine W.eq (g2 := F0 m 16 ls [.ref (ad (32 + 3 * (a1.toNatClampNeg)))]) rfl ?_
    refine lv_iconst (v := (0 : Int32)) hx hb d_Text_discard_16 (by decide) ?_
    obtain ⟨w17, hw17, hm⟩ := xlt_some hm
    refine va_putN (D := (dC, dI)) (ci := 4) (v := .int (0 : Int32)) (ty := .boolean) (C := "EventGraphText$Message") (T := T_Message) (N := 5) hx hb hT hin_Message ty_Message tyok_Message nm_Message hown hK hP (hD _) hS (32 + 3 * (a1.toNatClampNeg)) (cW_M (xin_lt g1)) rfl 1 (by decide) (va_Nw.use rfl (nf_8 hN)) (fun _ h9 => h9) rfl (by decide +kernel) rfl rfl (Nat.le_of_ble_eq_true rfl) d_Text_discard_17 (fun H locs hP _ hS => ?_)
    replace hP : va_P (dC, dI) xCl (cW dT ad w17) H := xp_conv ((cW_f_M_underWay (xin_lt g1)).trans (congrArg (cW dT ad) hw17.symm)) hP
    refine lv_iconst (v := (1 : Int32)) hx hb d_Text_discard_20 (by decide) ?_
    exact hret hm rfl hP hS d_Text_discard_21
  · replace hm := xi_pos h hm
    refine lv_iconst (v := (0 : Int32)) hx hb d_Text_discard_8 (by decide) ?_
    exact hret hm rfl hP hS d_Text_discard_9
set_option maxHeartbeats 4000000 in
set_option maxRecDepth 100000 in
theorem c_Text_hear (l : Launch) (dC : Nat → ClassId) (dI : Nat → Nat → Nat) (dT : Nat → ClassId) (ad : Nat → Nat) (hD : ∀ u, va_D (xA ad 50) (cW dT ad u)) (a1 : Int32) (a2 : Int32) (u : xS) (out : Int32) (u1 : xS) (hm : m_Text_hear a1 a2 u = some (out, u1)) : Met l y_Text_hear (Cond.code y_Text_hear b_Text_hear 6 (some .int) :: xG) (xrm 4 89) (va_Pc [.ref (ad 0), .int a1, .int a2] (xR (dC, dI) xCl (xT dT) (cW dT ad u))) (va_Qi (fun r9 (u9 : xS) => r9 = out ∧ u9 = u1) (fun u9 t => va_P (dC, dI) xCl (cW dT ad u9) t.heap) (xA ad 50)) 0 0 (xA ad 50) := by
  refine xm_rwi (Wd := cW dT ad) (cc := b_Text_hear) (maxL := 6) (by decide) rfl (Nat.le_of_ble_eq_true rfl) ?_
  intro p e s m args below meth c Q ls hx hb hml hts hown hK hN hP hl hret
  have hT : ∀ w ∈ xG, w.before args s = true := fun w h => hts w (List.mem_cons_of_mem _ h)
  have hown : s.vm.findClass "EventGraphText" = some m.cls := hown
  have hl : lv_has ls 6 [(0, .ref (ad 0)), (1, .int a1), (2, .int a2)] := hl
  have hS : va_S (xA ad 50) s.heap s.heap [] := va_S.rf
  unfold m_Text_hear at hm
  refine lv_iload_n hx hb d_Text_hear_0 rfl (lv_at hl 1 rfl) ?_
  refine lv_iload_n hx hb d_Text_hear_1 rfl (lv_at hl 2 rfl) ?_
  obtain ⟨r2, h2, hm⟩ := xb1_some hm
  refine xc_i (va_runS (As := [.int a1, .int a2]) (rest := []) ⟨hx, hb, hml, hown, hts⟩ (c_Text_areTwoSites l a1 a2 r2 h2) (va_cwS 2 hts (xgS wd_303 wd_304 wd_1 wd_305) rfl rfl rfl pd_Text_areTwoSites.2 ⟨Nat.le_of_ble_eq_true rfl, Nat.le_of_ble_eq_true rfl⟩) xpreS0 rfl rfl hl.1 rfl (lv_room (Nat.le_of_ble_eq_true rfl)) d_Text_hear_2 ⟨Nat.le_of_ble_eq_true rfl, Nat.le_of_ble_eq_true rfl⟩) hP hS (fun H locs hP hS => ?_)
  refine lv_if_ne (tgt := 12) hx hb d_Text_hear_5 rfl (fun h => ?_) (fun h => ?_)
  · replace hm := xi_neg h hm
    refine lv_aload_n hx hb d_Text_hear_12 rfl (lv_at hl 0 rfl) ?_
    refine va_get (D := (dC, dI)) (ci := 7) (v := .ref (ad 18)) (C := "EventGraphText") (T := T_Text) (N := 5) hx hb hT hin_Text hown hK hP 0 cW_E rfl 3 (by decide) (hT _ wd_187) (fun _ h9 => h9) rfl d_Text_hear_13 ?_
    refine lv_iload_n hx hb d_Text_hear_16 rfl (lv_at hl 1 rfl) ?_
    obtain ⟨g1, hm⟩ := xg_some hm
    refine va_aldq hx hb hK hP 18 3 rfl rfl g1 d_Text_hear_17 ?_
    refine W.eq (g2 := F0 m 18 ls [.ref (ad (19 + 4 * (a1.toNatClampNeg)))]) rfl ?_
    refine lv_astore_n (lv' := [(3, .ref (ad (19 + 4 * (a1.toNatClampNeg)))), (0, .ref (ad 0)), (1, .int a1), (2, .int a2)]) hx hb d_Text_hear_18 rfl hl (Nat.le_of_ble_eq_true rfl) rfl (fun ls hl => ?_)
    refine lv_aload_n hx hb d_Text_hear_19 rfl (lv_at hl 1 rfl) ?_
    refine va_get (D := (dC, dI)) (ci := 7) (v := .ref (ad 1)) (C := "EventGraphText") (T := T_Text) (N := 5) hx hb hT hin_Text hown hK hP 0 cW_E rfl 0 (by decide) (hT _ wd_184) (fun _ h9 => h9) rfl d_Text_hear_20 ?_
    refine lv_aload_n hx hb d_Text_hear_23 rfl (lv_at hl 1 rfl) ?_
    refine va_get (D := (dC, dI)) (ci := 7) (v := .ref (ad 18)) (C := "EventGraphText") (T := T_Text) (N := 5) hx hb hT hin_Text hown hK hP 0 cW_E rfl 3 (by decide) (hT _ wd_187) (fun _ h9 => h9) rfl d_Text_hear_24 ?_
    refine lv_iload_n hx hb d_Text_hear_27 rfl (lv_at hl 3 rfl) ?_
    obtain ⟨g2, hm⟩ := xg_some hm
    refine va_aldq hx hb hK hP 18 3 rfl rfl g2 d_Text_hear_28 ?_
    refine W.eq (g2 := F0 m 29 ls [.ref (ad (19 + 4 * (a2.toNatClampNeg))), .ref (ad 1)]) rfl ?_
    refine va_getN (D := (dC, dI)) (ci := 6) (v := .long (xs_l u (2 + (a2.toNatClampNeg)))) (C := "EventGraphText$Site") (T := T_Site) (N := 3) hx hb hT hin_Site hown hK hP (19 + 4 * (a2.toNatClampNeg)) (cW_S (xin_lt g2)) rfl 2 (by decide) (va_Nw.use rfl (nf_6 hN)) (fun _ h9 => h9) rfl d_Text_hear_29 ?_
    obtain ⟨r32, h32, hm⟩ := xb1_some hm
    refine xc_l (va_runV (C := "EventGraphText$History") (As := [.long (xs_l u (2 + (a2.toNatClampNeg)))]) (rest := []) ⟨hx, hb, hml, hown, hts⟩ (c_History_headsOf l dC dI dT ad (xs_l u (2 + (a2.toNatClampNeg))) u r32 h32) (cwV 1 hts (xgV wd_484 wd_238 wd_239 wd_2 wd_240) rfl rfl rfl pd_History_headsOf ⟨Nat.le_of_ble_eq_true rfl, Nat.le_of_ble_eq_true rfl⟩) (xpreV (C := "EventGraphText$History") (T := T_History) (N := 9) hP hK hN rfl cW_H) rfl rfl hl.1 rfl (lv_room (Nat.le_of_ble_eq_true rfl)) d_Text_hear_32 ⟨Nat.le_of_ble_eq_true rfl, Nat.le_of_ble_eq_true rfl⟩) hP hS (fun H locs hP hS => ?_)
    refine lv_aload_n hx hb d_Text_hear_35 rfl (lv_at hl 0 rfl) ?_
    refine va_getN (D := (dC, dI)) (ci := 6) (v := .long (xs_l u (2 + (a1.toNatClampNeg)))) (C := "EventGraphText$Site") (T := T_Site) (N := 3) hx hb hT hin_Site hown hK hP (19 + 4 * (a1.toNatClampNeg)) (cW_S (xin_lt g1)) rfl 2 (by decide) (va_Nw.use rfl (nf_6 hN)) (fun _ h9 => h9) rfl d_Text_hear_36 ?_
    refine lv_land hx hb d_Text_hear_39 ?_
    refine lv_lstore (lv' := [(4, .long (r32 &&& (xs_l u (2 + (a1.toNatClampNeg))))), (3, .ref (ad (19 + 4 * (a1.toNatClampNeg)))), (0, .ref (ad 0)), (1, .int a1), (2, .int a2)]) hx hb d_Text_hear_40 hl (Nat.le_of_ble_eq_true rfl) rfl (fun ls hl => ?_)
    refine lv_aload_n hx hb d_Text_hear_42 rfl (lv_at hl 1 rfl) ?_
    refine va_getN (D := (dC, dI)) (ci := 6) (v := .ref (ad (20 + 4 * (a1.toNatClampNeg)))) (C := "EventGraphText$Site") (T := T_Site) (N := 3) hx hb hT hin_Site hown hK hP (19 + 4 * (a1.toNatClampNeg)) (cW_S (xin_lt g1)) rfl 0 (by decide) (va_Nw.use rfl (nf_4 hN)) (fun _ h9 => h9) rfl d_Text_hear_43 ?_
    refine lv_iload_n hx hb d_Text_hear_46 rfl (lv_at hl 4 rfl) ?_
    refine lv_aload_n hx hb d_Text_hear_47 rfl (lv_at hl 2 rfl) ?_
    refine va_get (D := (dC, dI)) (ci := 7) (v := .ref (ad 1)) (C := "EventGraphText") (T := T_Text) (N := 5) hx hb hT hin_Text hown hK hP 0 cW_E rfl 0 (by decide) (hT _ wd_184) (fun _ h9 => h9) rfl d_Text_hear_48 ?_
    refine lv_lload hx hb d_Text_hear_51 (lv_at hl 0 rfl) ?_
    obtain ⟨r53, h53, hm⟩ := xb1_some hm
    refine xc_l (va_runV (C := "EventGraphText$History") (As := [.long (r32 &&& (xs_l u (2 + (a1.toNatClampNeg))))]) (rest := [.int a2, .ref (ad (20 + 4 * (a1.toNatClampNeg)))]) ⟨hx, hb, hml, hown, hts⟩ (c_History_withAncestors l dC dI dT ad (r32 &&& (xs_l u (2 + (a1.toNatClampNeg)))) u r53 h53) (cwV 1 hts (xgV wd_419 wd_420 wd_421 wd_2 wd_422) rfl rfl rfl pd_History_withAncestors ⟨Nat.le_of_ble_eq_true rfl, Nat.le_of_ble_eq_true rfl⟩) (xpreV (C := "EventGraphText$History") (T := T_History) (N := 9) hP hK hN rfl cW_H) rfl rfl hl.1 rfl (lv_room (Nat.le_of_ble_eq_true rfl)) d_Text_hear_53 ⟨Nat.le_of_ble_eq_true rfl, Nat.le_of_ble_eq_true rfl⟩) hP hS (fun H locs hP hS => ?_)
    obtain ⟨w56, hw56, hm⟩ := xlt_some hm
    refine va_last hx hb hK hP (hD _) hS (20 + 4 * (a1.toNatClampNeg)) 1 (cW_S_beliefs (xin_lt g1)) rfl g2 d_Text_hear_56 (fun H locs hP _ hS => ?_)
    replace hP : va_P (dC, dI) xCl (cW dT ad w56) H := xp_conv ((cW_s_S_beliefs (xin_lt g1)).trans (congrArg (cW dT ad) hw56.symm)) hP
    refine lv_aload_n hx hb d_Text_hear_57 rfl (lv_at hl 1 rfl) ?_
    refine va_getN (D := (dC, dI)) (ci := 6) (v := .ref (ad (20 + 4 * (a1.toNatClampNeg)))) (C := "EventGraphText$Site") (T := T_Site) (N := 3) hx hb hT hin_Site hown hK hP (19 + 4 * (a1.toNatClampNeg)) (cW_S (xin_lt g1)) rfl 0 (by decide) (va_Nw.use rfl (nf_4 hN)) (fun _ h9 => h9) rfl d_Text_hear_58 ?_
    refine lv_iload_n hx hb d_Text_hear_61 rfl (lv_at hl 4 rfl) ?_
    refine va_lald hx hb hK hP (20 + 4 * (a1.toNatClampNeg)) 1 (cW_S_beliefs (xin_lt g1)) rfl g2 d_Text_hear_62 ?_
    obtain ⟨r63, h63, hm⟩ := xb1_some hm
    refine xc_i (va_runS (As := [.long (xs_L w56 (3 + (a1.toNatClampNeg)) a2.toNatClampNeg)]) (rest := []) ⟨hx, hb, hml, hown, hts⟩ (c_Long_bitCount l (xs_L w56 (3 + (a1.toNatClampNeg)) a2.toNatClampNeg) r63 h63) (va_cwS 1 hts (xgS wd_223 wd_224 wd_10 wd_225) rfl rfl rfl pd_Long_bitCount.2 ⟨Nat.le_of_ble_eq_true rfl, Nat.le_of_ble_eq_true rfl⟩) xpreS0 rfl rfl hl.1 rfl (lv_room (Nat.le_of_ble_eq_true rfl)) d_Text_hear_63 ⟨Nat.le_of_ble_eq_true rfl, Nat.le_of_ble_eq_true rfl⟩) hP hS (fun H locs hP hS => ?_)
    exact hret hm hP hS d_Text_hear_66
  · replace hm := xi_pos h hm
    refine lv_sipush (v := (-1000 : Int32)) hx hb d_Text_hear_8 (by decide) ?_
    exact hret hm hP hS d_Text_hear_11
