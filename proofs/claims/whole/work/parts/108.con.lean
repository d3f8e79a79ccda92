set_option maxHeartbeats 4000000 in
set_option maxRecDepth 100000 in
theorem c_Model_in (l : Launch) (a0 : Int64) (a2 : Int32) (out : Int32) (hm : m_Model_in a0 a2 = some out) : Met l y_Model_in (Cond.code y_Model_in b_Model_in 3 (some .boolean) :: xG) (xrm 0 0) (va_Pc [.long a0, .int a2] (fun _ => True)) (va_Qi (fun r9 (_ : Unit) => r9 = out) (fun _ _ => True) xN) 0 0 xN := by
  refine xm_puz (cc := b_Model_in) (maxL := 3) (by decide) rfl (Nat.le_of_ble_eq_true rfl) ?_
  intro p e s m args below meth c Q ls hx hb hml hts hown hl hret
  have hT : ∀ w ∈ xG, w.before args s = true := fun w h => hts w (List.mem_cons_of_mem _ h)
  have hown : s.vm.findClass "EventGraphTextModel" = some m.cls := hown
  have hl : lv_has ls 3 [(0, .long a0), (2, .int a2)] := hl
  have hS : va_S xN s.heap s.heap [] := va_S.rf
  unfold m_Model_in at hm
  refine lv_lload_n hx hb d_Model_in_0 rfl (lv_at hl 0 rfl) ?_
  refine lv_iload_n hx hb d_Model_in_1 rfl (lv_at hl 1 rfl) ?_
  refine lv_lushr (v := (xUshr a0 a2)) hx hb d_Model_in_2 rfl ?_
  refine lv_lconst (v := (1 : Int64)) hx hb d_Model_in_3 (by decide) ?_
  refine lv_land hx hb d_Model_in_4 ?_
  refine lv_lconst (v := (0 : Int64)) hx hb d_Model_in_5 (by decide) ?_
  refine xl_cmp_eq (tgt := 14) hx hb d_Model_in_6 d_Model_in_7 rfl (fun h => ?_) (fun h => ?_)
  · replace hm := xi_pos h hm
    refine lv_iconst (v := (0 : Int32)) hx hb d_Model_in_14 (by decide) ?_
    exact hret hm rfl hS d_Model_in_15
  · replace hm := xi_neg h hm
    refine lv_iconst (v := (1 : Int32)) hx hb d_Model_in_10 (by decide) ?_
    refine lv_goto (tgt := 15) hx hb d_Model_in_11 rfl ?_
    exact hret hm rfl hS d_Model_in_15
set_option maxHeartbeats 4000000 in
set_option maxRecDepth 100000 in
theorem c_Model_one (l : Launch) (a0 : Int32) (out : Int64) (hm : m_Model_one a0 = some out) : Met l y_Model_one (Cond.code y_Model_one b_Model_one 1 (some .long) :: xG) (xrm 0 0) (va_Pc [.int a0] (fun _ => True)) (va_Ql (fun r9 (_ : Unit) => r9 = out) (fun _ _ => True) xN) 0 0 xN := by
  refine xm_puj (cc := b_Model_one) (maxL := 1) (by decide) rfl (Nat.le_of_ble_eq_true rfl) ?_
  intro p e s m args below meth c Q ls hx hb hml hts hown hl hret
  have hT : ∀ w ∈ xG, w.before args s = true := fun w h => hts w (List.mem_cons_of_mem _ h)
  have hown : s.vm.findClass "EventGraphTextModel" = some m.cls := hown
  have hl : lv_has ls 1 [(0, .int a0)] := hl
  have hS : va_S xN s.heap s.heap [] := va_S.rf
  unfold m_Model_one at hm
  refine lv_lconst (v := (1 : Int64)) hx hb d_Model_one_0 (by decide) ?_
  refine lv_iload_n hx hb d_Model_one_1 rfl (lv_at hl 0 rfl) ?_
  refine lv_lshl (v := (xShl (1 : Int64) a0)) hx hb d_Model_one_2 rfl ?_
  exact hret hm hS d_Model_one_3
set_option maxHeartbeats 4000000 in
set_option maxRecDepth 100000 in
theorem c_Model_many (l : Launch) (a0 : Int64) (out : Int32) (hm : m_Model_many a0 = some out) : Met l y_Model_many (Cond.code y_Model_many b_Model_many 4 (some .int) :: xG) (xrm 1 22) (va_Pc [.long a0] (fun _ => True)) (va_Qi (fun r9 (_ : Unit) => r9 = out) (fun _ _ => True) xN) 0 0 xN := by
  refine xm_pui (cc := b_Model_many) (maxL := 4) (by decide) rfl (Nat.le_of_ble_eq_true rfl) ?_
  intro p e s m args below meth c Q ls hx hb hml hts hown hl hret
  have hT : ∀ w ∈ xG, w.before args s = true := fun w h => hts w (List.mem_cons_of_mem _ h)
  have hown : s.vm.findClass "EventGraphTextModel" = some m.cls := hown
  have hl : lv_has ls 4 [(0, .long a0)] := hl
  have hS : va_S xN s.heap s.heap [] := va_S.rf
  have hs4 : ∀ (k4 : Int64 → Int32 → Int32 → Option Int32) (hk4 : ∀ (b0 : Int64) (b2 : Int32) (b3 : Int32) (H : Heap) (locs : List Loc) (ls : Array Slot), lv_has ls 4 [(0, .long b0), (2, .int b2), (3, .int b3)] → va_S xN s.heap H locs → k4 b0 b2 b3 = some out → W p l e (xrm 1 22) s m args below meth c H locs 0 0 Q (F0 m 4 ls [])), ∀ (b0 : Int64) (b2 : Int32) (b3 : Int32) (H : Heap) (locs : List Loc) (ls : Array Slot), lv_has ls 4 [(0, .long b0), (2, .int b2), (3, .int b3)] → va_S xN s.heap H locs → m_Model_many_s4 k4 b0 b2 b3 = some out → W p l e (xrm 1 22) s m args below meth c H locs 0 0 Q (F0 m 4 ls []) := by
    intro k4 hk4 b0 b2 b3 H locs ls hl hS hm
    unfold m_Model_many_s4 at hm
    refine lv_iload_n hx hb d_Model_many_4 rfl (lv_at hl 2 rfl) ?_
    refine lv_bipush (v := (40 : Int32)) hx hb d_Model_many_5 (by decide) ?_
    refine lv_icmp_ge (tgt := 32) hx hb d_Model_many_7 rfl (fun h => ?_) (fun h => ?_)
    · replace hm := xi_pos h hm
      refine lv_iload_n hx hb d_Model_many_32 rfl (lv_at hl 1 rfl) ?_
      exact hret hm hS d_Model_many_33
    · replace hm := xi_neg h hm
      refine lv_iload_n hx hb d_Model_many_10 rfl (lv_at hl 1 rfl) ?_
      refine lv_lload_n hx hb d_Model_many_11 rfl (lv_at hl 0 rfl) ?_
      refine lv_iload_n hx hb d_Model_many_12 rfl (lv_at hl 2 rfl) ?_
      obtain ⟨r13, h13, hm⟩ := xb1_some hm
      refine xc_i0 (va_runS (As := [.long b0, .int b3]) (rest := [.int b2]) ⟨hx, hb, hml, hown, hts⟩ (c_Model_in l b0 b3 r13 h13) (va_cwS 2 hts (xgS wd_656 wd_657 wd_9 wd_658) rfl rfl rfl pd_Model_in.2 ⟨Nat.le_of_ble_eq_true rfl, Nat.le_of_ble_eq_true rfl⟩) xpreS0 rfl rfl hl.1 rfl (lv_room (Nat.le_of_ble_eq_true rfl)) d_Model_many_13 ⟨Nat.le_of_ble_eq_true rfl, Nat.le_of_ble_eq_true rfl⟩) hS (fun H locs hS => ?_)
      refine lv_if_eq (tgt := 23) hx hb d_Model_many_16 rfl (fun h => ?_) (fun h => ?_)
      · replace hm := xi_pos h hm
        refine lv_iconst (v := (0 : Int32)) hx hb d_Model_many_23 (by decide) ?_
        refine lv_iadd hx hb d_Model_many_24 ?_
        refine lv_istore_n (lv' := [(2, .int (b2 + (0 : Int32))), (0, .long b0), (3, .int b3)]) hx hb d_Model_many_25 rfl hl (Nat.le_of_ble_eq_true rfl) rfl (fun ls hl => ?_)
        refine lv_iinc (k := 2) (v := (b3 + (1 : Int32))) (lv' := [(3, .int (b3 + (1 : Int32))), (2, .int (b2 + (0 : Int32))), (0, .long b0)]) hx hb d_Model_many_26 hl rfl rfl (Nat.le_of_ble_eq_true rfl) rfl (fun ls hl => ?_)
        refine lv_goto (tgt := 4) hx hb d_Model_many_29 rfl ?_
        exact hk4 b0 (b2 + (0 : Int32)) (b3 + (1 : Int32)) _ _ _ (lv_sub hl [2, 1, 0] rfl) hS hm
      · replace hm := xi_neg h hm
        refine lv_iconst (v := (1 : Int32)) hx hb d_Model_many_19 (by decide) ?_
        refine lv_goto (tgt := 24) hx hb d_Model_many_20 rfl ?_
        refine lv_iadd hx hb d_Model_many_24 ?_
        refine lv_istore_n (lv' := [(2, .int (b2 + (1 : Int32))), (0, .long b0), (3, .int b3)]) hx hb d_Model_many_25 rfl hl (Nat.le_of_ble_eq_true rfl) rfl (fun ls hl => ?_)
        refine lv_iinc (k := 2) (v := (b3 + (1 : Int32))) (lv' := [(3, .int (b3 + (1 : Int32))), (2, .int (b2 + (1 : Int32))), (0, .long b0)]) hx hb d_Model_many_26 hl rfl rfl (Nat.le_of_ble_eq_true rfl) rfl (fun ls hl => ?_)
        refine lv_goto (tgt := 4) hx hb d_Model_many_29 rfl ?_
        exact hk4 b0 (b2 + (1 : Int32)) (b3 + (1 : Int32)) _ _ _ (lv_sub hl [2, 1, 0] rfl) hS hm
  have hl4 : ∀ (fu : Nat), ∀ (b0 : Int64) (b2 : Int32) (b3 : Int32) (H : Heap) (locs : List Loc) (ls : Array Slot), lv_has ls 4 [(0, .long b0), (2, .int b2), (3, .int b3)] → va_S xN s.heap H locs → m_Model_many_l4 fu b0 b2 b3 = some out → W p l e (xrm 1 22) s m args below meth c H locs 0 0 Q (F0 m 4 ls []) := by
    intro fu
    induction fu with
    | zero => intro b0 b2 b3 H locs ls hl hS hm; exact absurd hm (fun z => by cases z)
    | succ n ih => intro b0 b2 b3 H locs ls hl hS hm; exact hs4 (m_Model_many_l4 n) ih b0 b2 b3 H locs ls hl hS hm
  unfold m_Model_many at hm
  refine lv_iconst (v := (0 : Int32)) hx hb d_Model_many_0 (by decide) ?_
  refine lv_istore_n (lv' := [(2, .int (0 : Int32)), (0, .long a0)]) hx hb d_Model_many_1 rfl hl (Nat.le_of_ble_eq_true rfl) rfl (fun ls hl => ?_)
  refine lv_iconst (v := (0 : Int32)) hx hb d_Model_many_2 (by decide) ?_
  refine lv_istore_n (lv' := [(3, .int (0 : Int32)), (2, .int (0 : Int32)), (0, .long a0)]) hx hb d_Model_many_3 rfl hl (Nat.le_of_ble_eq_true rfl) rfl (fun ls hl => ?_)
  exact hl4 xFU a0 (0 : Int32) (0 : Int32) _ _ _ (lv_sub hl [2, 1, 0] rfl) hS hm
set_option maxHeartbeats 4000000 in
set_option maxRecDepth 100000 in
theorem c_Model_wrong (l : Launch) (a0 : Int32) (out : Int32) (hm : m_Model_wrong a0 = some out) : Met l y_Model_wrong (Cond.code y_Model_wrong b_Model_wrong 1 (some .boolean) :: xG) (xrm 0 0) (va_Pc [.int a0] (fun _ => True)) (va_Qi (fun r9 (_ : Unit) => r9 = out) (fun _ _ => True) xN) 0 0 xN := by
  refine xm_puz (cc := b_Model_wrong) (maxL := 1) (by decide) rfl (Nat.le_of_ble_eq_true rfl) ?_
  intro p e s m args below meth c Q ls hx hb hml hts hown hl hret
  have hT : ∀ w ∈ xG, w.before args s = true := fun w h => hts w (List.mem_cons_of_mem _ h)
  have hown : s.vm.findClass "EventGraphTextModel" = some m.cls := hown
  have hl : lv_has ls 1 [(0, .int a0)] := hl
  have hS : va_S xN s.heap s.heap [] := va_S.rf
  unfold m_Model_wrong at hm
  refine lv_iload_n hx hb d_Model_wrong_0 rfl (lv_at hl 0 rfl) ?_
  refine lv_if_lt (tgt := 9) hx hb d_Model_wrong_1 rfl (fun h => ?_) (fun h => ?_)
  · replace hm := xi_pos h hm
    refine lv_iconst (v := (1 : Int32)) hx hb d_Model_wrong_9 (by decide) ?_
    refine lv_goto (tgt := 14) hx hb d_Model_wrong_10 rfl ?_
    exact hret hm rfl hS d_Model_wrong_14
  · replace hm := xi_neg h hm
    refine lv_iload_n hx hb d_Model_wrong_4 rfl (lv_at hl 0 rfl) ?_
    refine lv_iconst (v := (2 : Int32)) hx hb d_Model_wrong_5 (by decide) ?_
    refine lv_icmp_le (tgt := 13) hx hb d_Model_wrong_6 rfl (fun h => ?_) (fun h => ?_)
    · replace hm := xi_pos h hm
      refine lv_iconst (v := (0 : Int32)) hx hb d_Model_wrong_13 (by decide) ?_
      exact hret hm rfl hS d_Model_wrong_14
    · replace hm := xi_neg h hm
      refine lv_iconst (v := (1 : Int32)) hx hb d_Model_wrong_9 (by decide) ?_
      refine lv_goto (tgt := 14) hx hb d_Model_wrong_10 rfl ?_
      exact hret hm rfl hS d_Model_wrong_14
set_option maxHeartbeats 4000000 in
set_option maxRecDepth 100000 in
theorem c_Model_wrongPair (l : Launch) (a0 : Int32) (a1 : Int32) (out : Int32) (hm : m_Model_wrongPair a0 a1 = some out) : Met l y_Model_wrongPair (Cond.code y_Model_wrongPair b_Model_wrongPair 2 (some .boolean) :: xG) (xrm 1 20) (va_Pc [.int a0, .int a1] (fun _ => True)) (va_Qi (fun r9 (_ : Unit) => r9 = out) (fun _ _ => True) xN) 0 0 xN := by
  refine xm_puz (cc := b_Model_wrongPair) (maxL := 2) (by decide) rfl (Nat.le_of_ble_eq_true rfl) ?_
  intro p e s m args below meth c Q ls hx hb hml hts hown hl hret
  have hT : ∀ w ∈ xG, w.before args s = true := fun w h => hts w (List.mem_cons_of_mem _ h)
  have hown : s.vm.findClass "EventGraphTextModel" = some m.cls := hown
  have hl : lv_has ls 2 [(0, .int a0), (1, .int a1)] := hl
  have hS : va_S xN s.heap s.heap [] := va_S.rf
  unfold m_Model_wrongPair at hm
  refine lv_iload_n hx hb d_Model_wrongPair_0 rfl (lv_at hl 0 rfl) ?_
  obtain ⟨r1, h1, hm⟩ := xb1_some hm
  refine xc_i0 (va_runS (As := [.int a0]) (rest := []) ⟨hx, hb, hml, hown, hts⟩ (c_Model_wrong l a0 r1 h1) (va_cwS 1 hts (xgS wd_641 wd_642 wd_9 wd_643) rfl rfl rfl pd_Model_wrong.2 ⟨Nat.le_of_ble_eq_true rfl, Nat.le_of_ble_eq_true rfl⟩) xpreS0 rfl rfl hl.1 rfl (lv_room (Nat.le_of_ble_eq_true rfl)) d_Model_wrongPair_1 ⟨Nat.le_of_ble_eq_true rfl, Nat.le_of_ble_eq_true rfl⟩) hS (fun H locs hS => ?_)
  refine lv_if_ne (tgt := 19) hx hb d_Model_wrongPair_4 rfl (fun h => ?_) (fun h => ?_)
  · replace hm := xi_neg h hm
    refine lv_iconst (v := (1 : Int32)) hx hb d_Model_wrongPair_19 (by decide) ?_
    refine lv_goto (tgt := 24) hx hb d_Model_wrongPair_20 rfl ?_
    exact hret hm rfl hS d_Model_wrongPair_24
  · replace hm := xi_pos h hm
    refine lv_iload_n hx hb d_Model_wrongPair_7 rfl (lv_at hl 1 rfl) ?_
    obtain ⟨r8, h8, hm⟩ := xb1_some hm
    refine xc_i0 (va_runS (As := [.int a1]) (rest := []) ⟨hx, hb, hml, hown, hts⟩ (c_Model_wrong l a1 r8 h8) (va_cwS 1 hts (xgS wd_641 wd_642 wd_9 wd_643) rfl rfl rfl pd_Model_wrong.2 ⟨Nat.le_of_ble_eq_true rfl, Nat.le_of_ble_eq_true rfl⟩) xpreS0 rfl rfl hl.1 rfl (lv_room (Nat.le_of_ble_eq_true rfl)) d_Model_wrongPair_8 ⟨Nat.le_of_ble_eq_true rfl, Nat.le_of_ble_eq_true rfl⟩) hS (fun H locs hS => ?_)
    refine lv_if_ne (tgt := 19) hx hb d_Model_wrongPair_11 rfl (fun h => ?_) (fun h => ?_)
    · replace hm := xi_neg h hm
      refine lv_iconst (v := (1 : Int32)) hx hb d_Model_wrongPair_19 (by decide) ?_
      refine lv_goto (tgt := 24) hx hb d_Model_wrongPair_20 rfl ?_
      exact hret hm rfl hS d_Model_wrongPair_24
    · replace hm := xi_pos h hm
      refine lv_iload_n hx hb d_Model_wrongPair_14 rfl (lv_at hl 0 rfl) ?_
      refine lv_iload_n hx hb d_Model_wrongPair_15 rfl (lv_at hl 1 rfl) ?_
      refine lv_icmp_ne (tgt := 23) hx hb d_Model_wrongPair_16 rfl (fun h => ?_) (fun h => ?_)
      · replace hm := xi_neg h hm
        refine lv_iconst (v := (0 : Int32)) hx hb d_Model_wrongPair_23 (by decide) ?_
        exact hret hm rfl hS d_Model_wrongPair_24
      · replace hm := xi_pos h hm
        refine lv_iconst (v := (1 : Int32)) hx hb d_Model_wrongPair_19 (by decide) ?_
        refine lv_goto (tgt := 24) hx hb d_Model_wrongPair_20 rfl ?_
        exact hret hm rfl hS d_Model_wrongPair_24
set_option maxHeartbeats 4000000 in
set_option maxRecDepth 100000 in
theorem c_Model_hidden (l : Launch) (dC : Nat → ClassId) (dI : Nat → Nat → Nat) (dT : Nat → ClassId) (ad : Nat → Nat) (a1 : Int64) (u : xS) (out : Int64) (hm : m_Model_hidden a1 u = some out) : Met l y_Model_hidden (Cond.code y_Model_hidden b_Model_hidden 6 (some .long) :: xG) (xrm 1 22) (va_Pc [.ref (ad 0), .long a1] (xR (dC, dI) xCl (xT dT) (mW dT ad u))) (va_Ql (fun r9 (_ : Unit) => r9 = out) (fun _ _ => True) xN) 0 0 xN := by
  refine xm_roj (cc := b_Model_hidden) (maxL := 6) (by decide) rfl (Nat.le_of_ble_eq_true rfl) ?_
  intro p e s m args below meth c Q ls hx hb hml hts hown hK hN hP hl hret
  have hT : ∀ w ∈ xG, w.before args s = true := fun w h => hts w (List.mem_cons_of_mem _ h)
  have hown : s.vm.findClass "EventGraphTextModel" = some m.cls := hown
  have hl : lv_has ls 6 [(0, .ref (ad 0)), (1, .long a1)] := hl
  have hS : va_S xN s.heap s.heap [] := va_S.rf
  have hs5 : ∀ (k5 : Int64 → Int64 → Int32 → xS → Option Int64) (hk5 : ∀ (b1 : Int64) (b3 : Int64) (b5 : Int32) (H : Heap) (locs : List Loc) (ls : Array Slot), lv_has ls 6 [(0, .ref (ad 0)), (1, .long b1), (3, .long b3), (5, .int b5)] → va_P (dC, dI) xCl (mW dT ad u) H → va_S xN s.heap H locs → k5 b1 b3 b5 u = some out → W p l e (xrm 1 22) s m args below meth c H locs 0 0 Q (F0 m 5 ls [])), ∀ (b1 : Int64) (b3 : Int64) (b5 : Int32) (H : Heap) (locs : List Loc) (ls : Array Slot), lv_has ls 6 [(0, .ref (ad 0)), (1, .long b1), (3, .long b3), (5, .int b5)] → va_P (dC, dI) xCl (mW dT ad u) H → va_S xN s.heap H locs → m_Model_hidden_s5 k5 b1 b3 b5 u = some out → W p l e (xrm 1 22) s m args below meth c H locs 0 0 Q (F0 m 5 ls []) := by
    intro k5 hk5 b1 b3 b5 H locs ls hl hP hS hm
    unfold m_Model_hidden_s5 at hm
    refine lv_iload hx hb d_Model_hidden_5 (lv_at hl 3 rfl) ?_
    refine lv_aload_n hx hb d_Model_hidden_7 rfl (lv_at hl 0 rfl) ?_
    refine va_get (D := (dC, dI)) (ci := 8) (v := .int (xs_i u 0)) (C := "EventGraphTextModel") (T := T_Model) (N := 26) hx hb hT hin_Model hown hK hP 0 mW_X rfl 0 (by decide) (hT _ wd_558) (fun _ h9 => h9) rfl d_Model_hidden_8 ?_
    refine lv_icmp_ge (tgt := 52) hx hb d_Model_hidden_11 rfl (fun h => ?_) (fun h => ?_)
    · replace hm := xi_pos h hm
      refine lv_lload_n hx hb d_Model_hidden_52 rfl (lv_at hl 2 rfl) ?_
      exact hret hm hS d_Model_hidden_53
    · replace hm := xi_neg h hm
      refine lv_lload_n hx hb d_Model_hidden_14 rfl (lv_at hl 1 rfl) ?_
      refine lv_iload hx hb d_Model_hidden_15 (lv_at hl 3 rfl) ?_
      obtain ⟨r17, h17, hm⟩ := xb1_some hm
      refine xc_i (va_runS (As := [.long b1, .int b5]) (rest := []) ⟨hx, hb, hml, hown, hts⟩ (c_Model_in l b1 b5 r17 h17) (va_cwS 2 hts (xgS wd_656 wd_657 wd_9 wd_658) rfl rfl rfl pd_Model_in.2 ⟨Nat.le_of_ble_eq_true rfl, Nat.le_of_ble_eq_true rfl⟩) xpreS0 rfl rfl hl.1 rfl (lv_room (Nat.le_of_ble_eq_true rfl)) d_Model_hidden_17 ⟨Nat.le_of_ble_eq_true rfl, Nat.le_of_ble_eq_true rfl⟩) hP hS (fun H locs hP hS => ?_)
      refine lv_if_eq (tgt := 46) hx hb d_Model_hidden_20 rfl (fun h => ?_) (fun h => ?_)
      · replace hm := xi_pos h hm
        refine lv_iinc (k := 3) (v := (b5 + (1 : Int32))) (lv' := [(5, .int (b5 + (1 : Int32))), (0, .ref (ad 0)), (1, .long b1), (3, .long b3)]) hx hb d_Model_hidden_46 hl rfl rfl (Nat.le_of_ble_eq_true rfl) rfl (fun ls hl => ?_)
        refine lv_goto (tgt := 5) hx hb d_Model_hidden_49 rfl ?_
        exact hk5 b1 b3 (b5 + (1 : Int32)) _ _ _ (lv_sub hl [1, 2, 3, 0] rfl) hP hS hm
      · replace hm := xi_neg h hm
        refine lv_aload_n hx hb d_Model_hidden_23 rfl (lv_at hl 0 rfl) ?_
        refine va_get (D := (dC, dI)) (ci := 8) (v := .ref (ad 3)) (C := "EventGraphTextModel") (T := T_Model) (N := 26) hx hb hT hin_Model hown hK hP 0 mW_X rfl 3 (by decide) (hT _ wd_561) (fun _ h9 => h9) rfl d_Model_hidden_24 ?_
        refine lv_iload hx hb d_Model_hidden_27 (lv_at hl 3 rfl) ?_
        obtain ⟨g1, hm⟩ := xg_some hm
        refine va_zald hx hb hK hP 3 2 mW_X_inserts rfl g1 d_Model_hidden_29 ?_
        refine lv_if_ne (tgt := 46) hx hb d_Model_hidden_30 rfl (fun h => ?_) (fun h => ?_)
        · replace hm := xi_neg h hm
          refine lv_iinc (k := 3) (v := (b5 + (1 : Int32))) (lv' := [(5, .int (b5 + (1 : Int32))), (0, .ref (ad 0)), (1, .long b1), (3, .long b3)]) hx hb d_Model_hidden_46 hl rfl rfl (Nat.le_of_ble_eq_true rfl) rfl (fun ls hl => ?_)
          refine lv_goto (tgt := 5) hx hb d_Model_hidden_49 rfl ?_
          exact hk5 b1 b3 (b5 + (1 : Int32)) _ _ _ (lv_sub hl [1, 2, 3, 0] rfl) hP hS hm
        · replace hm := xi_pos h hm
          refine lv_lload_n hx hb d_Model_hidden_33 rfl (lv_at hl 2 rfl) ?_
          refine lv_aload_n hx hb d_Model_hidden_34 rfl (lv_at hl 0 rfl) ?_
          refine va_get (D := (dC, dI)) (ci := 8) (v := .ref (ad 8)) (C := "EventGraphTextModel") (T := T_Model) (N := 26) hx hb hT hin_Model hown hK hP 0 mW_X rfl 8 (by decide) (hT _ wd_566) (fun _ h9 => h9) rfl d_Model_hidden_35 ?_
          refine lv_iload hx hb d_Model_hidden_38 (lv_at hl 3 rfl) ?_
          obtain ⟨g2, hm⟩ := xg_some hm
          refine va_iald hx hb hK hP 8 0 mW_X_place rfl g2 d_Model_hidden_40 ?_
          obtain ⟨r41, h41, hm⟩ := xb1_some hm
          refine xc_l (va_runS (As := [.int (xs_I u 5 b5.toNatClampNeg)]) (rest := [.long b3]) ⟨hx, hb, hml, hown, hts⟩ (c_Model_one l (xs_I u 5 b5.toNatClampNeg) r41 h41) (va_cwS 1 hts (xgS wd_659 wd_660 wd_9 wd_661) rfl rfl rfl pd_Model_one.2 ⟨Nat.le_of_ble_eq_true rfl, Nat.le_of_ble_eq_true rfl⟩) xpreS0 rfl rfl hl.1 rfl (lv_room (Nat.le_of_ble_eq_true rfl)) d_Model_hidden_41 ⟨Nat.le_of_ble_eq_true rfl, Nat.le_of_ble_eq_true rfl⟩) hP hS (fun H locs hP hS => ?_)
          refine lv_lor hx hb d_Model_hidden_44 ?_
          refine lv_lstore_n (lv' := [(3, .long (b3 ||| r41)), (0, .ref (ad 0)), (1, .long b1), (5, .int b5)]) hx hb d_Model_hidden_45 rfl hl (Nat.le_of_ble_eq_true rfl) rfl (fun ls hl => ?_)
          refine lv_iinc (k := 3) (v := (b5 + (1 : Int32))) (lv' := [(5, .int (b5 + (1 : Int32))), (3, .long (b3 ||| r41)), (0, .ref (ad 0)), (1, .long b1)]) hx hb d_Model_hidden_46 hl rfl rfl (Nat.le_of_ble_eq_true rfl) rfl (fun ls hl => ?_)
          refine lv_goto (tgt := 5) hx hb d_Model_hidden_49 rfl ?_
          exact hk5 b1 (b3 ||| r41) (b5 + (1 : Int32)) _ _ _ (lv_sub hl [2, 3, 1, 0] rfl) hP hS hm
  have hl5 : ∀ (fu : Nat), ∀ (b1 : Int64) (b3 : Int64) (b5 : Int32) (H : Heap) (locs : List Loc) (ls : Array Slot), lv_has ls 6 [(0, .ref (ad 0)), (1, .long b1), (3, .long b3), (5, .int b5)] → va_P (dC, dI) xCl (mW dT ad u) H → va_S xN s.heap H locs → m_Model_hidden_l5 fu b1 b3 b5 u = some out → W p l e (xrm 1 22) s m args below meth c H locs 0 0 Q (F0 m 5 ls []) := by
    intro fu
    induction fu with
    | zero => intro b1 b3 b5 H locs ls hl hP hS hm; exact absurd hm (fun z => by cases z)
    | succ n ih => intro b1 b3 b5 H locs ls hl hP hS hm; exact hs5 (m_Model_hidden_l5 n) ih b1 b3 b5 H locs ls hl hP hS hm
  unfold m_Model_hidden at hm
  refine lv_lconst (v := (0 : Int64)) hx hb d_Model_hidden_0 (by decide) ?_
  refine lv_lstore_n (lv' := [(3, .long (0 : Int64)), (0, .ref (ad 0)), (1, .long a1)]) hx hb d_Model_hidden_1 rfl hl (Nat.le_of_ble_eq_true rfl) rfl (fun ls hl => ?_)
  refine lv_iconst (v := (0 : Int32)) hx hb d_Model_hidden_2 (by decide) ?_
  refine lv_istore (lv' := [(5, .int (0 : Int32)), (3, .long (0 : Int64)), (0, .ref (ad 0)), (1, .long a1)]) hx hb d_Model_hidden_3 hl (Nat.le_of_ble_eq_true rfl) rfl (fun ls hl => ?_)
  exact hl5 xFU a1 (0 : Int64) (0 : Int32) _ _ _ (lv_sub hl [2, 3, 1, 0] rfl) hP hS hm
set_option maxHeartbeats 4000000 in
set_option maxRecDepth 100000 in
theorem c_Model_shownAt (l : Launch) (dC : Nat → ClassId) (dI : Nat → Nat → Nat) (dT : Nat → ClassId) (ad : Nat → Nat) (a1 : Int64) (a3 : Int32) (u : xS) (out : Int32) (hm : m_Model_shownAt a1 a3 u = some out) : Met l y_Model_shownAt (Cond.code y_Model_shownAt b_Model_shownAt 9 (some .int) :: xG) (xrm 2 47) (va_Pc [.ref (ad 0), .long a1, .int a3] (xR (dC, dI) xCl (xT dT) (mW dT ad u))) (va_Qi (fun r9 (_ : Unit) => r9 = out) (fun _ _ => True) xN) 0 0 xN := by
  refine xm_roi (cc := b_Model_shownAt) (maxL := 9) (by decide) rfl (Nat.le_of_ble_eq_true rfl) ?_
  intro p e s m args below meth c Q ls hx hb hml hts hown hK hN hP hl hret
  have hT : ∀ w ∈ xG, w.before args s = true := fun w h => hts w (List.mem_cons_of_mem _ h)
  have hown : s.vm.findClass "EventGraphTextModel" = some m.cls := hown
  have hl : lv_has ls 9 [(0, .ref (ad 0)), (1, .long a1), (3, .int a3)] := hl
  have hS : va_S xN s.heap s.heap [] := va_S.rf
  have hs13 : ∀ (k13 : Int64 → Int32 → Int64 → Int32 → Int32 → xS → Option Int32) (hk13 : ∀ (b1 : Int64) (b3 : Int32) (b4 : Int64) (b6 : Int32) (b7 : Int32) (H : Heap) (locs : List Loc) (ls : Array Slot), lv_has ls 9 [(0, .ref (ad 0)), (1, .long b1), (3, .int b3), (4, .long b4), (6, .int b6), (7, .int b7)] → va_P (dC, dI) xCl (mW dT ad u) H → va_S xN s.heap H locs → k13 b1 b3 b4 b6 b7 u = some out → W p l e (xrm 2 47) s m args below meth c H locs 0 0 Q (F0 m 13 ls [])), ∀ (b1 : Int64) (b3 : Int32) (b4 : Int64) (b6 : Int32) (b7 : Int32) (H : Heap) (locs : List Loc) (ls : Array Slot), lv_has ls 9 [(0, .ref (ad 0)), (1, .long b1), (3, .int b3), (4, .long b4), (6, .int b6), (7, .int b7)] → va_P (dC, dI) xCl (mW dT ad u) H → va_S xN s.heap H locs → m_Model_shownAt_s13 k13 b1 b3 b4 b6 b7 u = some out → W p l e (xrm 2 47) s m args below meth c H locs 0 0 Q (F0 m 13 ls []) := by
    intro k13 hk13 b1 b3 b4 b6 b7 H locs ls hl hP hS hm
    unfold m_Model_shownAt_s13 at hm
    refine lv_iload hx hb d_Model_shownAt_13 (lv_at hl 5 rfl) ?_
    refine lv_aload_n hx hb d_Model_shownAt_15 rfl (lv_at hl 0 rfl) ?_
    refine va_get (D := (dC, dI)) (ci := 8) (v := .int (xs_i u 1)) (C := "EventGraphTextModel") (T := T_Model) (N := 26) hx hb hT hin_Model hown hK hP 0 mW_X rfl 12 (by decide) (hT _ wd_570) (fun _ h9 => h9) rfl d_Model_shownAt_16 ?_
    refine lv_icmp_ge (tgt := 68) hx hb d_Model_shownAt_19 rfl (fun h => ?_) (fun h => ?_)
    · replace hm := xi_pos h hm
      refine lv_iconst (v := (-1 : Int32)) hx hb d_Model_shownAt_68 (by decide) ?_
      exact hret hm hS d_Model_shownAt_69
    · replace hm := xi_neg h hm
      refine lv_aload_n hx hb d_Model_shownAt_22 rfl (lv_at hl 0 rfl) ?_
      refine va_get (D := (dC, dI)) (ci := 8) (v := .ref (ad 11)) (C := "EventGraphTextModel") (T := T_Model) (N := 26) hx hb hT hin_Model hown hK hP 0 mW_X rfl 11 (by decide) (hT _ wd_569) (fun _ h9 => h9) rfl d_Model_shownAt_23 ?_
      refine lv_iload hx hb d_Model_shownAt_26 (lv_at hl 5 rfl) ?_
      obtain ⟨g1, hm⟩ := xg_some hm
      refine va_iald hx hb hK hP 11 0 mW_X_row rfl g1 d_Model_shownAt_28 ?_
      refine lv_istore (lv' := [(8, .int (xs_I u 8 b7.toNatClampNeg)), (0, .ref (ad 0)), (1, .long b1), (3, .int b3), (4, .long b4), (6, .int b6), (7, .int b7)]) hx hb d_Model_shownAt_29 hl (Nat.le_of_ble_eq_true rfl) rfl (fun ls hl => ?_)
      refine lv_lload_n hx hb d_Model_shownAt_31 rfl (lv_at hl 2 rfl) ?_
      refine lv_iload hx hb d_Model_shownAt_32 (lv_at hl 0 rfl) ?_
      obtain ⟨r34, h34, hm⟩ := xb1_some hm
      refine xc_i (va_runS (As := [.long b1, .int (xs_I u 8 b7.toNatClampNeg)]) (rest := []) ⟨hx, hb, hml, hown, hts⟩ (c_Model_in l b1 (xs_I u 8 b7.toNatClampNeg) r34 h34) (va_cwS 2 hts (xgS wd_656 wd_657 wd_9 wd_658) rfl rfl rfl pd_Model_in.2 ⟨Nat.le_of_ble_eq_true rfl, Nat.le_of_ble_eq_true rfl⟩) xpreS0 rfl rfl hl.1 rfl (lv_room (Nat.le_of_ble_eq_true rfl)) d_Model_shownAt_34 ⟨Nat.le_of_ble_eq_true rfl, Nat.le_of_ble_eq_true rfl⟩) hP hS (fun H locs hP hS => ?_)
      refine lv_if_eq (tgt := 62) hx hb d_Model_shownAt_37 rfl (fun h => ?_) (fun h => ?_)
      · replace hm := xi_pos h hm
        refine lv_iinc (k := 6) (v := (b7 + (1 : Int32))) (lv' := [(7, .int (b7 + (1 : Int32))), (8, .int (xs_I u 8 b7.toNatClampNeg)), (0, .ref (ad 0)), (1, .long b1), (3, .int b3), (4, .long b4), (6, .int b6)]) hx hb d_Model_shownAt_62 hl rfl rfl (Nat.le_of_ble_eq_true rfl) rfl (fun ls hl => ?_)
        refine lv_goto (tgt := 13) hx hb d_Model_shownAt_65 rfl ?_
        exact hk13 b1 b3 b4 b6 (b7 + (1 : Int32)) _ _ _ (lv_sub hl [2, 3, 4, 5, 6, 0] rfl) hP hS hm
      · replace hm := xi_neg h hm
        refine lv_lload hx hb d_Model_shownAt_40 (lv_at hl 4 rfl) ?_
        refine lv_iload hx hb d_Model_shownAt_42 (lv_at hl 0 rfl) ?_
        obtain ⟨r44, h44, hm⟩ := xb1_some hm
        refine xc_i (va_runS (As := [.long b4, .int (xs_I u 8 b7.toNatClampNeg)]) (rest := []) ⟨hx, hb, hml, hown, hts⟩ (c_Model_in l b4 (xs_I u 8 b7.toNatClampNeg) r44 h44) (va_cwS 2 hts (xgS wd_656 wd_657 wd_9 wd_658) rfl rfl rfl pd_Model_in.2 ⟨Nat.le_of_ble_eq_true rfl, Nat.le_of_ble_eq_true rfl⟩) xpreS0 rfl rfl hl.1 rfl (lv_room (Nat.le_of_ble_eq_true rfl)) d_Model_shownAt_44 ⟨Nat.le_of_ble_eq_true rfl, Nat.le_of_ble_eq_true rfl⟩) hP hS (fun H locs hP hS => ?_)
        refine lv_if_ne (tgt := 62) hx hb d_Model_shownAt_47 rfl (fun h => ?_) (fun h => ?_)
        · replace hm := xi_neg h hm
          refine lv_iinc (k := 6) (v := (b7 + (1 : Int32))) (lv' := [(7, .int (b7 + (1 : Int32))), (8, .int (xs_I u 8 b7.toNatClampNeg)), (0, .ref (ad 0)), (1, .long b1), (3, .int b3), (4, .long b4), (6, .int b6)]) hx hb d_Model_shownAt_62 hl rfl rfl (Nat.le_of_ble_eq_true rfl) rfl (fun ls hl => ?_)
          refine lv_goto (tgt := 13) hx hb d_Model_shownAt_65 rfl ?_
          exact hk13 b1 b3 b4 b6 (b7 + (1 : Int32)) _ _ _ (lv_sub hl [2, 3, 4, 5, 6, 0] rfl) hP hS hm
        · replace hm := xi_pos h hm
          refine lv_iload hx hb d_Model_shownAt_50 (lv_at hl 5 rfl) ?_
          refine lv_iload_n hx hb d_Model_shownAt_52 rfl (lv_at hl 3 rfl) ?_
          refine lv_icmp_ne (tgt := 59) hx hb d_Model_shownAt_53 rfl (fun h => ?_) (fun h => ?_)
          · replace hm := xi_neg h hm
            refine lv_iinc (k := 5) (v := (b6 + (1 : Int32))) (lv' := [(6, .int (b6 + (1 : Int32))), (8, .int (xs_I u 8 b7.toNatClampNeg)), (0, .ref (ad 0)), (1, .long b1), (3, .int b3), (4, .long b4), (7, .int b7)]) hx hb d_Model_shownAt_59 hl rfl rfl (Nat.le_of_ble_eq_true rfl) rfl (fun ls hl => ?_)
            refine lv_iinc (k := 6) (v := (b7 + (1 : Int32))) (lv' := [(7, .int (b7 + (1 : Int32))), (6, .int (b6 + (1 : Int32))), (8, .int (xs_I u 8 b7.toNatClampNeg)), (0, .ref (ad 0)), (1, .long b1), (3, .int b3), (4, .long b4)]) hx hb d_Model_shownAt_62 hl rfl rfl (Nat.le_of_ble_eq_true rfl) rfl (fun ls hl => ?_)
            refine lv_goto (tgt := 13) hx hb d_Model_shownAt_65 rfl ?_
            exact hk13 b1 b3 b4 (b6 + (1 : Int32)) (b7 + (1 : Int32)) _ _ _ (lv_sub hl [3, 4, 5, 6, 1, 0] rfl) hP hS hm
          · replace hm := xi_pos h hm
            refine lv_iload hx hb d_Model_shownAt_56 (lv_at hl 0 rfl) ?_
            exact hret hm hS d_Model_shownAt_58
  have hl13 : ∀ (fu : Nat), ∀ (b1 : Int64) (b3 : Int32) (b4 : Int64) (b6 : Int32) (b7 : Int32) (H : Heap) (locs : List Loc) (ls : Array Slot), lv_has ls 9 [(0, .ref (ad 0)), (1, .long b1), (3, .int b3), (4, .long b4), (6, .int b6), (7, .int b7)] → va_P (dC, dI) xCl (mW dT ad u) H → va_S xN s.heap H locs → m_Model_shownAt_l13 fu b1 b3 b4 b6 b7 u = some out → W p l e (xrm 2 47) s m args below meth c H locs 0 0 Q (F0 m 13 ls []) := by
    intro fu
    induction fu with
    | zero => intro b1 b3 b4 b6 b7 H locs ls hl hP hS hm; exact absurd hm (fun z => by cases z)
    | succ n ih => intro b1 b3 b4 b6 b7 H locs ls hl hP hS hm; exact hs13 (m_Model_shownAt_l13 n) ih b1 b3 b4 b6 b7 H locs ls hl hP hS hm
  unfold m_Model_shownAt at hm
  refine lv_aload_n hx hb d_Model_shownAt_0 rfl (lv_at hl 0 rfl) ?_
  refine lv_lload_n hx hb d_Model_shownAt_1 rfl (lv_at hl 1 rfl) ?_
  obtain ⟨r2, h2, hm⟩ := xb1_some hm
  refine xc_l (va_runV (C := "EventGraphTextModel") (As := [.long a1]) (rest := []) ⟨hx, hb, hml, hown, hts⟩ (c_Model_hidden l dC dI dT ad a1 u r2 h2) (cwV 1 hts (xgV wd_652 wd_654 wds_16 wd_9 wd_655) rfl rfl rfl pd_Model_hidden ⟨Nat.le_of_ble_eq_true rfl, Nat.le_of_ble_eq_true rfl⟩) (xpreV (C := "EventGraphTextModel") (T := T_Model) (N := 26) hP hK hN rfl mW_X) rfl rfl hl.1 rfl (lv_room (Nat.le_of_ble_eq_true rfl)) d_Model_shownAt_2 ⟨Nat.le_of_ble_eq_true rfl, Nat.le_of_ble_eq_true rfl⟩) hP hS (fun H locs hP hS => ?_)
  refine lv_lstore (lv' := [(4, .long r2), (0, .ref (ad 0)), (1, .long a1), (3, .int a3)]) hx hb d_Model_shownAt_5 hl (Nat.le_of_ble_eq_true rfl) rfl (fun ls hl => ?_)
  refine lv_iconst (v := (0 : Int32)) hx hb d_Model_shownAt_7 (by decide) ?_
  refine lv_istore (lv' := [(6, .int (0 : Int32)), (4, .long r2), (0, .ref (ad 0)), (1, .long a1), (3, .int a3)]) hx hb d_Model_shownAt_8 hl (Nat.le_of_ble_eq_true rfl) rfl (fun ls hl => ?_)
  refine lv_iconst (v := (0 : Int32)) hx hb d_Model_shownAt_10 (by decide) ?_
  refine lv_istore (lv' := [(7, .int (0 : Int32)), (6, .int (0 : Int32)), (4, .long r2), (0, .ref (ad 0)), (1, .long a1), (3, .int a3)]) hx hb d_Model_shownAt_11 hl (Nat.le_of_ble_eq_true rfl) rfl (fun ls hl => ?_)
  exact hl13 xFU a1 a3 r2 (0 : Int32) (0 : Int32) _ _ _ (lv_sub hl [3, 4, 5, 2, 1, 0] rfl) hP hS hm
set_option maxHeartbeats 4000000 in
set_option maxRecDepth 100000 in
theorem c_Model_shownBefore (l : Launch) (dC : Nat → ClassId) (dI : Nat → Nat → Nat) (dT : Nat → ClassId) (ad : Nat → Nat) (a1 : Int64) (a3 : Int32) (u : xS) (out : Int32) (hm : m_Model_shownBefore a1 a3 u = some out) : Met l y_Model_shownBefore (Cond.code y_Model_shownBefore b_Model_shownBefore 9 (some .int) :: xG) (xrm 2 47) (va_Pc [.ref (ad 0), .long a1, .int a3] (xR (dC, dI) xCl (xT dT) (mW dT ad u))) (va_Qi (fun r9 (_ : Unit) => r9 = out) (fun _ _ => True) xN) 0 0 xN := by
  refine xm_roi (cc := b_Model_shownBefore) (maxL := 9) (by decide) rfl (Nat.le_of_ble_eq_true rfl) ?_
  intro p e s m args below meth c Q ls hx hb hml hts hown hK hN hP hl hret
  have hT : ∀ w ∈ xG, w.before args s = true := fun w h => hts w (List.mem_cons_of_mem _ h)
  have hown : s.vm.findClass "EventGraphTextModel" = some m.cls := hown
  have hl : lv_has ls 9 [(0, .ref (ad 0)), (1, .long a1), (3, .int a3)] := hl
  have hS : va_S xN s.heap s.heap [] := va_S.rf
  have hs13 : ∀ (k13 : Int64 → Int32 → Int64 → Int32 → Int32 → xS → Option Int32) (hk13 : ∀ (b1 : Int64) (b3 : Int32) (b4 : Int64) (b6 : Int32) (b7 : Int32) (H : Heap) (locs : List Loc) (ls : Array Slot), lv_has ls 9 [(0, .ref (ad 0)), (1, .long b1), (3, .int b3), (4, .long b4), (6, .int b6), (7, .int b7)] → va_P (dC, dI) xCl (mW dT ad u) H → va_S xN s.heap H locs → k13 b1 b3 b4 b6 b7 u = some out → W p l e (xrm 2 47) s m args below meth c H locs 0 0 Q (F0 m 13 ls [])), ∀ (b1 : Int64) (b3 : Int32) (b4 : Int64) (b6 : Int32) (b7 : Int32) (H : Heap) (locs : List Loc) (ls : Array Slot), lv_has ls 9 [(0, .ref (ad 0)), (1, .long b1), (3, .int b3), (4, .long b4), (6, .int b6), (7, .int b7)] → va_P (dC, dI) xCl (mW dT ad u) H → va_S xN s.heap H locs → m_Model_shownBefore_s13 k13 b1 b3 b4 b6 b7 u = some out → W p l e (xrm 2 47) s m args below meth c H locs 0 0 Q (F0 m 13 ls []) := by
    intro k13 hk13 b1 b3 b4 b6 b7 H locs ls hl hP hS hm
    unfold m_Model_shownBefore_s13 at hm
    refine lv_iload hx hb d_Model_shownBefore_13 (lv_at hl 5 rfl) ?_
    refine lv_aload_n hx hb d_Model_shownBefore_15 rfl (lv_at hl 0 rfl) ?_
    refine va_get (D := (dC, dI)) (ci := 8) (v := .int (xs_i u 1)) (C := "EventGraphTextModel") (T := T_Model) (N := 26) hx hb hT hin_Model hown hK hP 0 mW_X rfl 12 (by decide) (hT _ wd_570) (fun _ h9 => h9) rfl d_Model_shownBefore_16 ?_
    refine lv_icmp_ge (tgt := 77) hx hb d_Model_shownBefore_19 rfl (fun h => ?_) (fun h => ?_)
    · replace hm := xi_pos h hm
      refine lv_iload hx hb d_Model_shownBefore_77 (lv_at hl 4 rfl) ?_
      exact hret hm hS d_Model_shownBefore_79
    · replace hm := xi_neg h hm
      refine lv_aload_n hx hb d_Model_shownBefore_22 rfl (lv_at hl 0 rfl) ?_
      refine va_get (D := (dC, dI)) (ci := 8) (v := .ref (ad 11)) (C := "EventGraphTextModel") (T := T_Model) (N := 26) hx hb hT hin_Model hown hK hP 0 mW_X rfl 11 (by decide) (hT _ wd_569) (fun _ h9 => h9) rfl d_Model_shownBefore_23 ?_
      refine lv_iload hx hb d_Model_shownBefore_26 (lv_at hl 5 rfl) ?_
      obtain ⟨g1, hm⟩ := xg_some hm
      refine va_iald hx hb hK hP 11 0 mW_X_row rfl g1 d_Model_shownBefore_28 ?_
      refine lv_iload_n hx hb d_Model_shownBefore_29 rfl (lv_at hl 2 rfl) ?_
      refine lv_icmp_eq (tgt := 77) hx hb d_Model_shownBefore_30 rfl (fun h => ?_) (fun h => ?_)
      · replace hm := xi_pos h hm
        refine lv_iload hx hb d_Model_shownBefore_77 (lv_at hl 4 rfl) ?_
        exact hret hm hS d_Model_shownBefore_79
      · replace hm := xi_neg h hm
        refine lv_aload_n hx hb d_Model_shownBefore_33 rfl (lv_at hl 0 rfl) ?_
        refine va_get (D := (dC, dI)) (ci := 8) (v := .ref (ad 11)) (C := "EventGraphTextModel") (T := T_Model) (N := 26) hx hb hT hin_Model hown hK hP 0 mW_X rfl 11 (by decide) (hT _ wd_569) (fun _ h9 => h9) rfl d_Model_shownBefore_34 ?_
        refine lv_iload hx hb d_Model_shownBefore_37 (lv_at hl 5 rfl) ?_
        refine va_iald hx hb hK hP 11 0 mW_X_row rfl g1 d_Model_shownBefore_39 ?_
        refine lv_istore (lv' := [(8, .int (xs_I u 8 b7.toNatClampNeg)), (0, .ref (ad 0)), (1, .long b1), (3, .int b3), (4, .long b4), (6, .int b6), (7, .int b7)]) hx hb d_Model_shownBefore_40 hl (Nat.le_of_ble_eq_true rfl) rfl (fun ls hl => ?_)
        refine lv_iload hx hb d_Model_shownBefore_42 (lv_at hl 5 rfl) ?_
        refine lv_lload_n hx hb d_Model_shownBefore_44 rfl (lv_at hl 2 rfl) ?_
        refine lv_iload hx hb d_Model_shownBefore_45 (lv_at hl 0 rfl) ?_
        obtain ⟨r47, h47, hm⟩ := xb1_some hm
        refine xc_i (va_runS (As := [.long b1, .int (xs_I u 8 b7.toNatClampNeg)]) (rest := [.int b6]) ⟨hx, hb, hml, hown, hts⟩ (c_Model_in l b1 (xs_I u 8 b7.toNatClampNeg) r47 h47) (va_cwS 2 hts (xgS wd_656 wd_657 wd_9 wd_658) rfl rfl rfl pd_Model_in.2 ⟨Nat.le_of_ble_eq_true rfl, Nat.le_of_ble_eq_true rfl⟩) xpreS0 rfl rfl hl.1 rfl (lv_room (Nat.le_of_ble_eq_true rfl)) d_Model_shownBefore_47 ⟨Nat.le_of_ble_eq_true rfl, Nat.le_of_ble_eq_true rfl⟩) hP hS (fun H locs hP hS => ?_)
        refine lv_if_eq (tgt := 67) hx hb d_Model_shownBefore_50 rfl (fun h => ?_) (fun h => ?_)
        · replace hm := xi_pos h hm
          refine lv_iconst (v := (0 : Int32)) hx hb d_Model_shownBefore_67 (by decide) ?_
          refine lv_iadd hx hb d_Model_shownBefore_68 ?_
          refine lv_istore (lv' := [(6, .int (b6 + (0 : Int32))), (8, .int (xs_I u 8 b7.toNatClampNeg)), (0, .ref (ad 0)), (1, .long b1), (3, .int b3), (4, .long b4), (7, .int b7)]) hx hb d_Model_shownBefore_69 hl (Nat.le_of_ble_eq_true rfl) rfl (fun ls hl => ?_)
          refine lv_iinc (k := 6) (v := (b7 + (1 : Int32))) (lv' := [(7, .int (b7 + (1 : Int32))), (6, .int (b6 + (0 : Int32))), (8, .int (xs_I u 8 b7.toNatClampNeg)), (0, .ref (ad 0)), (1, .long b1), (3, .int b3), (4, .long b4)]) hx hb d_Model_shownBefore_71 hl rfl rfl (Nat.le_of_ble_eq_true rfl) rfl (fun ls hl => ?_)
          refine lv_goto (tgt := 13) hx hb d_Model_shownBefore_74 rfl ?_
          exact hk13 b1 b3 b4 (b6 + (0 : Int32)) (b7 + (1 : Int32)) _ _ _ (lv_sub hl [3, 4, 5, 6, 1, 0] rfl) hP hS hm
        · replace hm := xi_neg h hm
          refine lv_lload hx hb d_Model_shownBefore_53 (lv_at hl 4 rfl) ?_
          refine lv_iload hx hb d_Model_shownBefore_55 (lv_at hl 0 rfl) ?_
          obtain ⟨r57, h57, hm⟩ := xb1_some hm
          refine xc_i (va_runS (As := [.long b4, .int (xs_I u 8 b7.toNatClampNeg)]) (rest := [.int b6]) ⟨hx, hb, hml, hown, hts⟩ (c_Model_in l b4 (xs_I u 8 b7.toNatClampNeg) r57 h57) (va_cwS 2 hts (xgS wd_656 wd_657 wd_9 wd_658) rfl rfl rfl pd_Model_in.2 ⟨Nat.le_of_ble_eq_true rfl, Nat.le_of_ble_eq_true rfl⟩) xpreS0 rfl rfl hl.1 rfl (lv_room (Nat.le_of_ble_eq_true rfl)) d_Model_shownBefore_57 ⟨Nat.le_of_ble_eq_true rfl, Nat.le_of_ble_eq_true rfl⟩) hP hS (fun H locs hP hS => ?_)
          refine lv_if_ne (tgt := 67) hx hb d_Model_shownBefore_60 rfl (fun h => ?_) (fun h => ?_)
          · replace hm := xi_neg h hm
            refine lv_iconst (v := (0 : Int32)) hx hb d_Model_shownBefore_67 (by decide) ?_
            refine lv_iadd hx hb d_Model_shownBefore_68 ?_
            refine lv_istore (lv' := [(6, .int (b6 + (0 : Int32))), (8, .int (xs_I u 8 b7.toNatClampNeg)), (0, .ref (ad 0)), (1, .long b1), (3, .int b3), (4, .long b4), (7, .int b7)]) hx hb d_Model_shownBefore_69 hl (Nat.le_of_ble_eq_true rfl) rfl (fun ls hl => ?_)
            refine lv_iinc (k := 6) (v := (b7 + (1 : Int32))) (lv' := [(7, .int (b7 + (1 : Int32))), (6, .int (b6 + (0 : Int32))), (8, .int (xs_I u 8 b7.toNatClampNeg)), (0, .ref (ad 0)), (1, .long b1), (3, .int b3), (4, .long b4)]) hx hb d_Model_shownBefore_71 hl rfl rfl (Nat.le_of_ble_eq_true rfl) rfl (fun ls hl => ?_)
            refine lv_goto (tgt := 13) hx hb d_Model_shownBefore_74 rfl ?_
            exact hk13 b1 b3 b4 (b6 + (0 : Int32)) (b7 + (1 : Int32)) _ _ _ (lv_sub hl [3, 4, 5, 6, 1, 0] rfl) hP hS hm
          · replace hm := xi_pos h hm
            refine lv_iconst (v := (1 : Int32)) hx hb d_Model_shownBefore_63 (by decide) ?_
            refine lv_goto (tgt := 68) hx hb d_Model_shownBefore_64 rfl ?_
            refine lv_iadd hx hb d_Model_shownBefore_68 ?_
            refine lv_istore (lv' := [(6, .int (b6 + (1 : Int32))), (8, .int (xs_I u 8 b7.toNatClampNeg)), (0, .ref (ad 0)), (1, .long b1), (3, .int b3), (4, .long b4), (7, .int b7)]) hx hb d_Model_shownBefore_69 hl (Nat.le_of_ble_eq_true rfl) rfl (fun ls hl => ?_)
            refine lv_iinc (k := 6) (v := (b7 + (1 : Int32))) (lv' := [(7, .int (b7 + (1 : Int32))), (6, .int (b6 + (1 : Int32))), (8, .int (xs_I u 8 b7.toNatClampNeg)), (0, .ref (ad 0)), (1, .long b1), (3, .int b3), (4, .long b4)]) hx hb d_Model_shownBefore_71 hl rfl rfl (Nat.le_of_ble_eq_true rfl) rfl (fun ls hl => ?_)
            refine lv_goto (tgt := 13) hx hb d_Model_shownBefore_74 rfl ?_
            exact hk13 b1 b3 b4 (b6 + (1 : Int32)) (b7 + (1 : Int32)) _ _ _ (lv_sub hl [3, 4, 5, 6, 1, 0] rfl) hP hS hm
  have hl13 : ∀ (fu : Nat), ∀ (b1 : Int64) (b3 : Int32) (b4 : Int64) (b6 : Int32) (b7 : Int32) (H : Heap) (locs : List Loc) (ls : Array Slot), lv_has ls 9 [(0, .ref (ad 0)), (1, .long b1), (3, .int b3), (4, .long b4), (6, .int b6), (7, .int b7)] → va_P (dC, dI) xCl (mW dT ad u) H → va_S xN s.heap H locs → m_Model_shownBefore_l13 fu b1 b3 b4 b6 b7 u = some out → W p l e (xrm 2 47) s m args below meth c H locs 0 0 Q (F0 m 13 ls []) := by
    intro fu
    induction fu with
    | zero => intro b1 b3 b4 b6 b7 H locs ls hl hP hS hm; exact absurd hm (fun z => by cases z)
    | succ n ih => intro b1 b3 b4 b6 b7 H locs ls hl hP hS hm; exact hs13 (m_Model_shownBefore_l13 n) ih b1 b3 b4 b6 b7 H locs ls hl hP hS hm
  unfold m_Model_shownBefore at hm
  refine lv_aload_n hx hb d_Model_shownBefore_0 rfl (lv_at hl 0 rfl) ?_
  refine lv_lload_n hx hb d_Model_shownBefore_1 rfl (lv_at hl 1 rfl) ?_
  obtain ⟨r2, h2, hm⟩ := xb1_some hm
  refine xc_l (va_runV (C := "EventGraphTextModel") (As := [.long a1]) (rest := []) ⟨hx, hb, hml, hown, hts⟩ (c_Model_hidden l dC dI dT ad a1 u r2 h2) (cwV 1 hts (xgV wd_652 wd_654 wds_16 wd_9 wd_655) rfl rfl rfl pd_Model_hidden ⟨Nat.le_of_ble_eq_true rfl, Nat.le_of_ble_eq_true rfl⟩) (xpreV (C := "EventGraphTextModel") (T := T_Model) (N := 26) hP hK hN rfl mW_X) rfl rfl hl.1 rfl (lv_room (Nat.le_of_ble_eq_true rfl)) d_Model_shownBefore_2 ⟨Nat.le_of_ble_eq_true rfl, Nat.le_of_ble_eq_true rfl⟩) hP hS (fun H locs hP hS => ?_)
  refine lv_lstore (lv' := [(4, .long r2), (0, .ref (ad 0)), (1, .long a1), (3, .int a3)]) hx hb d_Model_shownBefore_5 hl (Nat.le_of_ble_eq_true rfl) rfl (fun ls hl => ?_)
  refine lv_iconst (v := (0 : Int32)) hx hb d_Model_shownBefore_7 (by decide) ?_
  refine lv_istore (lv' := [(6, .int (0 : Int32)), (4, .long r2), (0, .ref (ad 0)), (1, .long a1), (3, .int a3)]) hx hb d_Model_shownBefore_8 hl (Nat.le_of_ble_eq_true rfl) rfl (fun ls hl => ?_)
  refine lv_iconst (v := (0 : Int32)) hx hb d_Model_shownBefore_10 (by decide) ?_
  refine lv_istore (lv' := [(7, .int (0 : Int32)), (6, .int (0 : Int32)), (4, .long r2), (0, .ref (ad 0)), (1, .long a1), (3, .int a3)]) hx hb d_Model_shownBefore_11 hl (Nat.le_of_ble_eq_true rfl) rfl (fun ls hl => ?_)
  exact hl13 xFU a1 a3 r2 (0 : Int32) (0 : Int32) _ _ _ (lv_sub hl [3, 4, 5, 2, 1, 0] rfl) hP hS hm
set_option maxHeartbeats 4000000 in
set_option maxRecDepth 100000 in
theorem c_Model_behind (l : Launch) (dC : Nat → ClassId) (dI : Nat → Nat → Nat) (dT : Nat → ClassId) (ad : Nat → Nat) (a1 : Int64) (a3 : Int32) (u : xS) (out : Int32) (hm : m_Model_behind a1 a3 u = some out) : Met l y_Model_behind (Cond.code y_Model_behind b_Model_behind 6 (some .int) :: xG) (xrm 1 22) (va_Pc [.ref (ad 0), .long a1, .int a3] (xR (dC, dI) xCl (xT dT) (mW dT ad u))) (va_Qi (fun r9 (_ : Unit) => r9 = out) (fun _ _ => True) xN) 0 0 xN := by
  refine xm_roi (cc := b_Model_behind) (maxL := 6) (by decide) rfl (Nat.le_of_ble_eq_true rfl) ?_
  intro p e s m args below meth c Q ls hx hb hml hts hown hK hN hP hl hret
  have hT : ∀ w ∈ xG, w.before args s = true := fun w h => hts w (List.mem_cons_of_mem _ h)
  have hown : s.vm.findClass "EventGraphTextModel" = some m.cls := hown
  have hl : lv_has ls 6 [(0, .ref (ad 0)), (1, .long a1), (3, .int a3)] := hl
  have hS : va_S xN s.heap s.heap [] := va_S.rf
  have hb52 : ∀ (k16 : Int64 → Int32 → Int32 → Int32 → xS → Option Int32) (hk16 : ∀ (b1 : Int64) (b3 : Int32) (b4 : Int32) (b5 : Int32) (H : Heap) (locs : List Loc) (ls : Array Slot), lv_has ls 6 [(0, .ref (ad 0)), (1, .long b1), (3, .int b3), (4, .int b4), (5, .int b5)] → va_P (dC, dI) xCl (mW dT ad u) H → va_S xN s.heap H locs → k16 b1 b3 b4 b5 u = some out → W p l e (xrm 1 22) s m args below meth c H locs 0 0 Q (F0 m 16 ls [])), ∀ (b1 : Int64) (b3 : Int32) (b4 : Int32) (b5 : Int32) (H : Heap) (locs : List Loc) (ls : Array Slot), lv_has ls 6 [(0, .ref (ad 0)), (1, .long b1), (3, .int b3), (4, .int b4), (5, .int b5)] → va_P (dC, dI) xCl (mW dT ad u) H → va_S xN s.heap H locs → m_Model_behind_b52 k16 b1 b3 b4 b5 u = some out → W p l e (xrm 1 22) s m args below meth c H locs 0 0 Q (F0 m 52 ls []) := by
    intro k16 hk16 b1 b3 b4 b5 H locs ls hl hP hS hm
    unfold m_Model_behind_b52 at hm
    refine lv_iload hx hb d_Model_behind_52 (lv_at hl 3 rfl) ?_
    refine lv_if_ne (tgt := 68) hx hb d_Model_behind_54 rfl (fun h => ?_) (fun h => ?_)
    · replace hm := xi_neg h hm
      refine lv_iconst (v := (1 : Int32)) hx hb d_Model_behind_68 (by decide) ?_
      refine lv_goto (tgt := 73) hx hb d_Model_behind_69 rfl ?_
      refine lv_istore (lv' := [(4, .int (1 : Int32)), (0, .ref (ad 0)), (1, .long b1), (3, .int b3), (5, .int b5)]) hx hb d_Model_behind_73 hl (Nat.le_of_ble_eq_true rfl) rfl (fun ls hl => ?_)
      refine lv_iinc (k := 4) (v := (b5 + (1 : Int32))) (lv' := [(5, .int (b5 + (1 : Int32))), (4, .int (1 : Int32)), (0, .ref (ad 0)), (1, .long b1), (3, .int b3)]) hx hb d_Model_behind_75 hl rfl rfl (Nat.le_of_ble_eq_true rfl) rfl (fun ls hl => ?_)
      refine lv_goto (tgt := 16) hx hb d_Model_behind_78 rfl ?_
      exact hk16 b1 b3 (1 : Int32) (b5 + (1 : Int32)) _ _ _ (lv_sub hl [2, 3, 4, 1, 0] rfl) hP hS hm
    · replace hm := xi_pos h hm
      refine lv_aload_n hx hb d_Model_behind_57 rfl (lv_at hl 0 rfl) ?_
      refine va_get (D := (dC, dI)) (ci := 8) (v := .ref (ad 11)) (C := "EventGraphTextModel") (T := T_Model) (N := 26) hx hb hT hin_Model hown hK hP 0 mW_X rfl 11 (by decide) (hT _ wd_569) (fun _ h9 => h9) rfl d_Model_behind_58 ?_
      refine lv_iload hx hb d_Model_behind_61 (lv_at hl 4 rfl) ?_
      obtain ⟨g1, hm⟩ := xg_some hm
      refine va_iald hx hb hK hP 11 0 mW_X_row rfl g1 d_Model_behind_63 ?_
      refine lv_iload_n hx hb d_Model_behind_64 rfl (lv_at hl 2 rfl) ?_
      refine lv_icmp_ne (tgt := 72) hx hb d_Model_behind_65 rfl (fun h => ?_) (fun h => ?_)
      · replace hm := xi_neg h hm
        refine lv_iconst (v := (0 : Int32)) hx hb d_Model_behind_72 (by decide) ?_
        refine lv_istore (lv' := [(4, .int (0 : Int32)), (0, .ref (ad 0)), (1, .long b1), (3, .int b3), (5, .int b5)]) hx hb d_Model_behind_73 hl (Nat.le_of_ble_eq_true rfl) rfl (fun ls hl => ?_)
        refine lv_iinc (k := 4) (v := (b5 + (1 : Int32))) (lv' := [(5, .int (b5 + (1 : Int32))), (4, .int (0 : Int32)), (0, .ref (ad 0)), (1, .long b1), (3, .int b3)]) hx hb d_Model_behind_75 hl rfl rfl (Nat.le_of_ble_eq_true rfl) rfl (fun ls hl => ?_)
        refine lv_goto (tgt := 16) hx hb d_Model_behind_78 rfl ?_
        exact hk16 b1 b3 (0 : Int32) (b5 + (1 : Int32)) _ _ _ (lv_sub hl [2, 3, 4, 1, 0] rfl) hP hS hm
      · replace hm := xi_pos h hm
        refine lv_iconst (v := (1 : Int32)) hx hb d_Model_behind_68 (by decide) ?_
        refine lv_goto (tgt := 73) hx hb d_Model_behind_69 rfl ?_
        refine lv_istore (lv' := [(4, .int (1 : Int32)), (0, .ref (ad 0)), (1, .long b1), (3, .int b3), (5, .int b5)]) hx hb d_Model_behind_73 hl (Nat.le_of_ble_eq_true rfl) rfl (fun ls hl => ?_)
        refine lv_iinc (k := 4) (v := (b5 + (1 : Int32))) (lv' := [(5, .int (b5 + (1 : Int32))), (4, .int (1 : Int32)), (0, .ref (ad 0)), (1, .long b1), (3, .int b3)]) hx hb d_Model_behind_75 hl rfl rfl (Nat.le_of_ble_eq_true rfl) rfl (fun ls hl => ?_)
        refine lv_goto (tgt := 16) hx hb d_Model_behind_78 rfl ?_
        exact hk16 b1 b3 (1 : Int32) (b5 + (1 : Int32)) _ _ _ (lv_sub hl [2, 3, 4, 1, 0] rfl) hP hS hm
  have hs16 : ∀ (k16 : Int64 → Int32 → Int32 → Int32 → xS → Option Int32) (hk16 : ∀ (b1 : Int64) (b3 : Int32) (b4 : Int32) (b5 : Int32) (H : Heap) (locs : List Loc) (ls : Array Slot), lv_has ls 6 [(0, .ref (ad 0)), (1, .long b1), (3, .int b3), (4, .int b4), (5, .int b5)] → va_P (dC, dI) xCl (mW dT ad u) H → va_S xN s.heap H locs → k16 b1 b3 b4 b5 u = some out → W p l e (xrm 1 22) s m args below meth c H locs 0 0 Q (F0 m 16 ls [])), ∀ (b1 : Int64) (b3 : Int32) (b4 : Int32) (b5 : Int32) (H : Heap) (locs : List Loc) (ls : Array Slot), lv_has ls 6 [(0, .ref (ad 0)), (1, .long b1), (3, .int b3), (4, .int b4), (5, .int b5)] → va_P (dC, dI) xCl (mW dT ad u) H → va_S xN s.heap H locs → m_Model_behind_s16 k16 b1 b3 b4 b5 u = some out → W p l e (xrm 1 22) s m args below meth c H locs 0 0 Q (F0 m 16 ls []) := by
    intro k16 hk16 b1 b3 b4 b5 H locs ls hl hP hS hm
    unfold m_Model_behind_s16 at hm
    refine lv_iload hx hb d_Model_behind_16 (lv_at hl 4 rfl) ?_
    refine lv_aload_n hx hb d_Model_behind_18 rfl (lv_at hl 0 rfl) ?_
    refine va_get (D := (dC, dI)) (ci := 8) (v := .int (xs_i u 1)) (C := "EventGraphTextModel") (T := T_Model) (N := 26) hx hb hT hin_Model hown hK hP 0 mW_X rfl 12 (by decide) (hT _ wd_570) (fun _ h9 => h9) rfl d_Model_behind_19 ?_
    refine lv_icmp_ge (tgt := 81) hx hb d_Model_behind_22 rfl (fun h => ?_) (fun h => ?_)
    · replace hm := xi_pos h hm
      refine lv_bipush (v := (40 : Int32)) hx hb d_Model_behind_81 (by decide) ?_
      exact hret hm hS d_Model_behind_83
    · replace hm := xi_neg h hm
      refine lv_iload hx hb d_Model_behind_25 (lv_at hl 3 rfl) ?_
      refine lv_if_eq (tgt := 52) hx hb d_Model_behind_27 rfl (fun h => ?_) (fun h => ?_)
      · replace hm := xi_pos h hm
        exact hb52 k16 hk16 b1 b3 b4 b5 _ _ _ (lv_sub hl [0, 1, 2, 3, 4] rfl) hP hS hm
      · replace hm := xi_neg h hm
        refine lv_lload_n hx hb d_Model_behind_30 rfl (lv_at hl 1 rfl) ?_
        refine lv_aload_n hx hb d_Model_behind_31 rfl (lv_at hl 0 rfl) ?_
        refine va_get (D := (dC, dI)) (ci := 8) (v := .ref (ad 11)) (C := "EventGraphTextModel") (T := T_Model) (N := 26) hx hb hT hin_Model hown hK hP 0 mW_X rfl 11 (by decide) (hT _ wd_569) (fun _ h9 => h9) rfl d_Model_behind_32 ?_
        refine lv_iload hx hb d_Model_behind_35 (lv_at hl 4 rfl) ?_
        obtain ⟨g2, hm⟩ := xg_some hm
        refine va_iald hx hb hK hP 11 0 mW_X_row rfl g2 d_Model_behind_37 ?_
        obtain ⟨r38, h38, hm⟩ := xb1_some hm
        refine xc_i (va_runS (As := [.long b1, .int (xs_I u 8 b5.toNatClampNeg)]) (rest := []) ⟨hx, hb, hml, hown, hts⟩ (c_Model_in l b1 (xs_I u 8 b5.toNatClampNeg) r38 h38) (va_cwS 2 hts (xgS wd_656 wd_657 wd_9 wd_658) rfl rfl rfl pd_Model_in.2 ⟨Nat.le_of_ble_eq_true rfl, Nat.le_of_ble_eq_true rfl⟩) xpreS0 rfl rfl hl.1 rfl (lv_room (Nat.le_of_ble_eq_true rfl)) d_Model_behind_38 ⟨Nat.le_of_ble_eq_true rfl, Nat.le_of_ble_eq_true rfl⟩) hP hS (fun H locs hP hS => ?_)
        refine lv_if_eq (tgt := 52) hx hb d_Model_behind_41 rfl (fun h => ?_) (fun h => ?_)
        · replace hm := xi_pos h hm
          exact hb52 k16 hk16 b1 b3 b4 b5 _ _ _ (lv_sub hl [0, 1, 2, 3, 4] rfl) hP hS hm
        · replace hm := xi_neg h hm
          refine lv_aload_n hx hb d_Model_behind_44 rfl (lv_at hl 0 rfl) ?_
          refine va_get (D := (dC, dI)) (ci := 8) (v := .ref (ad 11)) (C := "EventGraphTextModel") (T := T_Model) (N := 26) hx hb hT hin_Model hown hK hP 0 mW_X rfl 11 (by decide) (hT _ wd_569) (fun _ h9 => h9) rfl d_Model_behind_45 ?_
          refine lv_iload hx hb d_Model_behind_48 (lv_at hl 4 rfl) ?_
          refine va_iald hx hb hK hP 11 0 mW_X_row rfl g2 d_Model_behind_50 ?_
          exact hret hm hS d_Model_behind_51
  have hl16 : ∀ (fu : Nat), ∀ (b1 : Int64) (b3 : Int32) (b4 : Int32) (b5 : Int32) (H : Heap) (locs : List Loc) (ls : Array Slot), lv_has ls 6 [(0, .ref (ad 0)), (1, .long b1), (3, .int b3), (4, .int b4), (5, .int b5)] → va_P (dC, dI) xCl (mW dT ad u) H → va_S xN s.heap H locs → m_Model_behind_l16 fu b1 b3 b4 b5 u = some out → W p l e (xrm 1 22) s m args below meth c H locs 0 0 Q (F0 m 16 ls []) := by
    intro fu
    induction fu with
    | zero => intro b1 b3 b4 b5 H locs ls hl hP hS hm; exact absurd hm (fun z => by cases z)
    | succ n ih => intro b1 b3 b4 b5 H locs ls hl hP hS hm; exact hs16 (m_Model_behind_l16 n) ih b1 b3 b4 b5 H locs ls hl hP hS hm
  unfold m_Model_behind at hm
  refine lv_iload_n hx hb d_Model_behind_0 rfl (lv_at hl 2 rfl) ?_
  refine lv_bipush (v := (40 : Int32)) hx hb d_Model_behind_1 (by decide) ?_
  refine lv_icmp_ne (tgt := 10) hx hb d_Model_behind_3 rfl (fun h => ?_) (fun h => ?_)
  · replace hm := xi_neg h hm
    refine lv_iconst (v := (0 : Int32)) hx hb d_Model_behind_10 (by decide) ?_
    refine lv_istore (lv' := [(4, .int (0 : Int32)), (0, .ref (ad 0)), (1, .long a1), (3, .int a3)]) hx hb d_Model_behind_11 hl (Nat.le_of_ble_eq_true rfl) rfl (fun ls hl => ?_)
    refine lv_iconst (v := (0 : Int32)) hx hb d_Model_behind_13 (by decide) ?_
    refine lv_istore (lv' := [(5, .int (0 : Int32)), (4, .int (0 : Int32)), (0, .ref (ad 0)), (1, .long a1), (3, .int a3)]) hx hb d_Model_behind_14 hl (Nat.le_of_ble_eq_true rfl) rfl (fun ls hl => ?_)
    exact hl16 xFU a1 a3 (0 : Int32) (0 : Int32) _ _ _ (lv_sub hl [2, 3, 4, 1, 0] rfl) hP hS hm
  · replace hm := xi_pos h hm
    refine lv_iconst (v := (1 : Int32)) hx hb d_Model_behind_6 (by decide) ?_
    refine lv_goto (tgt := 11) hx hb d_Model_behind_7 rfl ?_
    refine lv_istore (lv' := [(4, .int (1 : Int32)), (0, .ref (ad 0)), (1, .long a1), (3, .int a3)]) hx hb d_Model_behind_11 hl (Nat.le_of_ble_eq_true rfl) rfl (fun ls hl => ?_)
    refine lv_iconst (v := (0 : Int32)) hx hb d_Model_behind_13 (by decide) ?_
    refine lv_istore (lv' := [(5, .int (0 : Int32)), (4, .int (1 : Int32)), (0, .ref (ad 0)), (1, .long a1), (3, .int a3)]) hx hb d_Model_behind_14 hl (Nat.le_of_ble_eq_true rfl) rfl (fun ls hl => ?_)
    exact hl16 xFU a1 a3 (1 : Int32) (0 : Int32) _ _ _ (lv_sub hl [2, 3, 4, 1, 0] rfl) hP hS hm
set_option maxHeartbeats 4000000 in
set_option maxRecDepth 100000 in
theorem c_Model_lower (l : Launch) (dC : Nat → ClassId) (dI : Nat → Nat → Nat) (dT : Nat → ClassId) (ad : Nat → Nat) (a1 : Int32) (a2 : Int32) (u : xS) (out : Int32) (hm : m_Model_lower a1 a2 u = some out) : Met l y_Model_lower (Cond.code y_Model_lower b_Model_lower 3 (some .boolean) :: xG) (xrm 0 0) (va_Pc [.ref (ad 0), .int a1, .int a2] (xR (dC, dI) xCl (xT dT) (mW dT ad u))) (va_Qi (fun r9 (_ : Unit) => r9 = out) (fun _ _ => True) xN) 0 0 xN := by
  refine xm_roz (cc := b_Model_lower) (maxL := 3) (by decide) rfl (Nat.le_of_ble_eq_true rfl) ?_
  intro p e s m args below meth c Q ls hx hb hml hts hown hK hN hP hl hret
  have hT : ∀ w ∈ xG, w.before args s = true := fun w h => hts w (List.mem_cons_of_mem _ h)
  have hown : s.vm.findClass "EventGraphTextModel" = some m.cls := hown
  have hl : lv_has ls 3 [(0, .ref (ad 0)), (1, .int a1), (2, .int a2)] := hl
  have hS : va_S xN s.heap s.heap [] := va_S.rf
  unfold m_Model_lower at hm
  refine lv_aload_n hx hb d_Model_lower_0 rfl (lv_at hl 0 rfl) ?_
  refine va_get (D := (dC, dI)) (ci := 8) (v := .ref (ad 1)) (C := "EventGraphTextModel") (T := T_Model) (N := 26) hx hb hT hin_Model hown hK hP 0 mW_X rfl 1 (by decide) (hT _ wd_559) (fun _ h9 => h9) rfl d_Model_lower_1 ?_
  refine lv_iload_n hx hb d_Model_lower_4 rfl (lv_at hl 1 rfl) ?_
  obtain ⟨g1, hm⟩ := xg_some hm
  refine va_iald hx hb hK hP 1 0 mW_X_site rfl g1 d_Model_lower_5 ?_
  refine lv_aload_n hx hb d_Model_lower_6 rfl (lv_at hl 0 rfl) ?_
  refine va_get (D := (dC, dI)) (ci := 8) (v := .ref (ad 1)) (C := "EventGraphTextModel") (T := T_Model) (N := 26) hx hb hT hin_Model hown hK hP 0 mW_X rfl 1 (by decide) (hT _ wd_559) (fun _ h9 => h9) rfl d_Model_lower_7 ?_
  refine lv_iload_n hx hb d_Model_lower_10 rfl (lv_at hl 2 rfl) ?_
  obtain ⟨g2, hm⟩ := xg_some hm
  refine va_iald hx hb hK hP 1 0 mW_X_site rfl g2 d_Model_lower_11 ?_
  refine lv_icmp_eq (tgt := 38) hx hb d_Model_lower_12 rfl (fun h => ?_) (fun h => ?_)
  · replace hm := xi_pos h hm
    refine lv_aload_n hx hb d_Model_lower_38 rfl (lv_at hl 0 rfl) ?_
    refine va_get (D := (dC, dI)) (ci := 8) (v := .ref (ad 2)) (C := "EventGraphTextModel") (T := T_Model) (N := 26) hx hb hT hin_Model hown hK hP 0 mW_X rfl 2 (by decide) (hT _ wd_560) (fun _ h9 => h9) rfl d_Model_lower_39 ?_
    refine lv_iload_n hx hb d_Model_lower_42 rfl (lv_at hl 1 rfl) ?_
    refine va_iald hx hb hK hP 2 0 mW_X_number rfl g1 d_Model_lower_43 ?_
    refine lv_aload_n hx hb d_Model_lower_44 rfl (lv_at hl 0 rfl) ?_
    refine va_get (D := (dC, dI)) (ci := 8) (v := .ref (ad 2)) (C := "EventGraphTextModel") (T := T_Model) (N := 26) hx hb hT hin_Model hown hK hP 0 mW_X rfl 2 (by decide) (hT _ wd_560) (fun _ h9 => h9) rfl d_Model_lower_45 ?_
    refine lv_iload_n hx hb d_Model_lower_48 rfl (lv_at hl 2 rfl) ?_
    refine va_iald hx hb hK hP 2 0 mW_X_number rfl g2 d_Model_lower_49 ?_
    refine lv_icmp_ge (tgt := 57) hx hb d_Model_lower_50 rfl (fun h => ?_) (fun h => ?_)
    · replace hm := xi_pos h hm
      refine lv_iconst (v := (0 : Int32)) hx hb d_Model_lower_57 (by decide) ?_
      exact hret hm rfl hS d_Model_lower_58
    · replace hm := xi_neg h hm
      refine lv_iconst (v := (1 : Int32)) hx hb d_Model_lower_53 (by decide) ?_
      refine lv_goto (tgt := 58) hx hb d_Model_lower_54 rfl ?_
      exact hret hm rfl hS d_Model_lower_58
  · replace hm := xi_neg h hm
    refine lv_aload_n hx hb d_Model_lower_15 rfl (lv_at hl 0 rfl) ?_
    refine va_get (D := (dC, dI)) (ci := 8) (v := .ref (ad 1)) (C := "EventGraphTextModel") (T := T_Model) (N := 26) hx hb hT hin_Model hown hK hP 0 mW_X rfl 1 (by decide) (hT _ wd_559) (fun _ h9 => h9) rfl d_Model_lower_16 ?_
    refine lv_iload_n hx hb d_Model_lower_19 rfl (lv_at hl 1 rfl) ?_
    refine va_iald hx hb hK hP 1 0 mW_X_site rfl g1 d_Model_lower_20 ?_
    refine lv_aload_n hx hb d_Model_lower_21 rfl (lv_at hl 0 rfl) ?_
    refine va_get (D := (dC, dI)) (ci := 8) (v := .ref (ad 1)) (C := "EventGraphTextModel") (T := T_Model) (N := 26) hx hb hT hin_Model hown hK hP 0 mW_X rfl 1 (by decide) (hT _ wd_559) (fun _ h9 => h9) rfl d_Model_lower_22 ?_
    refine lv_iload_n hx hb d_Model_lower_25 rfl (lv_at hl 2 rfl) ?_
    refine va_iald hx hb hK hP 1 0 mW_X_site rfl g2 d_Model_lower_26 ?_
    refine lv_icmp_ge (tgt := 34) hx hb d_Model_lower_27 rfl (fun h => ?_) (fun h => ?_)
    · replace hm := xi_pos h hm
      refine lv_iconst (v := (0 : Int32)) hx hb d_Model_lower_34 (by decide) ?_
      refine lv_goto (tgt := 58) hx hb d_Model_lower_35 rfl ?_
      exact hret hm rfl hS d_Model_lower_58
    · replace hm := xi_neg h hm
      refine lv_iconst (v := (1 : Int32)) hx hb d_Model_lower_30 (by decide) ?_
      refine lv_goto (tgt := 58) hx hb d_Model_lower_31 rfl ?_
      exact hret hm rfl hS d_Model_lower_58
set_option maxHeartbeats 4000000 in
set_option maxRecDepth 100000 in
theorem c_Model_stands (l : Launch) (dC : Nat → ClassId) (dI : Nat → Nat → Nat) (dT : Nat → ClassId) (ad : Nat → Nat) (a1 : Int32) (a2 : Int32) (u : xS) (out : Int32) (hm : m_Model_stands a1 a2 u = some out) : Met l y_Model_stands (Cond.code y_Model_stands b_Model_stands 8 (some .boolean) :: xG) (xrm 1 22) (va_Pc [.ref (ad 0), .int a1, .int a2] (xR (dC, dI) xCl (xT dT) (mW dT ad u))) (va_Qi (fun r9 (_ : Unit) => r9 = out) (fun _ _ => True) xN) 0 0 xN := by
  refine xm_roz (cc := b_Model_stands) (maxL := 8) (by decide) rfl (Nat.le_of_ble_eq_true rfl) ?_
  intro p e s m args below meth c Q ls hx hb hml hts hown hK hN hP hl hret
  have hT : ∀ w ∈ xG, w.before args s = true := fun w h => hts w (List.mem_cons_of_mem _ h)
  have hown : s.vm.findClass "EventGraphTextModel" = some m.cls := hown
  have hl : lv_has ls 8 [(0, .ref (ad 0)), (1, .int a1), (2, .int a2)] := hl
  have hS : va_S xN s.heap s.heap [] := va_S.rf
  have hb75 : ∀ (b5 : Int32) (b6 : Int32) (H : Heap) (locs : List Loc) (ls : Array Slot), lv_has ls 8 [(0, .ref (ad 0)), (5, .int b5), (6, .int b6)] → va_P (dC, dI) xCl (mW dT ad u) H → va_S xN s.heap H locs → m_Model_stands_b75 b5 b6 u = some out → W p l e (xrm 1 22) s m args below meth c H locs 0 0 Q (F0 m 75 ls []) := by
    intro b5 b6 H locs ls hl hP hS hm
    unfold m_Model_stands_b75 at hm
    refine lv_iload hx hb d_Model_stands_75 (lv_at hl 1 rfl) ?_
    refine lv_if_ge (tgt := 88) hx hb d_Model_stands_77 rfl (fun h => ?_) (fun h => ?_)
    · replace hm := xi_pos h hm
      refine lv_iload hx hb d_Model_stands_88 (lv_at hl 2 rfl) ?_
      refine lv_if_ge (tgt := 109) hx hb d_Model_stands_90 rfl (fun h => ?_) (fun h => ?_)
      · replace hm := xi_pos h hm
        refine lv_aload_n hx hb d_Model_stands_109 rfl (lv_at hl 0 rfl) ?_
        refine va_get (D := (dC, dI)) (ci := 8) (v := .ref (ad 9)) (C := "EventGraphTextModel") (T := T_Model) (N := 26) hx hb hT hin_Model hown hK hP 0 mW_X rfl 9 (by decide) (hT _ wd_567) (fun _ h9 => h9) rfl d_Model_stands_110 ?_
        refine lv_iload hx hb d_Model_stands_113 (lv_at hl 1 rfl) ?_
        obtain ⟨g1, hm⟩ := xg_some hm
        refine va_zald hx hb hK hP 9 2 mW_X_right rfl g1 d_Model_stands_115 ?_
        refine lv_aload_n hx hb d_Model_stands_116 rfl (lv_at hl 0 rfl) ?_
        refine va_get (D := (dC, dI)) (ci := 8) (v := .ref (ad 9)) (C := "EventGraphTextModel") (T := T_Model) (N := 26) hx hb hT hin_Model hown hK hP 0 mW_X rfl 9 (by decide) (hT _ wd_567) (fun _ h9 => h9) rfl d_Model_stands_117 ?_
        refine lv_iload hx hb d_Model_stands_120 (lv_at hl 2 rfl) ?_
        obtain ⟨g2, hm⟩ := xg_some hm
        refine va_zald hx hb hK hP 9 2 mW_X_right rfl g2 d_Model_stands_122 ?_
        refine lv_icmp_eq (tgt := 136) hx hb d_Model_stands_123 rfl (fun h => ?_) (fun h => ?_)
        · replace hm := xi_pos h hm
          refine lv_aload_n hx hb d_Model_stands_136 rfl (lv_at hl 0 rfl) ?_
          refine lv_iload hx hb d_Model_stands_137 (lv_at hl 1 rfl) ?_
          refine lv_iload hx hb d_Model_stands_139 (lv_at hl 2 rfl) ?_
          obtain ⟨r141, h141, hm⟩ := xb1_some hm
          refine xc_i (va_runV (C := "EventGraphTextModel") (As := [.int b5, .int b6]) (rest := []) ⟨hx, hb, hml, hown, hts⟩ (c_Model_lower l dC dI dT ad b5 b6 u r141 h141) (cwV 2 hts (xgV wd_687 wd_689 wds_17 wd_9 wd_690) rfl rfl rfl pd_Model_lower ⟨Nat.le_of_ble_eq_true rfl, Nat.le_of_ble_eq_true rfl⟩) (xpreV (C := "EventGraphTextModel") (T := T_Model) (N := 26) hP hK hN rfl mW_X) rfl rfl hl.1 rfl (lv_room (Nat.le_of_ble_eq_true rfl)) d_Model_stands_141 ⟨Nat.le_of_ble_eq_true rfl, Nat.le_of_ble_eq_true rfl⟩) hP hS (fun H locs hP hS => ?_)
          obtain ⟨gz, hm⟩ := xg_some hm
          exact hret hm (xnar gz) hS d_Model_stands_144
        · replace hm := xi_neg h hm
          refine lv_aload_n hx hb d_Model_stands_126 rfl (lv_at hl 0 rfl) ?_
          refine va_get (D := (dC, dI)) (ci := 8) (v := .ref (ad 9)) (C := "EventGraphTextModel") (T := T_Model) (N := 26) hx hb hT hin_Model hown hK hP 0 mW_X rfl 9 (by decide) (hT _ wd_567) (fun _ h9 => h9) rfl d_Model_stands_127 ?_
          refine lv_iload hx hb d_Model_stands_130 (lv_at hl 2 rfl) ?_
          refine va_zald hx hb hK hP 9 2 mW_X_right rfl g2 d_Model_stands_132 ?_
          refine lv_goto (tgt := 144) hx hb d_Model_stands_133 rfl ?_
          obtain ⟨gz, hm⟩ := xg_some hm
          exact hret hm (xnar gz) hS d_Model_stands_144
      · replace hm := xi_neg h hm
        refine lv_aload_n hx hb d_Model_stands_93 rfl (lv_at hl 0 rfl) ?_
        refine va_get (D := (dC, dI)) (ci := 8) (v := .ref (ad 9)) (C := "EventGraphTextModel") (T := T_Model) (N := 26) hx hb hT hin_Model hown hK hP 0 mW_X rfl 9 (by decide) (hT _ wd_567) (fun _ h9 => h9) rfl d_Model_stands_94 ?_
        refine lv_iload hx hb d_Model_stands_97 (lv_at hl 1 rfl) ?_
        obtain ⟨g3, hm⟩ := xg_some hm
        refine va_zald hx hb hK hP 9 2 mW_X_right rfl g3 d_Model_stands_99 ?_
        refine lv_if_ne (tgt := 107) hx hb d_Model_stands_100 rfl (fun h => ?_) (fun h => ?_)
        · replace hm := xi_neg h hm
          refine lv_iconst (v := (0 : Int32)) hx hb d_Model_stands_107 (by decide) ?_
          exact hret hm rfl hS d_Model_stands_108
        · replace hm := xi_pos h hm
          refine lv_iconst (v := (1 : Int32)) hx hb d_Model_stands_103 (by decide) ?_
          refine lv_goto (tgt := 108) hx hb d_Model_stands_104 rfl ?_
          exact hret hm rfl hS d_Model_stands_108
    · replace hm := xi_neg h hm
      refine lv_aload_n hx hb d_Model_stands_80 rfl (lv_at hl 0 rfl) ?_
      refine va_get (D := (dC, dI)) (ci := 8) (v := .ref (ad 9)) (C := "EventGraphTextModel") (T := T_Model) (N := 26) hx hb hT hin_Model hown hK hP 0 mW_X rfl 9 (by decide) (hT _ wd_567) (fun _ h9 => h9) rfl d_Model_stands_81 ?_
      refine lv_iload hx hb d_Model_stands_84 (lv_at hl 2 rfl) ?_
      obtain ⟨g4, hm⟩ := xg_some hm
      refine va_zald hx hb hK hP 9 2 mW_X_right rfl g4 d_Model_stands_86 ?_
      obtain ⟨gz, hm⟩ := xg_some hm
      exact hret hm (xnar gz) hS d_Model_stands_87
  have hs14 : ∀ (k14 : Int32 → Int32 → Int32 → Int32 → Int32 → xS → Option Int32) (hk14 : ∀ (b3 : Int32) (b4 : Int32) (b5 : Int32) (b6 : Int32) (b7 : Int32) (H : Heap) (locs : List Loc) (ls : Array Slot), lv_has ls 8 [(0, .ref (ad 0)), (3, .int b3), (4, .int b4), (5, .int b5), (6, .int b6), (7, .int b7)] → va_P (dC, dI) xCl (mW dT ad u) H → va_S xN s.heap H locs → k14 b3 b4 b5 b6 b7 u = some out → W p l e (xrm 1 22) s m args below meth c H locs 0 0 Q (F0 m 14 ls [])), ∀ (b3 : Int32) (b4 : Int32) (b5 : Int32) (b6 : Int32) (b7 : Int32) (H : Heap) (locs : List Loc) (ls : Array Slot), lv_has ls 8 [(0, .ref (ad 0)), (3, .int b3), (4, .int b4), (5, .int b5), (6, .int b6), (7, .int b7)] → va_P (dC, dI) xCl (mW dT ad u) H → va_S xN s.heap H locs → m_Model_stands_s14 k14 b3 b4 b5 b6 b7 u = some out → W p l e (xrm 1 22) s m args below meth c H locs 0 0 Q (F0 m 14 ls []) := by
    intro k14 hk14 b3 b4 b5 b6 b7 H locs ls hl hP hS hm
    unfold m_Model_stands_s14 at hm
    refine lv_iload hx hb d_Model_stands_14 (lv_at hl 5 rfl) ?_
    refine lv_bipush (v := (90 : Int32)) hx hb d_Model_stands_16 (by decide) ?_
    refine lv_icmp_ge (tgt := 75) hx hb d_Model_stands_18 rfl (fun h => ?_) (fun h => ?_)
    · replace hm := xi_pos h hm
      exact hb75 b5 b6 _ _ _ (lv_sub hl [0, 3, 4] rfl) hP hS hm
    · replace hm := xi_neg h hm
      refine lv_iload_n hx hb d_Model_stands_21 rfl (lv_at hl 1 rfl) ?_
      refine lv_iload hx hb d_Model_stands_22 (lv_at hl 2 rfl) ?_
      refine lv_icmp_eq (tgt := 75) hx hb d_Model_stands_24 rfl (fun h => ?_) (fun h => ?_)
      · replace hm := xi_pos h hm
        exact hb75 b5 b6 _ _ _ (lv_sub hl [0, 3, 4] rfl) hP hS hm
      · replace hm := xi_neg h hm
        refine lv_aload_n hx hb d_Model_stands_27 rfl (lv_at hl 0 rfl) ?_
        refine va_get (D := (dC, dI)) (ci := 8) (v := .ref (ad 10)) (C := "EventGraphTextModel") (T := T_Model) (N := 26) hx hb hT hin_Model hown hK hP 0 mW_X rfl 10 (by decide) (hT _ wd_568) (fun _ h9 => h9) rfl d_Model_stands_28 ?_
        refine lv_iload_n hx hb d_Model_stands_31 rfl (lv_at hl 1 rfl) ?_
        obtain ⟨g5, hm⟩ := xg_some hm
        refine va_iald hx hb hK hP 10 0 mW_X_depth rfl g5 d_Model_stands_32 ?_
        refine lv_aload_n hx hb d_Model_stands_33 rfl (lv_at hl 0 rfl) ?_
        refine va_get (D := (dC, dI)) (ci := 8) (v := .ref (ad 10)) (C := "EventGraphTextModel") (T := T_Model) (N := 26) hx hb hT hin_Model hown hK hP 0 mW_X rfl 10 (by decide) (hT _ wd_568) (fun _ h9 => h9) rfl d_Model_stands_34 ?_
        refine lv_iload hx hb d_Model_stands_37 (lv_at hl 2 rfl) ?_
        obtain ⟨g6, hm⟩ := xg_some hm
        refine va_iald hx hb hK hP 10 0 mW_X_depth rfl g6 d_Model_stands_39 ?_
        refine lv_icmp_lt (tgt := 56) hx hb d_Model_stands_40 rfl (fun h => ?_) (fun h => ?_)
        · replace hm := xi_pos h hm
          refine lv_iload hx hb d_Model_stands_56 (lv_at hl 2 rfl) ?_
          refine lv_istore (lv' := [(6, .int b4), (0, .ref (ad 0)), (3, .int b3), (4, .int b4), (5, .int b5), (7, .int b7)]) hx hb d_Model_stands_58 hl (Nat.le_of_ble_eq_true rfl) rfl (fun ls hl => ?_)
          refine lv_aload_n hx hb d_Model_stands_60 rfl (lv_at hl 1 rfl) ?_
          refine va_get (D := (dC, dI)) (ci := 8) (v := .ref (ad 8)) (C := "EventGraphTextModel") (T := T_Model) (N := 26) hx hb hT hin_Model hown hK hP 0 mW_X rfl 8 (by decide) (hT _ wd_566) (fun _ h9 => h9) rfl d_Model_stands_61 ?_
          refine lv_iload hx hb d_Model_stands_64 (lv_at hl 3 rfl) ?_
          refine va_iald hx hb hK hP 8 0 mW_X_place rfl g6 d_Model_stands_66 ?_
          refine lv_istore (lv' := [(4, .int (xs_I u 5 b4.toNatClampNeg)), (6, .int b4), (0, .ref (ad 0)), (3, .int b3), (5, .int b5), (7, .int b7)]) hx hb d_Model_stands_67 hl (Nat.le_of_ble_eq_true rfl) rfl (fun ls hl => ?_)
          refine lv_iinc (k := 5) (v := (b7 + (1 : Int32))) (lv' := [(7, .int (b7 + (1 : Int32))), (4, .int (xs_I u 5 b4.toNatClampNeg)), (6, .int b4), (0, .ref (ad 0)), (3, .int b3), (5, .int b5)]) hx hb d_Model_stands_69 hl rfl rfl (Nat.le_of_ble_eq_true rfl) rfl (fun ls hl => ?_)
          refine lv_goto (tgt := 14) hx hb d_Model_stands_72 rfl ?_
          exact hk14 b3 (xs_I u 5 b4.toNatClampNeg) b5 b4 (b7 + (1 : Int32)) _ _ _ (lv_sub hl [3, 4, 1, 5, 2, 0] rfl) hP hS hm
        · replace hm := xi_neg h hm
          refine lv_iload_n hx hb d_Model_stands_43 rfl (lv_at hl 1 rfl) ?_
          refine lv_istore (lv' := [(5, .int b3), (0, .ref (ad 0)), (3, .int b3), (4, .int b4), (6, .int b6), (7, .int b7)]) hx hb d_Model_stands_44 hl (Nat.le_of_ble_eq_true rfl) rfl (fun ls hl => ?_)
          refine lv_aload_n hx hb d_Model_stands_46 rfl (lv_at hl 1 rfl) ?_
          refine va_get (D := (dC, dI)) (ci := 8) (v := .ref (ad 8)) (C := "EventGraphTextModel") (T := T_Model) (N := 26) hx hb hT hin_Model hown hK hP 0 mW_X rfl 8 (by decide) (hT _ wd_566) (fun _ h9 => h9) rfl d_Model_stands_47 ?_
          refine lv_iload_n hx hb d_Model_stands_50 rfl (lv_at hl 2 rfl) ?_
          refine va_iald hx hb hK hP 8 0 mW_X_place rfl g5 d_Model_stands_51 ?_
          refine lv_istore_n (lv' := [(3, .int (xs_I u 5 b3.toNatClampNeg)), (5, .int b3), (0, .ref (ad 0)), (4, .int b4), (6, .int b6), (7, .int b7)]) hx hb d_Model_stands_52 rfl hl (Nat.le_of_ble_eq_true rfl) rfl (fun ls hl => ?_)
          refine lv_goto (tgt := 69) hx hb d_Model_stands_53 rfl ?_
          refine lv_iinc (k := 5) (v := (b7 + (1 : Int32))) (lv' := [(7, .int (b7 + (1 : Int32))), (3, .int (xs_I u 5 b3.toNatClampNeg)), (5, .int b3), (0, .ref (ad 0)), (4, .int b4), (6, .int b6)]) hx hb d_Model_stands_69 hl rfl rfl (Nat.le_of_ble_eq_true rfl) rfl (fun ls hl => ?_)
          refine lv_goto (tgt := 14) hx hb d_Model_stands_72 rfl ?_
          exact hk14 (xs_I u 5 b3.toNatClampNeg) b4 b3 b6 (b7 + (1 : Int32)) _ _ _ (lv_sub hl [3, 1, 4, 2, 5, 0] rfl) hP hS hm
  have hl14 : ∀ (fu : Nat), ∀ (b3 : Int32) (b4 : Int32) (b5 : Int32) (b6 : Int32) (b7 : Int32) (H : Heap) (locs : List Loc) (ls : Array Slot), lv_has ls 8 [(0, .ref (ad 0)), (3, .int b3), (4, .int b4), (5, .int b5), (6, .int b6), (7, .int b7)] → va_P (dC, dI) xCl (mW dT ad u) H → va_S xN s.heap H locs → m_Model_stands_l14 fu b3 b4 b5 b6 b7 u = some out → W p l e (xrm 1 22) s m args below meth c H locs 0 0 Q (F0 m 14 ls []) := by
    intro fu
    induction fu with
    | zero => intro b3 b4 b5 b6 b7 H locs ls hl hP hS hm; exact absurd hm (fun z => by cases z)
    | succ n ih => intro b3 b4 b5 b6 b7 H locs ls hl hP hS hm; exact hs14 (m_Model_stands_l14 n) ih b3 b4 b5 b6 b7 H locs ls hl hP hS hm
  unfold m_Model_stands at hm
  refine lv_iload_n hx hb d_Model_stands_0 rfl (lv_at hl 1 rfl) ?_
  refine lv_istore_n (lv' := [(3, .int a1), (0, .ref (ad 0)), (1, .int a1), (2, .int a2)]) hx hb d_Model_stands_1 rfl hl (Nat.le_of_ble_eq_true rfl) rfl (fun ls hl => ?_)
  refine lv_iload_n hx hb d_Model_stands_2 rfl (lv_at hl 3 rfl) ?_
  refine lv_istore (lv' := [(4, .int a2), (3, .int a1), (0, .ref (ad 0)), (1, .int a1), (2, .int a2)]) hx hb d_Model_stands_3 hl (Nat.le_of_ble_eq_true rfl) rfl (fun ls hl => ?_)
  refine lv_iconst (v := (-1 : Int32)) hx hb d_Model_stands_5 (by decide) ?_
  refine lv_istore (lv' := [(5, .int (-1 : Int32)), (4, .int a2), (3, .int a1), (0, .ref (ad 0)), (1, .int a1), (2, .int a2)]) hx hb d_Model_stands_6 hl (Nat.le_of_ble_eq_true rfl) rfl (fun ls hl => ?_)
  refine lv_iconst (v := (-1 : Int32)) hx hb d_Model_stands_8 (by decide) ?_
  refine lv_istore (lv' := [(6, .int (-1 : Int32)), (5, .int (-1 : Int32)), (4, .int a2), (3, .int a1), (0, .ref (ad 0)), (1, .int a1), (2, .int a2)]) hx hb d_Model_stands_9 hl (Nat.le_of_ble_eq_true rfl) rfl (fun ls hl => ?_)
  refine lv_iconst (v := (0 : Int32)) hx hb d_Model_stands_11 (by decide) ?_
  refine lv_istore (lv' := [(7, .int (0 : Int32)), (6, .int (-1 : Int32)), (5, .int (-1 : Int32)), (4, .int a2), (3, .int a1), (0, .ref (ad 0)), (1, .int a1), (2, .int a2)]) hx hb d_Model_stands_12 hl (Nat.le_of_ble_eq_true rfl) rfl (fun ls hl => ?_)
  exact hl14 xFU a1 a2 (-1 : Int32) (-1 : Int32) (0 : Int32) _ _ _ (lv_sub hl [5, 4, 3, 2, 1, 0] rfl) hP hS hm
