set_option maxHeartbeats 4000000 in
set_option maxRecDepth 100000 in
theorem c_Text_isSite (l : Launch) (a0 : Int32) (out : Int32) (hm : m_Text_isSite a0 = some out) : Met l y_Text_isSite (Cond.code y_Text_isSite b_Text_isSite 1 (some .boolean) :: xG) (xrm 0 0) (va_Pc [.int a0] (fun _ => True)) (va_Qi (fun r9 (_ : Unit) => r9 = out) (fun _ _ => True) xN) 0 0 xN := by
  refine xm_puz (cc := b_Text_isSite) (maxL := 1) (by decide) rfl (Nat.le_of_ble_eq_true rfl) ?_
  intro p e s m args below meth c Q ls hx hb hml hts hown hl hret
  have hT : ∀ w ∈ xG, w.before args s = true := fun w h => hts w (List.mem_cons_of_mem _ h)
  have hown : s.vm.findClass "EventGraphText" = some m.cls := hown
  have hl : lv_has ls 1 [(0, .int a0)] := hl
  have hS : va_S xN s.heap s.heap [] := va_S.rf
  unfold m_Text_isSite at hm
  refine lv_iload_n hx hb d_Text_isSite_0 rfl (lv_at hl 0 rfl) ?_
  refine lv_if_lt (tgt := 13) hx hb d_Text_isSite_1 rfl (fun h => ?_) (fun h => ?_)
  · replace hm := xi_pos h hm
    refine lv_iconst (v := (0 : Int32)) hx hb d_Text_isSite_13 (by decide) ?_
    exact hret hm rfl hS d_Text_isSite_14
  · replace hm := xi_neg h hm
    refine lv_iload_n hx hb d_Text_isSite_4 rfl (lv_at hl 0 rfl) ?_
    refine lv_iconst (v := (3 : Int32)) hx hb d_Text_isSite_5 (by decide) ?_
    refine lv_icmp_ge (tgt := 13) hx hb d_Text_isSite_6 rfl (fun h => ?_) (fun h => ?_)
    · replace hm := xi_pos h hm
      refine lv_iconst (v := (0 : Int32)) hx hb d_Text_isSite_13 (by decide) ?_
      exact hret hm rfl hS d_Text_isSite_14
    · replace hm := xi_neg h hm
      refine lv_iconst (v := (1 : Int32)) hx hb d_Text_isSite_9 (by decide) ?_
      refine lv_goto (tgt := 14) hx hb d_Text_isSite_10 rfl ?_
      exact hret hm rfl hS d_Text_isSite_14
set_option maxHeartbeats 4000000 in
set_option maxRecDepth 100000 in
theorem c_History_isFull (l : Launch) (dC : Nat → ClassId) (dI : Nat → Nat → Nat) (dT : Nat → ClassId) (ad : Nat → Nat) (u : xS) (out : Int32) (hm : m_History_isFull u = some out) : Met l y_History_isFull (Cond.code y_History_isFull b_History_isFull 1 (some .boolean) :: xG) (xrm 0 0) (va_Pc [.ref (ad 1)] (xR (dC, dI) xCl (xT dT) (cW dT ad u))) (va_Qi (fun r9 (_ : Unit) => r9 = out) (fun _ _ => True) xN) 0 0 xN := by
  refine xm_roz (cc := b_History_isFull) (maxL := 1) (by decide) rfl (Nat.le_of_ble_eq_true rfl) ?_
  intro p e s m args below meth c Q ls hx hb hml hts hown hK hN hP hl hret
  have hT : ∀ w ∈ xG, w.before args s = true := fun w h => hts w (List.mem_cons_of_mem _ h)
  have hown : s.vm.findClass "EventGraphText$History" = some m.cls := hown
  have hl : lv_has ls 1 [(0, .ref (ad 1))] := hl
  have hS : va_S xN s.heap s.heap [] := va_S.rf
  unfold m_History_isFull at hm
  refine lv_aload_n hx hb d_History_isFull_0 rfl (lv_at hl 0 rfl) ?_
  refine va_get (D := (dC, dI)) (ci := 1) (v := .int (xs_i u 0)) (C := "EventGraphText$History") (T := T_History) (N := 9) hx hb hT hin_History hown hK hP 1 cW_H rfl 8 (by decide) (hT _ wd_33) (fun _ h9 => h9) rfl d_History_isFull_1 ?_
  refine lv_bipush (v := (40 : Int32)) hx hb d_History_isFull_4 (by decide) ?_
  refine lv_icmp_lt (tgt := 13) hx hb d_History_isFull_6 rfl (fun h => ?_) (fun h => ?_)
  · replace hm := xi_pos h hm
    refine lv_iconst (v := (0 : Int32)) hx hb d_History_isFull_13 (by decide) ?_
    exact hret hm rfl hS d_History_isFull_14
  · replace hm := xi_neg h hm
    refine lv_iconst (v := (1 : Int32)) hx hb d_History_isFull_9 (by decide) ?_
    refine lv_goto (tgt := 14) hx hb d_History_isFull_10 rfl ?_
    exact hret hm rfl hS d_History_isFull_14
set_option maxHeartbeats 4000000 in
set_option maxRecDepth 100000 in
theorem c_Text_bit (l : Launch) (a0 : Int32) (out : Int64) (hm : m_Text_bit a0 = some out) : Met l y_Text_bit (Cond.code y_Text_bit b_Text_bit 1 (some .long) :: xG) (xrm 0 0) (va_Pc [.int a0] (fun _ => True)) (va_Ql (fun r9 (_ : Unit) => r9 = out) (fun _ _ => True) xN) 0 0 xN := by
  refine xm_puj (cc := b_Text_bit) (maxL := 1) (by decide) rfl (Nat.le_of_ble_eq_true rfl) ?_
  intro p e s m args below meth c Q ls hx hb hml hts hown hl hret
  have hT : ∀ w ∈ xG, w.before args s = true := fun w h => hts w (List.mem_cons_of_mem _ h)
  have hown : s.vm.findClass "EventGraphText" = some m.cls := hown
  have hl : lv_has ls 1 [(0, .int a0)] := hl
  have hS : va_S xN s.heap s.heap [] := va_S.rf
  unfold m_Text_bit at hm
  refine lv_lconst (v := (1 : Int64)) hx hb d_Text_bit_0 (by decide) ?_
  refine lv_iload_n hx hb d_Text_bit_1 rfl (lv_at hl 0 rfl) ?_
  refine lv_lshl (v := (xShl (1 : Int64) a0)) hx hb d_Text_bit_2 rfl ?_
  exact hret hm hS d_Text_bit_3
set_option maxHeartbeats 4000000 in
set_option maxRecDepth 100000 in
theorem c_Text_has (l : Launch) (a0 : Int64) (a2 : Int32) (out : Int32) (hm : m_Text_has a0 a2 = some out) : Met l y_Text_has (Cond.code y_Text_has b_Text_has 3 (some .boolean) :: xG) (xrm 1 20) (va_Pc [.long a0, .int a2] (fun _ => True)) (va_Qi (fun r9 (_ : Unit) => r9 = out) (fun _ _ => True) xN) 0 0 xN := by
  refine xm_puz (cc := b_Text_has) (maxL := 3) (by decide) rfl (Nat.le_of_ble_eq_true rfl) ?_
  intro p e s m args below meth c Q ls hx hb hml hts hown hl hret
  have hT : ∀ w ∈ xG, w.before args s = true := fun w h => hts w (List.mem_cons_of_mem _ h)
  have hown : s.vm.findClass "EventGraphText" = some m.cls := hown
  have hl : lv_has ls 3 [(0, .long a0), (2, .int a2)] := hl
  have hS : va_S xN s.heap s.heap [] := va_S.rf
  unfold m_Text_has at hm
  refine lv_iload_n hx hb d_Text_has_0 rfl (lv_at hl 1 rfl) ?_
  refine lv_if_lt (tgt := 19) hx hb d_Text_has_1 rfl (fun h => ?_) (fun h => ?_)
  · replace hm := xi_pos h hm
    refine lv_iconst (v := (0 : Int32)) hx hb d_Text_has_19 (by decide) ?_
    exact hret hm rfl hS d_Text_has_20
  · replace hm := xi_neg h hm
    refine lv_lload_n hx hb d_Text_has_4 rfl (lv_at hl 0 rfl) ?_
    refine lv_iload_n hx hb d_Text_has_5 rfl (lv_at hl 1 rfl) ?_
    obtain ⟨r6, h6, hm⟩ := xb1_some hm
    refine xc_l0 (va_runS (As := [.int a2]) (rest := [.long a0]) ⟨hx, hb, hml, hown, hts⟩ (c_Text_bit l a2 r6 h6) (va_cwS 1 hts (xgS wd_218 wd_219 wd_1 wd_220) rfl rfl rfl pd_Text_bit.2 ⟨Nat.le_of_ble_eq_true rfl, Nat.le_of_ble_eq_true rfl⟩) xpreS0 rfl rfl hl.1 rfl (lv_room (Nat.le_of_ble_eq_true rfl)) d_Text_has_6 ⟨Nat.le_of_ble_eq_true rfl, Nat.le_of_ble_eq_true rfl⟩) hS (fun H locs hS => ?_)
    refine lv_land hx hb d_Text_has_9 ?_
    refine lv_lconst (v := (0 : Int64)) hx hb d_Text_has_10 (by decide) ?_
    refine xl_cmp_eq (tgt := 19) hx hb d_Text_has_11 d_Text_has_12 rfl (fun h => ?_) (fun h => ?_)
    · replace hm := xi_pos h hm
      refine lv_iconst (v := (0 : Int32)) hx hb d_Text_has_19 (by decide) ?_
      exact hret hm rfl hS d_Text_has_20
    · replace hm := xi_neg h hm
      refine lv_iconst (v := (1 : Int32)) hx hb d_Text_has_15 (by decide) ?_
      refine lv_goto (tgt := 20) hx hb d_Text_has_16 rfl ?_
      exact hret hm rfl hS d_Text_has_20
set_option maxHeartbeats 4000000 in
set_option maxRecDepth 100000 in
theorem c_CharacterList_shownIn (l : Launch) (dC : Nat → ClassId) (dI : Nat → Nat → Nat) (dT : Nat → ClassId) (ad : Nat → Nat) (a1 : Int64) (u : xS) (out : Int64) (hm : m_CharacterList_shownIn a1 u = some out) : Met l y_CharacterList_shownIn (Cond.code y_CharacterList_shownIn b_CharacterList_shownIn 6 (some .long) :: xG) (xrm 2 42) (va_Pc [.ref (ad 10), .long a1] (xR (dC, dI) xCl (xT dT) (cW dT ad u))) (va_Ql (fun r9 (_ : Unit) => r9 = out) (fun _ _ => True) xN) 0 0 xN := by
  refine xm_roj (cc := b_CharacterList_shownIn) (maxL := 6) (by decide) rfl (Nat.le_of_ble_eq_true rfl) ?_
  intro p e s m args below meth c Q ls hx hb hml hts hown hK hN hP hl hret
  have hT : ∀ w ∈ xG, w.before args s = true := fun w h => hts w (List.mem_cons_of_mem _ h)
  have hown : s.vm.findClass "EventGraphText$CharacterList" = some m.cls := hown
  have hl : lv_has ls 6 [(0, .ref (ad 10)), (1, .long a1)] := hl
  have hS : va_S xN s.heap s.heap [] := va_S.rf
  have hs5 : ∀ (k5 : Int64 → Int64 → Int32 → xS → Option Int64) (hk5 : ∀ (b1 : Int64) (b3 : Int64) (b5 : Int32) (H : Heap) (locs : List Loc) (ls : Array Slot), lv_has ls 6 [(0, .ref (ad 10)), (1, .long b1), (3, .long b3), (5, .int b5)] → va_P (dC, dI) xCl (cW dT ad u) H → va_S xN s.heap H locs → k5 b1 b3 b5 u = some out → W p l e (xrm 2 42) s m args below meth c H locs 0 0 Q (F0 m 5 ls [])), ∀ (b1 : Int64) (b3 : Int64) (b5 : Int32) (H : Heap) (locs : List Loc) (ls : Array Slot), lv_has ls 6 [(0, .ref (ad 10)), (1, .long b1), (3, .long b3), (5, .int b5)] → va_P (dC, dI) xCl (cW dT ad u) H → va_S xN s.heap H locs → m_CharacterList_shownIn_s5 k5 b1 b3 b5 u = some out → W p l e (xrm 2 42) s m args below meth c H locs 0 0 Q (F0 m 5 ls []) := by
    intro k5 hk5 b1 b3 b5 H locs ls hl hP hS hm
    unfold m_CharacterList_shownIn_s5 at hm
    refine lv_iload hx hb d_CharacterList_shownIn_5 (lv_at hl 3 rfl) ?_
    refine lv_bipush (v := (40 : Int32)) hx hb d_CharacterList_shownIn_7 (by decide) ?_
    refine lv_icmp_ge (tgt := 45) hx hb d_CharacterList_shownIn_9 rfl (fun h => ?_) (fun h => ?_)
    · replace hm := xi_pos h hm
      refine lv_lload_n hx hb d_CharacterList_shownIn_45 rfl (lv_at hl 1 rfl) ?_
      refine lv_aload_n hx hb d_CharacterList_shownIn_46 rfl (lv_at hl 0 rfl) ?_
      refine va_get (D := (dC, dI)) (ci := 0) (v := .long (xs_l u 1)) (C := "EventGraphText$CharacterList") (T := T_CharacterList) (N := 8) hx hb hT hin_CharacterList hown hK hP 10 cW_L rfl 6 (by decide) (hT _ wd_67) (fun _ h9 => h9) rfl d_CharacterList_shownIn_47 ?_
      refine lv_land hx hb d_CharacterList_shownIn_50 ?_
      refine lv_lload_n hx hb d_CharacterList_shownIn_51 rfl (lv_at hl 2 rfl) ?_
      refine lv_ldc2 (v := (-1 : Int64)) hx hb hown (hT _ wd_222) d_CharacterList_shownIn_52 ?_
      refine lv_lxor hx hb d_CharacterList_shownIn_55 ?_
      refine lv_land hx hb d_CharacterList_shownIn_56 ?_
      exact hret hm hS d_CharacterList_shownIn_57
    · replace hm := xi_neg h hm
      refine lv_lload_n hx hb d_CharacterList_shownIn_12 rfl (lv_at hl 1 rfl) ?_
      refine lv_aload_n hx hb d_CharacterList_shownIn_13 rfl (lv_at hl 0 rfl) ?_
      refine va_get (D := (dC, dI)) (ci := 0) (v := .long (xs_l u 0)) (C := "EventGraphText$CharacterList") (T := T_CharacterList) (N := 8) hx hb hT hin_CharacterList hown hK hP 10 cW_L rfl 5 (by decide) (hT _ wd_66) (fun _ h9 => h9) rfl d_CharacterList_shownIn_14 ?_
      refine lv_land hx hb d_CharacterList_shownIn_17 ?_
      refine lv_iload hx hb d_CharacterList_shownIn_18 (lv_at hl 3 rfl) ?_
      obtain ⟨r20, h20, hm⟩ := xb1_some hm
      refine xc_i (va_runSN (As := [.long (b1 &&& (xs_l u 0)), .int b5]) (rest := []) ⟨hx, hb, hml, hown, hts⟩ (c_Text_has l (b1 &&& (xs_l u 0)) b5 r20 h20) ⟨va_cnB 2 hts (xg0 wd_217) rfl rfl rfl (nmm_7 hN) (hT _ wd_1) pd_Text_has.2 ⟨Nat.le_of_ble_eq_true rfl, Nat.le_of_ble_eq_true rfl⟩, hT _ wd_216, trivial⟩ xpreS0 rfl rfl hl.1 rfl (lv_room (Nat.le_of_ble_eq_true rfl)) d_CharacterList_shownIn_20 ⟨Nat.le_of_ble_eq_true rfl, Nat.le_of_ble_eq_true rfl⟩) hP hS (fun H locs hP hS => ?_)
      refine lv_if_eq (tgt := 39) hx hb d_CharacterList_shownIn_23 rfl (fun h => ?_) (fun h => ?_)
      · replace hm := xi_pos h hm
        refine lv_iinc (k := 3) (v := (b5 + (1 : Int32))) (lv' := [(5, .int (b5 + (1 : Int32))), (0, .ref (ad 10)), (1, .long b1), (3, .long b3)]) hx hb d_CharacterList_shownIn_39 hl rfl rfl (Nat.le_of_ble_eq_true rfl) rfl (fun ls hl => ?_)
        refine lv_goto (tgt := 5) hx hb d_CharacterList_shownIn_42 rfl ?_
        exact hk5 b1 b3 (b5 + (1 : Int32)) _ _ _ (lv_sub hl [1, 2, 3, 0] rfl) hP hS hm
      · replace hm := xi_neg h hm
        refine lv_lload_n hx hb d_CharacterList_shownIn_26 rfl (lv_at hl 2 rfl) ?_
        refine lv_aload_n hx hb d_CharacterList_shownIn_27 rfl (lv_at hl 0 rfl) ?_
        refine va_get (D := (dC, dI)) (ci := 0) (v := .ref (ad 15)) (C := "EventGraphText$CharacterList") (T := T_CharacterList) (N := 8) hx hb hT hin_CharacterList hown hK hP 10 cW_L rfl 4 (by decide) (hT _ wd_65) (fun _ h9 => h9) rfl d_CharacterList_shownIn_28 ?_
        refine lv_iload hx hb d_CharacterList_shownIn_31 (lv_at hl 3 rfl) ?_
        obtain ⟨g1, hm⟩ := xg_some hm
        refine va_iald hx hb hK hP 15 0 cW_L_taken rfl g1 d_CharacterList_shownIn_33 ?_
        obtain ⟨r34, h34, hm⟩ := xb1_some hm
        refine xc_l (va_runSN (As := [.int (xs_I u 9 b5.toNatClampNeg)]) (rest := [.long b3]) ⟨hx, hb, hml, hown, hts⟩ (c_Text_bit l (xs_I u 9 b5.toNatClampNeg) r34 h34) ⟨va_cnB 1 hts (xg0 wd_220) rfl rfl rfl (nmm_8 hN) (hT _ wd_1) pd_Text_bit.2 ⟨Nat.le_of_ble_eq_true rfl, Nat.le_of_ble_eq_true rfl⟩, hT _ wd_219, trivial⟩ xpreS0 rfl rfl hl.1 rfl (lv_room (Nat.le_of_ble_eq_true rfl)) d_CharacterList_shownIn_34 ⟨Nat.le_of_ble_eq_true rfl, Nat.le_of_ble_eq_true rfl⟩) hP hS (fun H locs hP hS => ?_)
        refine lv_lor hx hb d_CharacterList_shownIn_37 ?_
        refine lv_lstore_n (lv' := [(3, .long (b3 ||| r34)), (0, .ref (ad 10)), (1, .long b1), (5, .int b5)]) hx hb d_CharacterList_shownIn_38 rfl hl (Nat.le_of_ble_eq_true rfl) rfl (fun ls hl => ?_)
        refine lv_iinc (k := 3) (v := (b5 + (1 : Int32))) (lv' := [(5, .int (b5 + (1 : Int32))), (3, .long (b3 ||| r34)), (0, .ref (ad 10)), (1, .long b1)]) hx hb d_CharacterList_shownIn_39 hl rfl rfl (Nat.le_of_ble_eq_true rfl) rfl (fun ls hl => ?_)
        refine lv_goto (tgt := 5) hx hb d_CharacterList_shownIn_42 rfl ?_
        exact hk5 b1 (b3 ||| r34) (b5 + (1 : Int32)) _ _ _ (lv_sub hl [2, 3, 1, 0] rfl) hP hS hm
  have hl5 : ∀ (fu : Nat), ∀ (b1 : Int64) (b3 : Int64) (b5 : Int32) (H : Heap) (locs : List Loc) (ls : Array Slot), lv_has ls 6 [(0, .ref (ad 10)), (1, .long b1), (3, .long b3), (5, .int b5)] → va_P (dC, dI) xCl (cW dT ad u) H → va_S xN s.heap H locs → m_CharacterList_shownIn_l5 fu b1 b3 b5 u = some out → W p l e (xrm 2 42) s m args below meth c H locs 0 0 Q (F0 m 5 ls []) := by
    intro fu
    induction fu with
    | zero => intro b1 b3 b5 H locs ls hl hP hS hm; exact absurd hm (fun z => by cases z)
    | succ n ih => intro b1 b3 b5 H locs ls hl hP hS hm; exact hs5 (m_CharacterList_shownIn_l5 n) ih b1 b3 b5 H locs ls hl hP hS hm
  unfold m_CharacterList_shownIn at hm
  refine lv_lconst (v := (0 : Int64)) hx hb d_CharacterList_shownIn_0 (by decide) ?_
  refine lv_lstore_n (lv' := [(3, .long (0 : Int64)), (0, .ref (ad 10)), (1, .long a1)]) hx hb d_CharacterList_shownIn_1 rfl hl (Nat.le_of_ble_eq_true rfl) rfl (fun ls hl => ?_)
  refine lv_iconst (v := (0 : Int32)) hx hb d_CharacterList_shownIn_2 (by decide) ?_
  refine lv_istore (lv' := [(5, .int (0 : Int32)), (3, .long (0 : Int64)), (0, .ref (ad 10)), (1, .long a1)]) hx hb d_CharacterList_shownIn_3 hl (Nat.le_of_ble_eq_true rfl) rfl (fun ls hl => ?_)
  exact hl5 xFU a1 (0 : Int64) (0 : Int32) _ _ _ (lv_sub hl [2, 3, 1, 0] rfl) hP hS hm
set_option maxHeartbeats 4000000 in
set_option maxRecDepth 100000 in
theorem c_Long_bitCount (l : Launch) (a0 : Int64) (out : Int32) (hm : m_Long_bitCount a0 = some out) : Met l y_Long_bitCount (Cond.code y_Long_bitCount b_Long_bitCount 2 (some .int) :: xG) (xrm 0 0) (va_Pc [.long a0] (fun _ => True)) (va_Qi (fun r9 (_ : Unit) => r9 = out) (fun _ _ => True) xN) 0 0 xN := by
  refine xm_pui (cc := b_Long_bitCount) (maxL := 2) (by decide) rfl (Nat.le_of_ble_eq_true rfl) ?_
  intro p e s m args below meth c Q ls hx hb hml hts hown hl hret
  have hT : ∀ w ∈ xG, w.before args s = true := fun w h => hts w (List.mem_cons_of_mem _ h)
  have hown : s.vm.findClass "java/lang/Long" = some m.cls := hown
  have hl : lv_has ls 2 [(0, .long a0)] := hl
  have hS : va_S xN s.heap s.heap [] := va_S.rf
  unfold m_Long_bitCount at hm
  refine lv_lload_n hx hb d_Long_bitCount_0 rfl (lv_at hl 0 rfl) ?_
  refine lv_lload_n hx hb d_Long_bitCount_1 rfl (lv_at hl 0 rfl) ?_
  refine lv_iconst (v := (1 : Int32)) hx hb d_Long_bitCount_2 (by decide) ?_
  refine lv_lushr (v := (xUshr a0 (1 : Int32))) hx hb d_Long_bitCount_3 rfl ?_
  refine lv_ldc2 (v := (6148914691236517205 : Int64)) hx hb hown (hT _ wd_226) d_Long_bitCount_4 ?_
  refine lv_land hx hb d_Long_bitCount_7 ?_
  refine lv_lsub hx hb d_Long_bitCount_8 ?_
  refine lv_lstore_n (lv' := [(0, .long (a0 - ((xUshr a0 (1 : Int32)) &&& (6148914691236517205 : Int64))))]) hx hb d_Long_bitCount_9 rfl hl (Nat.le_of_ble_eq_true rfl) rfl (fun ls hl => ?_)
  refine lv_lload_n hx hb d_Long_bitCount_10 rfl (lv_at hl 0 rfl) ?_
  refine lv_ldc2 (v := (3689348814741910323 : Int64)) hx hb hown (hT _ wd_227) d_Long_bitCount_11 ?_
  refine lv_land hx hb d_Long_bitCount_14 ?_
  refine lv_lload_n hx hb d_Long_bitCount_15 rfl (lv_at hl 0 rfl) ?_
  refine lv_iconst (v := (2 : Int32)) hx hb d_Long_bitCount_16 (by decide) ?_
  refine lv_lushr (v := (xUshr (a0 - ((xUshr a0 (1 : Int32)) &&& (6148914691236517205 : Int64))) (2 : Int32))) hx hb d_Long_bitCount_17 rfl ?_
  refine lv_ldc2 (v := (3689348814741910323 : Int64)) hx hb hown (hT _ wd_227) d_Long_bitCount_18 ?_
  refine lv_land hx hb d_Long_bitCount_21 ?_
  refine lv_ladd hx hb d_Long_bitCount_22 ?_
  refine lv_lstore_n (lv' := [(0, .long (((a0 - ((xUshr a0 (1 : Int32)) &&& (6148914691236517205 : Int64))) &&& (3689348814741910323 : Int64)) + ((xUshr (a0 - ((xUshr a0 (1 : Int32)) &&& (6148914691236517205 : Int64))) (2 : Int32)) &&& (3689348814741910323 : Int64))))]) hx hb d_Long_bitCount_23 rfl hl (Nat.le_of_ble_eq_true rfl) rfl (fun ls hl => ?_)
  refine lv_lload_n hx hb d_Long_bitCount_24 rfl (lv_at hl 0 rfl) ?_
  refine lv_lload_n hx hb d_Long_bitCount_25 rfl (lv_at hl 0 rfl) ?_
  refine lv_iconst (v := (4 : Int32)) hx hb d_Long_bitCount_26 (by decide) ?_
  refine lv_lushr (v := (xUshr (((a0 - ((xUshr a0 (1 : Int32)) &&& (6148914691236517205 : Int64))) &&& (3689348814741910323 : Int64)) + ((xUshr (a0 - ((xUshr a0 (1 : Int32)) &&& (6148914691236517205 : Int64))) (2 : Int32)) &&& (3689348814741910323 : Int64))) (4 : Int32))) hx hb d_Long_bitCount_27 rfl ?_
  refine lv_ladd hx hb d_Long_bitCount_28 ?_
  refine lv_ldc2 (v := (1085102592571150095 : Int64)) hx hb hown (hT _ wd_228) d_Long_bitCount_29 ?_
  refine lv_land hx hb d_Long_bitCount_32 ?_
  refine lv_lstore_n (lv' := [(0, .long (((((a0 - ((xUshr a0 (1 : Int32)) &&& (6148914691236517205 : Int64))) &&& (3689348814741910323 : Int64)) + ((xUshr (a0 - ((xUshr a0 (1 : Int32)) &&& (6148914691236517205 : Int64))) (2 : Int32)) &&& (3689348814741910323 : Int64))) + (xUshr (((a0 - ((xUshr a0 (1 : Int32)) &&& (6148914691236517205 : Int64))) &&& (3689348814741910323 : Int64)) + ((xUshr (a0 - ((xUshr a0 (1 : Int32)) &&& (6148914691236517205 : Int64))) (2 : Int32)) &&& (3689348814741910323 : Int64))) (4 : Int32))) &&& (1085102592571150095 : Int64)))]) hx hb d_Long_bitCount_33 rfl hl (Nat.le_of_ble_eq_true rfl) rfl (fun ls hl => ?_)
  refine lv_lload_n hx hb d_Long_bitCount_34 rfl (lv_at hl 0 rfl) ?_
  refine lv_lload_n hx hb d_Long_bitCount_35 rfl (lv_at hl 0 rfl) ?_
  refine lv_bipush (v := (8 : Int32)) hx hb d_Long_bitCount_36 (by decide) ?_
  refine lv_lushr (v := (xUshr (((((a0 - ((xUshr a0 (1 : Int32)) &&& (6148914691236517205 : Int64))) &&& (3689348814741910323 : Int64)) + ((xUshr (a0 - ((xUshr a0 (1 : Int32)) &&& (6148914691236517205 : Int64))) (2 : Int32)) &&& (3689348814741910323 : Int64))) + (xUshr (((a0 - ((xUshr a0 (1 : Int32)) &&& (6148914691236517205 : Int64))) &&& (3689348814741910323 : Int64)) + ((xUshr (a0 - ((xUshr a0 (1 : Int32)) &&& (6148914691236517205 : Int64))) (2 : Int32)) &&& (3689348814741910323 : Int64))) (4 : Int32))) &&& (1085102592571150095 : Int64)) (8 : Int32))) hx hb d_Long_bitCount_38 rfl ?_
  refine lv_ladd hx hb d_Long_bitCount_39 ?_
  refine lv_lstore_n (lv' := [(0, .long ((((((a0 - ((xUshr a0 (1 : Int32)) &&& (6148914691236517205 : Int64))) &&& (3689348814741910323 : Int64)) + ((xUshr (a0 - ((xUshr a0 (1 : Int32)) &&& (6148914691236517205 : Int64))) (2 : Int32)) &&& (3689348814741910323 : Int64))) + (xUshr (((a0 - ((xUshr a0 (1 : Int32)) &&& (6148914691236517205 : Int64))) &&& (3689348814741910323 : Int64)) + ((xUshr (a0 - ((xUshr a0 (1 : Int32)) &&& (6148914691236517205 : Int64))) (2 : Int32)) &&& (3689348814741910323 : Int64))) (4 : Int32))) &&& (1085102592571150095 : Int64)) + (xUshr (((((a0 - ((xUshr a0 (1 : Int32)) &&& (6148914691236517205 : Int64))) &&& (3689348814741910323 : Int64)) + ((xUshr (a0 - ((xUshr a0 (1 : Int32)) &&& (6148914691236517205 : Int64))) (2 : Int32)) &&& (3689348814741910323 : Int64))) + (xUshr (((a0 - ((xUshr a0 (1 : Int32)) &&& (6148914691236517205 : Int64))) &&& (3689348814741910323 : Int64)) + ((xUshr (a0 - ((xUshr a0 (1 : Int32)) &&& (6148914691236517205 : Int64))) (2 : Int32)) &&& (3689348814741910323 : Int64))) (4 : Int32))) &&& (1085102592571150095 : Int64)) (8 : Int32))))]) hx hb d_Long_bitCount_40 rfl hl (Nat.le_of_ble_eq_true rfl) rfl (fun ls hl => ?_)
  refine lv_lload_n hx hb d_Long_bitCount_41 rfl (lv_at hl 0 rfl) ?_
  refine lv_lload_n hx hb d_Long_bitCount_42 rfl (lv_at hl 0 rfl) ?_
  refine lv_bipush (v := (16 : Int32)) hx hb d_Long_bitCount_43 (by decide) ?_
  refine lv_lushr (v := (xUshr ((((((a0 - ((xUshr a0 (1 : Int32)) &&& (6148914691236517205 : Int64))) &&& (3689348814741910323 : Int64)) + ((xUshr (a0 - ((xUshr a0 (1 : Int32)) &&& (6148914691236517205 : Int64))) (2 : Int32)) &&& (3689348814741910323 : Int64))) + (xUshr (((a0 - ((xUshr a0 (1 : Int32)) &&& (6148914691236517205 : Int64))) &&& (3689348814741910323 : Int64)) + ((xUshr (a0 - ((xUshr a0 (1 : Int32)) &&& (6148914691236517205 : Int64))) (2 : Int32)) &&& (3689348814741910323 : Int64))) (4 : Int32))) &&& (1085102592571150095 : Int64)) + (xUshr (((((a0 - ((xUshr a0 (1 : Int32)) &&& (6148914691236517205 : Int64))) &&& (3689348814741910323 : Int64)) + ((xUshr (a0 - ((xUshr a0 (1 : Int32)) &&& (6148914691236517205 : Int64))) (2 : Int32)) &&& (3689348814741910323 : Int64))) + (xUshr (((a0 - ((xUshr a0 (1 : Int32)) &&& (6148914691236517205 : Int64))) &&& (3689348814741910323 : Int64)) + ((xUshr (a0 - ((xUshr a0 (1 : Int32)) &&& (6148914691236517205 : Int64))) (2 : Int32)) &&& (3689348814741910323 : Int64))) (4 : Int32))) &&& (1085102592571150095 : Int64)) (8 : Int32))) (16 : Int32))) hx hb d_Long_bitCount_45 rfl ?_
  refine lv_ladd hx hb d_Long_bitCount_46 ?_
  refine lv_lstore_n (lv' := [(0, .long (((((((a0 - ((xUshr a0 (1 : Int32)) &&& (6148914691236517205 : Int64))) &&& (3689348814741910323 : Int64)) + ((xUshr (a0 - ((xUshr a0 (1 : Int32)) &&& (6148914691236517205 : Int64))) (2 : Int32)) &&& (3689348814741910323 : Int64))) + (xUshr (((a0 - ((xUshr a0 (1 : Int32)) &&& (6148914691236517205 : Int64))) &&& (3689348814741910323 : Int64)) + ((xUshr (a0 - ((xUshr a0 (1 : Int32)) &&& (6148914691236517205 : Int64))) (2 : Int32)) &&& (3689348814741910323 : Int64))) (4 : Int32))) &&& (1085102592571150095 : Int64)) + (xUshr (((((a0 - ((xUshr a0 (1 : Int32)) &&& (6148914691236517205 : Int64))) &&& (3689348814741910323 : Int64)) + ((xUshr (a0 - ((xUshr a0 (1 : Int32)) &&& (6148914691236517205 : Int64))) (2 : Int32)) &&& (3689348814741910323 : Int64))) + (xUshr (((a0 - ((xUshr a0 (1 : Int32)) &&& (6148914691236517205 : Int64))) &&& (3689348814741910323 : Int64)) + ((xUshr (a0 - ((xUshr a0 (1 : Int32)) &&& (6148914691236517205 : Int64))) (2 : Int32)) &&& (3689348814741910323 : Int64))) (4 : Int32))) &&& (1085102592571150095 : Int64)) (8 : Int32))) + (xUshr ((((((a0 - ((xUshr a0 (1 : Int32)) &&& (6148914691236517205 : Int64))) &&& (3689348814741910323 : Int64)) + ((xUshr (a0 - ((xUshr a0 (1 : Int32)) &&& (6148914691236517205 : Int64))) (2 : Int32)) &&& (3689348814741910323 : Int64))) + (xUshr (((a0 - ((xUshr a0 (1 : Int32)) &&& (6148914691236517205 : Int64))) &&& (3689348814741910323 : Int64)) + ((xUshr (a0 - ((xUshr a0 (1 : Int32)) &&& (6148914691236517205 : Int64))) (2 : Int32)) &&& (3689348814741910323 : Int64))) (4 : Int32))) &&& (1085102592571150095 : Int64)) + (xUshr (((((a0 - ((xUshr a0 (1 : Int32)) &&& (6148914691236517205 : Int64))) &&& (3689348814741910323 : Int64)) + ((xUshr (a0 - ((xUshr a0 (1 : Int32)) &&& (6148914691236517205 : Int64))) (2 : Int32)) &&& (3689348814741910323 : Int64))) + (xUshr (((a0 - ((xUshr a0 (1 : Int32)) &&& (6148914691236517205 : Int64))) &&& (3689348814741910323 : Int64)) + ((xUshr (a0 - ((xUshr a0 (1 : Int32)) &&& (6148914691236517205 : Int64))) (2 : Int32)) &&& (3689348814741910323 : Int64))) (4 : Int32))) &&& (1085102592571150095 : Int64)) (8 : Int32))) (16 : Int32))))]) hx hb d_Long_bitCount_47 rfl hl (Nat.le_of_ble_eq_true rfl) rfl (fun ls hl => ?_)
  refine lv_lload_n hx hb d_Long_bitCount_48 rfl (lv_at hl 0 rfl) ?_
  refine lv_lload_n hx hb d_Long_bitCount_49 rfl (lv_at hl 0 rfl) ?_
  refine lv_bipush (v := (32 : Int32)) hx hb d_Long_bitCount_50 (by decide) ?_
  refine lv_lushr (v := (xUshr (((((((a0 - ((xUshr a0 (1 : Int32)) &&& (6148914691236517205 : Int64))) &&& (3689348814741910323 : Int64)) + ((xUshr (a0 - ((xUshr a0 (1 : Int32)) &&& (6148914691236517205 : Int64))) (2 : Int32)) &&& (3689348814741910323 : Int64))) + (xUshr (((a0 - ((xUshr a0 (1 : Int32)) &&& (6148914691236517205 : Int64))) &&& (3689348814741910323 : Int64)) + ((xUshr (a0 - ((xUshr a0 (1 : Int32)) &&& (6148914691236517205 : Int64))) (2 : Int32)) &&& (3689348814741910323 : Int64))) (4 : Int32))) &&& (1085102592571150095 : Int64)) + (xUshr (((((a0 - ((xUshr a0 (1 : Int32)) &&& (6148914691236517205 : Int64))) &&& (3689348814741910323 : Int64)) + ((xUshr (a0 - ((xUshr a0 (1 : Int32)) &&& (6148914691236517205 : Int64))) (2 : Int32)) &&& (3689348814741910323 : Int64))) + (xUshr (((a0 - ((xUshr a0 (1 : Int32)) &&& (6148914691236517205 : Int64))) &&& (3689348814741910323 : Int64)) + ((xUshr (a0 - ((xUshr a0 (1 : Int32)) &&& (6148914691236517205 : Int64))) (2 : Int32)) &&& (3689348814741910323 : Int64))) (4 : Int32))) &&& (1085102592571150095 : Int64)) (8 : Int32))) + (xUshr ((((((a0 - ((xUshr a0 (1 : Int32)) &&& (6148914691236517205 : Int64))) &&& (3689348814741910323 : Int64)) + ((xUshr (a0 - ((xUshr a0 (1 : Int32)) &&& (6148914691236517205 : Int64))) (2 : Int32)) &&& (3689348814741910323 : Int64))) + (xUshr (((a0 - ((xUshr a0 (1 : Int32)) &&& (6148914691236517205 : Int64))) &&& (3689348814741910323 : Int64)) + ((xUshr (a0 - ((xUshr a0 (1 : Int32)) &&& (6148914691236517205 : Int64))) (2 : Int32)) &&& (3689348814741910323 : Int64))) (4 : Int32))) &&& (1085102592571150095 : Int64)) + (xUshr (((((a0 - ((xUshr a0 (1 : Int32)) &&& (6148914691236517205 : Int64))) &&& (3689348814741910323 : Int64)) + ((xUshr (a0 - ((xUshr a0 (1 : Int32)) &&& (6148914691236517205 : Int64))) (2 : Int32)) &&& (3689348814741910323 : Int64))) + (xUshr (((a0 - ((xUshr a0 (1 : Int32)) &&& (6148914691236517205 : Int64))) &&& (3689348814741910323 : Int64)) + ((xUshr (a0 - ((xUshr a0 (1 : Int32)) &&& (6148914691236517205 : Int64))) (2 : Int32)) &&& (3689348814741910323 : Int64))) (4 : Int32))) &&& (1085102592571150095 : Int64)) (8 : Int32))) (16 : Int32))) (32 : Int32))) hx hb d_Long_bitCount_52 rfl ?_
  refine lv_ladd hx hb d_Long_bitCount_53 ?_
  refine lv_lstore_n (lv' := [(0, .long ((((((((a0 - ((xUshr a0 (1 : Int32)) &&& (6148914691236517205 : Int64))) &&& (3689348814741910323 : Int64)) + ((xUshr (a0 - ((xUshr a0 (1 : Int32)) &&& (6148914691236517205 : Int64))) (2 : Int32)) &&& (3689348814741910323 : Int64))) + (xUshr (((a0 - ((xUshr a0 (1 : Int32)) &&& (6148914691236517205 : Int64))) &&& (3689348814741910323 : Int64)) + ((xUshr (a0 - ((xUshr a0 (1 : Int32)) &&& (6148914691236517205 : Int64))) (2 : Int32)) &&& (3689348814741910323 : Int64))) (4 : Int32))) &&& (1085102592571150095 : Int64)) + (xUshr (((((a0 - ((xUshr a0 (1 : Int32)) &&& (6148914691236517205 : Int64))) &&& (3689348814741910323 : Int64)) + ((xUshr (a0 - ((xUshr a0 (1 : Int32)) &&& (6148914691236517205 : Int64))) (2 : Int32)) &&& (3689348814741910323 : Int64))) + (xUshr (((a0 - ((xUshr a0 (1 : Int32)) &&& (6148914691236517205 : Int64))) &&& (3689348814741910323 : Int64)) + ((xUshr (a0 - ((xUshr a0 (1 : Int32)) &&& (6148914691236517205 : Int64))) (2 : Int32)) &&& (3689348814741910323 : Int64))) (4 : Int32))) &&& (1085102592571150095 : Int64)) (8 : Int32))) + (xUshr ((((((a0 - ((xUshr a0 (1 : Int32)) &&& (6148914691236517205 : Int64))) &&& (3689348814741910323 : Int64)) + ((xUshr (a0 - ((xUshr a0 (1 : Int32)) &&& (6148914691236517205 : Int64))) (2 : Int32)) &&& (3689348814741910323 : Int64))) + (xUshr (((a0 - ((xUshr a0 (1 : Int32)) &&& (6148914691236517205 : Int64))) &&& (3689348814741910323 : Int64)) + ((xUshr (a0 - ((xUshr a0 (1 : Int32)) &&& (6148914691236517205 : Int64))) (2 : Int32)) &&& (3689348814741910323 : Int64))) (4 : Int32))) &&& (1085102592571150095 : Int64)) + (xUshr (((((a0 - ((xUshr a0 (1 : Int32)) &&& (6148914691236517205 : Int64))) &&& (3689348814741910323 : Int64)) + ((xUshr (a0 - ((xUshr a0 (1 : Int32)) &&& (6148914691236517205 : Int64))) (2 : Int32)) &&& (3689348814741910323 : Int64))) + (xUshr (((a0 - ((xUshr a0 (1 : Int32)) &&& (6148914691236517205 : Int64))) &&& (3689348814741910323 : Int64)) + ((xUshr (a0 - ((xUshr a0 (1 : Int32)) &&& (6148914691236517205 : Int64))) (2 : Int32)) &&& (3689348814741910323 : Int64))) (4 : Int32))) &&& (1085102592571150095 : Int64)) (8 : Int32))) (16 : Int32))) + (xUshr (((((((a0 - ((xUshr a0 (1 : Int32)) &&& (6148914691236517205 : Int64))) &&& (3689348814741910323 : Int64)) + ((xUshr (a0 - ((xUshr a0 (1 : Int32)) &&& (6148914691236517205 : Int64))) (2 : Int32)) &&& (3689348814741910323 : Int64))) + (xUshr (((a0 - ((xUshr a0 (1 : Int32)) &&& (6148914691236517205 : Int64))) &&& (3689348814741910323 : Int64)) + ((xUshr (a0 - ((xUshr a0 (1 : Int32)) &&& (6148914691236517205 : Int64))) (2 : Int32)) &&& (3689348814741910323 : Int64))) (4 : Int32))) &&& (1085102592571150095 : Int64)) + (xUshr (((((a0 - ((xUshr a0 (1 : Int32)) &&& (6148914691236517205 : Int64))) &&& (3689348814741910323 : Int64)) + ((xUshr (a0 - ((xUshr a0 (1 : Int32)) &&& (6148914691236517205 : Int64))) (2 : Int32)) &&& (3689348814741910323 : Int64))) + (xUshr (((a0 - ((xUshr a0 (1 : Int32)) &&& (6148914691236517205 : Int64))) &&& (3689348814741910323 : Int64)) + ((xUshr (a0 - ((xUshr a0 (1 : Int32)) &&& (6148914691236517205 : Int64))) (2 : Int32)) &&& (3689348814741910323 : Int64))) (4 : Int32))) &&& (1085102592571150095 : Int64)) (8 : Int32))) + (xUshr ((((((a0 - ((xUshr a0 (1 : Int32)) &&& (6148914691236517205 : Int64))) &&& (3689348814741910323 : Int64)) + ((xUshr (a0 - ((xUshr a0 (1 : Int32)) &&& (6148914691236517205 : Int64))) (2 : Int32)) &&& (3689348814741910323 : Int64))) + (xUshr (((a0 - ((xUshr a0 (1 : Int32)) &&& (6148914691236517205 : Int64))) &&& (3689348814741910323 : Int64)) + ((xUshr (a0 - ((xUshr a0 (1 : Int32)) &&& (6148914691236517205 : Int64))) (2 : Int32)) &&& (3689348814741910323 : Int64))) (4 : Int32))) &&& (1085102592571150095 : Int64)) + (xUshr (((((a0 - ((xUshr a0 (1 : Int32)) &&& (6148914691236517205 : Int64))) &&& (3689348814741910323 : Int64)) + ((xUshr (a0 - ((xUshr a0 (1 : Int32)) &&& (6148914691236517205 : Int64))) (2 : Int32)) &&& (3689348814741910323 : Int64))) + (xUshr (((a0 - ((xUshr a0 (1 : Int32)) &&& (6148914691236517205 : Int64))) &&& (3689348814741910323 : Int64)) + ((xUshr (a0 - ((xUshr a0 (1 : Int32)) &&& (6148914691236517205 : Int64))) (2 : Int32)) &&& (3689348814741910323 : Int64))) (4 : Int32))) &&& (1085102592571150095 : Int64)) (8 : Int32))) (16 : Int32))) (32 : Int32))))]) hx hb d_Long_bitCount_54 rfl hl (Nat.le_of_ble_eq_true rfl) rfl (fun ls hl => ?_)
  refine lv_lload_n hx hb d_Long_bitCount_55 rfl (lv_at hl 0 rfl) ?_
  refine lv_l2i (v := ((((((((((a0 - ((xUshr a0 (1 : Int32)) &&& (6148914691236517205 : Int64))) &&& (3689348814741910323 : Int64)) + ((xUshr (a0 - ((xUshr a0 (1 : Int32)) &&& (6148914691236517205 : Int64))) (2 : Int32)) &&& (3689348814741910323 : Int64))) + (xUshr (((a0 - ((xUshr a0 (1 : Int32)) &&& (6148914691236517205 : Int64))) &&& (3689348814741910323 : Int64)) + ((xUshr (a0 - ((xUshr a0 (1 : Int32)) &&& (6148914691236517205 : Int64))) (2 : Int32)) &&& (3689348814741910323 : Int64))) (4 : Int32))) &&& (1085102592571150095 : Int64)) + (xUshr (((((a0 - ((xUshr a0 (1 : Int32)) &&& (6148914691236517205 : Int64))) &&& (3689348814741910323 : Int64)) + ((xUshr (a0 - ((xUshr a0 (1 : Int32)) &&& (6148914691236517205 : Int64))) (2 : Int32)) &&& (3689348814741910323 : Int64))) + (xUshr (((a0 - ((xUshr a0 (1 : Int32)) &&& (6148914691236517205 : Int64))) &&& (3689348814741910323 : Int64)) + ((xUshr (a0 - ((xUshr a0 (1 : Int32)) &&& (6148914691236517205 : Int64))) (2 : Int32)) &&& (3689348814741910323 : Int64))) (4 : Int32))) &&& (1085102592571150095 : Int64)) (8 : Int32))) + (xUshr ((((((a0 - ((xUshr a0 (1 : Int32)) &&& (6148914691236517205 : Int64))) &&& (3689348814741910323 : Int64)) + ((xUshr (a0 - ((xUshr a0 (1 : Int32)) &&& (6148914691236517205 : Int64))) (2 : Int32)) &&& (3689348814741910323 : Int64))) + (xUshr (((a0 - ((xUshr a0 (1 : Int32)) &&& (6148914691236517205 : Int64))) &&& (3689348814741910323 : Int64)) + ((xUshr (a0 - ((xUshr a0 (1 : Int32)) &&& (6148914691236517205 : Int64))) (2 : Int32)) &&& (3689348814741910323 : Int64))) (4 : Int32))) &&& (1085102592571150095 : Int64)) + (xUshr (((((a0 - ((xUshr a0 (1 : Int32)) &&& (6148914691236517205 : Int64))) &&& (3689348814741910323 : Int64)) + ((xUshr (a0 - ((xUshr a0 (1 : Int32)) &&& (6148914691236517205 : Int64))) (2 : Int32)) &&& (3689348814741910323 : Int64))) + (xUshr (((a0 - ((xUshr a0 (1 : Int32)) &&& (6148914691236517205 : Int64))) &&& (3689348814741910323 : Int64)) + ((xUshr (a0 - ((xUshr a0 (1 : Int32)) &&& (6148914691236517205 : Int64))) (2 : Int32)) &&& (3689348814741910323 : Int64))) (4 : Int32))) &&& (1085102592571150095 : Int64)) (8 : Int32))) (16 : Int32))) + (xUshr (((((((a0 - ((xUshr a0 (1 : Int32)) &&& (6148914691236517205 : Int64))) &&& (3689348814741910323 : Int64)) + ((xUshr (a0 - ((xUshr a0 (1 : Int32)) &&& (6148914691236517205 : Int64))) (2 : Int32)) &&& (3689348814741910323 : Int64))) + (xUshr (((a0 - ((xUshr a0 (1 : Int32)) &&& (6148914691236517205 : Int64))) &&& (3689348814741910323 : Int64)) + ((xUshr (a0 - ((xUshr a0 (1 : Int32)) &&& (6148914691236517205 : Int64))) (2 : Int32)) &&& (3689348814741910323 : Int64))) (4 : Int32))) &&& (1085102592571150095 : Int64)) + (xUshr (((((a0 - ((xUshr a0 (1 : Int32)) &&& (6148914691236517205 : Int64))) &&& (3689348814741910323 : Int64)) + ((xUshr (a0 - ((xUshr a0 (1 : Int32)) &&& (6148914691236517205 : Int64))) (2 : Int32)) &&& (3689348814741910323 : Int64))) + (xUshr (((a0 - ((xUshr a0 (1 : Int32)) &&& (6148914691236517205 : Int64))) &&& (3689348814741910323 : Int64)) + ((xUshr (a0 - ((xUshr a0 (1 : Int32)) &&& (6148914691236517205 : Int64))) (2 : Int32)) &&& (3689348814741910323 : Int64))) (4 : Int32))) &&& (1085102592571150095 : Int64)) (8 : Int32))) + (xUshr ((((((a0 - ((xUshr a0 (1 : Int32)) &&& (6148914691236517205 : Int64))) &&& (3689348814741910323 : Int64)) + ((xUshr (a0 - ((xUshr a0 (1 : Int32)) &&& (6148914691236517205 : Int64))) (2 : Int32)) &&& (3689348814741910323 : Int64))) + (xUshr (((a0 - ((xUshr a0 (1 : Int32)) &&& (6148914691236517205 : Int64))) &&& (3689348814741910323 : Int64)) + ((xUshr (a0 - ((xUshr a0 (1 : Int32)) &&& (6148914691236517205 : Int64))) (2 : Int32)) &&& (3689348814741910323 : Int64))) (4 : Int32))) &&& (1085102592571150095 : Int64)) + (xUshr (((((a0 - ((xUshr a0 (1 : Int32)) &&& (6148914691236517205 : Int64))) &&& (3689348814741910323 : Int64)) + ((xUshr (a0 - ((xUshr a0 (1 : Int32)) &&& (6148914691236517205 : Int64))) (2 : Int32)) &&& (3689348814741910323 : Int64))) + (xUshr (((a0 - ((xUshr a0 (1 : Int32)) &&& (6148914691236517205 : Int64))) &&& (3689348814741910323 : Int64)) + ((xUshr (a0 - ((xUshr a0 (1 : Int32)) &&& (6148914691236517205 : Int64))) (2 : Int32)) &&& (3689348814741910323 : Int64))) (4 : Int32))) &&& (1085102592571150095 : Int64)) (8 : Int32))) (16 : Int32))) (32 : Int32)))).toInt32)) hx hb d_Long_bitCount_56 rfl ?_
  refine lv_bipush (v := (127 : Int32)) hx hb d_Long_bitCount_57 (by decide) ?_
  refine lv_iand hx hb d_Long_bitCount_59 ?_
  exact hret hm hS d_Long_bitCount_60
set_option maxHeartbeats 4000000 in
set_option maxRecDepth 100000 in
theorem c_CharacterList_shownAt (l : Launch) (dC : Nat → ClassId) (dI : Nat → Nat → Nat) (dT : Nat → ClassId) (ad : Nat → Nat) (a1 : Int64) (a3 : Int32) (u : xS) (out : Int32) (hm : m_CharacterList_shownAt a1 a3 u = some out) : Met l y_CharacterList_shownAt (Cond.code y_CharacterList_shownAt b_CharacterList_shownAt 6 (some .int) :: xG) (xrm 2 42) (va_Pc [.ref (ad 10), .long a1, .int a3] (xR (dC, dI) xCl (xT dT) (cW dT ad u))) (va_Qi (fun r9 (_ : Unit) => r9 = out) (fun _ _ => True) xN) 0 0 xN := by
  refine xm_roi (cc := b_CharacterList_shownAt) (maxL := 6) (by decide) rfl (Nat.le_of_ble_eq_true rfl) ?_
  intro p e s m args below meth c Q ls hx hb hml hts hown hK hN hP hl hret
  have hT : ∀ w ∈ xG, w.before args s = true := fun w h => hts w (List.mem_cons_of_mem _ h)
  have hown : s.vm.findClass "EventGraphText$CharacterList" = some m.cls := hown
  have hl : lv_has ls 6 [(0, .ref (ad 10)), (1, .long a1), (3, .int a3)] := hl
  have hS : va_S xN s.heap s.heap [] := va_S.rf
  have hs6 : ∀ (k6 : Int64 → Int32 → Int32 → Int32 → xS → Option Int32) (hk6 : ∀ (b1 : Int64) (b3 : Int32) (b4 : Int32) (b5 : Int32) (H : Heap) (locs : List Loc) (ls : Array Slot), lv_has ls 6 [(0, .ref (ad 10)), (1, .long b1), (3, .int b3), (4, .int b4), (5, .int b5)] → va_P (dC, dI) xCl (cW dT ad u) H → va_S xN s.heap H locs → k6 b1 b3 b4 b5 u = some out → W p l e (xrm 2 42) s m args below meth c H locs 0 0 Q (F0 m 6 ls [])), ∀ (b1 : Int64) (b3 : Int32) (b4 : Int32) (b5 : Int32) (H : Heap) (locs : List Loc) (ls : Array Slot), lv_has ls 6 [(0, .ref (ad 10)), (1, .long b1), (3, .int b3), (4, .int b4), (5, .int b5)] → va_P (dC, dI) xCl (cW dT ad u) H → va_S xN s.heap H locs → m_CharacterList_shownAt_s6 k6 b1 b3 b4 b5 u = some out → W p l e (xrm 2 42) s m args below meth c H locs 0 0 Q (F0 m 6 ls []) := by
    intro k6 hk6 b1 b3 b4 b5 H locs ls hl hP hS hm
    unfold m_CharacterList_shownAt_s6 at hm
    refine lv_iload hx hb d_CharacterList_shownAt_6 (lv_at hl 4 rfl) ?_
    refine lv_aload_n hx hb d_CharacterList_shownAt_8 rfl (lv_at hl 0 rfl) ?_
    refine va_get (D := (dC, dI)) (ci := 0) (v := .int (xs_i u 1)) (C := "EventGraphText$CharacterList") (T := T_CharacterList) (N := 8) hx hb hT hin_CharacterList hown hK hP 10 cW_L rfl 7 (by decide) (hT _ wd_68) (fun _ h9 => h9) rfl d_CharacterList_shownAt_9 ?_
    refine lv_icmp_ge (tgt := 52) hx hb d_CharacterList_shownAt_12 rfl (fun h => ?_) (fun h => ?_)
    · replace hm := xi_pos h hm
      refine lv_iconst (v := (-1 : Int32)) hx hb d_CharacterList_shownAt_52 (by decide) ?_
      exact hret hm hS d_CharacterList_shownAt_53
    · replace hm := xi_neg h hm
      refine lv_lload_n hx hb d_CharacterList_shownAt_15 rfl (lv_at hl 1 rfl) ?_
      refine lv_aload_n hx hb d_CharacterList_shownAt_16 rfl (lv_at hl 0 rfl) ?_
      refine va_get (D := (dC, dI)) (ci := 0) (v := .ref (ad 11)) (C := "EventGraphText$CharacterList") (T := T_CharacterList) (N := 8) hx hb hT hin_CharacterList hown hK hP 10 cW_L rfl 0 (by decide) (hT _ wd_61) (fun _ h9 => h9) rfl d_CharacterList_shownAt_17 ?_
      refine lv_iload hx hb d_CharacterList_shownAt_20 (lv_at hl 4 rfl) ?_
      obtain ⟨g1, hm⟩ := xg_some hm
      refine va_iald hx hb hK hP 11 0 cW_L_order rfl g1 d_CharacterList_shownAt_22 ?_
      obtain ⟨r23, h23, hm⟩ := xb1_some hm
      refine xc_i (va_runSN (As := [.long b1, .int (xs_I u 6 b5.toNatClampNeg)]) (rest := []) ⟨hx, hb, hml, hown, hts⟩ (c_Text_has l b1 (xs_I u 6 b5.toNatClampNeg) r23 h23) ⟨va_cnB 2 hts (xg0 wd_217) rfl rfl rfl (nmm_7 hN) (hT _ wd_1) pd_Text_has.2 ⟨Nat.le_of_ble_eq_true rfl, Nat.le_of_ble_eq_true rfl⟩, hT _ wd_216, trivial⟩ xpreS0 rfl rfl hl.1 rfl (lv_room (Nat.le_of_ble_eq_true rfl)) d_CharacterList_shownAt_23 ⟨Nat.le_of_ble_eq_true rfl, Nat.le_of_ble_eq_true rfl⟩) hP hS (fun H locs hP hS => ?_)
      refine lv_if_eq (tgt := 46) hx hb d_CharacterList_shownAt_26 rfl (fun h => ?_) (fun h => ?_)
      · replace hm := xi_pos h hm
        refine lv_iinc (k := 4) (v := (b5 + (1 : Int32))) (lv' := [(5, .int (b5 + (1 : Int32))), (0, .ref (ad 10)), (1, .long b1), (3, .int b3), (4, .int b4)]) hx hb d_CharacterList_shownAt_46 hl rfl rfl (Nat.le_of_ble_eq_true rfl) rfl (fun ls hl => ?_)
        refine lv_goto (tgt := 6) hx hb d_CharacterList_shownAt_49 rfl ?_
        exact hk6 b1 b3 b4 (b5 + (1 : Int32)) _ _ _ (lv_sub hl [1, 2, 3, 4, 0] rfl) hP hS hm
      · replace hm := xi_neg h hm
        refine lv_iload hx hb d_CharacterList_shownAt_29 (lv_at hl 3 rfl) ?_
        refine lv_iload_n hx hb d_CharacterList_shownAt_31 rfl (lv_at hl 2 rfl) ?_
        refine lv_icmp_ne (tgt := 43) hx hb d_CharacterList_shownAt_32 rfl (fun h => ?_) (fun h => ?_)
        · replace hm := xi_neg h hm
          refine lv_iinc (k := 3) (v := (b4 + (1 : Int32))) (lv' := [(4, .int (b4 + (1 : Int32))), (0, .ref (ad 10)), (1, .long b1), (3, .int b3), (5, .int b5)]) hx hb d_CharacterList_shownAt_43 hl rfl rfl (Nat.le_of_ble_eq_true rfl) rfl (fun ls hl => ?_)
          refine lv_iinc (k := 4) (v := (b5 + (1 : Int32))) (lv' := [(5, .int (b5 + (1 : Int32))), (4, .int (b4 + (1 : Int32))), (0, .ref (ad 10)), (1, .long b1), (3, .int b3)]) hx hb d_CharacterList_shownAt_46 hl rfl rfl (Nat.le_of_ble_eq_true rfl) rfl (fun ls hl => ?_)
          refine lv_goto (tgt := 6) hx hb d_CharacterList_shownAt_49 rfl ?_
          exact hk6 b1 b3 (b4 + (1 : Int32)) (b5 + (1 : Int32)) _ _ _ (lv_sub hl [2, 3, 4, 1, 0] rfl) hP hS hm
        · replace hm := xi_pos h hm
          refine lv_aload_n hx hb d_CharacterList_shownAt_35 rfl (lv_at hl 0 rfl) ?_
          refine va_get (D := (dC, dI)) (ci := 0) (v := .ref (ad 11)) (C := "EventGraphText$CharacterList") (T := T_CharacterList) (N := 8) hx hb hT hin_CharacterList hown hK hP 10 cW_L rfl 0 (by decide) (hT _ wd_61) (fun _ h9 => h9) rfl d_CharacterList_shownAt_36 ?_
          refine lv_iload hx hb d_CharacterList_shownAt_39 (lv_at hl 4 rfl) ?_
          refine va_iald hx hb hK hP 11 0 cW_L_order rfl g1 d_CharacterList_shownAt_41 ?_
          exact hret hm hS d_CharacterList_shownAt_42
  have hl6 : ∀ (fu : Nat), ∀ (b1 : Int64) (b3 : Int32) (b4 : Int32) (b5 : Int32) (H : Heap) (locs : List Loc) (ls : Array Slot), lv_has ls 6 [(0, .ref (ad 10)), (1, .long b1), (3, .int b3), (4, .int b4), (5, .int b5)] → va_P (dC, dI) xCl (cW dT ad u) H → va_S xN s.heap H locs → m_CharacterList_shownAt_l6 fu b1 b3 b4 b5 u = some out → W p l e (xrm 2 42) s m args below meth c H locs 0 0 Q (F0 m 6 ls []) := by
    intro fu
    induction fu with
    | zero => intro b1 b3 b4 b5 H locs ls hl hP hS hm; exact absurd hm (fun z => by cases z)
    | succ n ih => intro b1 b3 b4 b5 H locs ls hl hP hS hm; exact hs6 (m_CharacterList_shownAt_l6 n) ih b1 b3 b4 b5 H locs ls hl hP hS hm
  unfold m_CharacterList_shownAt at hm
  refine lv_iconst (v := (0 : Int32)) hx hb d_CharacterList_shownAt_0 (by decide) ?_
  refine lv_istore (lv' := [(4, .int (0 : Int32)), (0, .ref (ad 10)), (1, .long a1), (3, .int a3)]) hx hb d_CharacterList_shownAt_1 hl (Nat.le_of_ble_eq_true rfl) rfl (fun ls hl => ?_)
  refine lv_iconst (v := (0 : Int32)) hx hb d_CharacterList_shownAt_3 (by decide) ?_
  refine lv_istore (lv' := [(5, .int (0 : Int32)), (4, .int (0 : Int32)), (0, .ref (ad 10)), (1, .long a1), (3, .int a3)]) hx hb d_CharacterList_shownAt_4 hl (Nat.le_of_ble_eq_true rfl) rfl (fun ls hl => ?_)
  exact hl6 xFU a1 a3 (0 : Int32) (0 : Int32) _ _ _ (lv_sub hl [2, 3, 4, 1, 0] rfl) hP hS hm
set_option maxHeartbeats 4000000 in
set_option maxRecDepth 100000 in
theorem c_History_parentsOfAll (l : Launch) (dC : Nat → ClassId) (dI : Nat → Nat → Nat) (dT : Nat → ClassId) (ad : Nat → Nat) (a1 : Int64) (u : xS) (out : Int64) (hm : m_History_parentsOfAll a1 u = some out) : Met l y_History_parentsOfAll (Cond.code y_History_parentsOfAll b_History_parentsOfAll 6 (some .long) :: xG) (xrm 2 42) (va_Pc [.ref (ad 1), .long a1] (xR (dC, dI) xCl (xT dT) (cW dT ad u))) (va_Ql (fun r9 (_ : Unit) => r9 = out) (fun _ _ => True) xN) 0 0 xN := by
  refine xm_roj (cc := b_History_parentsOfAll) (maxL := 6) (by decide) rfl (Nat.le_of_ble_eq_true rfl) ?_
  intro p e s m args below meth c Q ls hx hb hml hts hown hK hN hP hl hret
  have hT : ∀ w ∈ xG, w.before args s = true := fun w h => hts w (List.mem_cons_of_mem _ h)
  have hown : s.vm.findClass "EventGraphText$History" = some m.cls := hown
  have hl : lv_has ls 6 [(0, .ref (ad 1)), (1, .long a1)] := hl
  have hS : va_S xN s.heap s.heap [] := va_S.rf
  have hs5 : ∀ (k5 : Int64 → Int64 → Int32 → xS → Option Int64) (hk5 : ∀ (b1 : Int64) (b3 : Int64) (b5 : Int32) (H : Heap) (locs : List Loc) (ls : Array Slot), lv_has ls 6 [(0, .ref (ad 1)), (1, .long b1), (3, .long b3), (5, .int b5)] → va_P (dC, dI) xCl (cW dT ad u) H → va_S xN s.heap H locs → k5 b1 b3 b5 u = some out → W p l e (xrm 2 42) s m args below meth c H locs 0 0 Q (F0 m 5 ls [])), ∀ (b1 : Int64) (b3 : Int64) (b5 : Int32) (H : Heap) (locs : List Loc) (ls : Array Slot), lv_has ls 6 [(0, .ref (ad 1)), (1, .long b1), (3, .long b3), (5, .int b5)] → va_P (dC, dI) xCl (cW dT ad u) H → va_S xN s.heap H locs → m_History_parentsOfAll_s5 k5 b1 b3 b5 u = some out → W p l e (xrm 2 42) s m args below meth c H locs 0 0 Q (F0 m 5 ls []) := by
    intro k5 hk5 b1 b3 b5 H locs ls hl hP hS hm
    unfold m_History_parentsOfAll_s5 at hm
    refine lv_iload hx hb d_History_parentsOfAll_5 (lv_at hl 3 rfl) ?_
    refine lv_aload_n hx hb d_History_parentsOfAll_7 rfl (lv_at hl 0 rfl) ?_
    refine va_get (D := (dC, dI)) (ci := 1) (v := .int (xs_i u 0)) (C := "EventGraphText$History") (T := T_History) (N := 9) hx hb hT hin_History hown hK hP 1 cW_H rfl 8 (by decide) (hT _ wd_33) (fun _ h9 => h9) rfl d_History_parentsOfAll_8 ?_
    refine lv_icmp_ge (tgt := 39) hx hb d_History_parentsOfAll_11 rfl (fun h => ?_) (fun h => ?_)
    · replace hm := xi_pos h hm
      refine lv_lload_n hx hb d_History_parentsOfAll_39 rfl (lv_at hl 2 rfl) ?_
      exact hret hm hS d_History_parentsOfAll_40
    · replace hm := xi_neg h hm
      refine lv_lload_n hx hb d_History_parentsOfAll_14 rfl (lv_at hl 1 rfl) ?_
      refine lv_iload hx hb d_History_parentsOfAll_15 (lv_at hl 3 rfl) ?_
      obtain ⟨r17, h17, hm⟩ := xb1_some hm
      refine xc_i (va_runSN (As := [.long b1, .int b5]) (rest := []) ⟨hx, hb, hml, hown, hts⟩ (c_Text_has l b1 b5 r17 h17) ⟨va_cnB 2 hts (xg0 wd_217) rfl rfl rfl (nmm_9 hN) (hT _ wd_1) pd_Text_has.2 ⟨Nat.le_of_ble_eq_true rfl, Nat.le_of_ble_eq_true rfl⟩, hT _ wd_216, trivial⟩ xpreS0 rfl rfl hl.1 rfl (lv_room (Nat.le_of_ble_eq_true rfl)) d_History_parentsOfAll_17 ⟨Nat.le_of_ble_eq_true rfl, Nat.le_of_ble_eq_true rfl⟩) hP hS (fun H locs hP hS => ?_)
      refine lv_if_eq (tgt := 33) hx hb d_History_parentsOfAll_20 rfl (fun h => ?_) (fun h => ?_)
      · replace hm := xi_pos h hm
        refine lv_iinc (k := 3) (v := (b5 + (1 : Int32))) (lv' := [(5, .int (b5 + (1 : Int32))), (0, .ref (ad 1)), (1, .long b1), (3, .long b3)]) hx hb d_History_parentsOfAll_33 hl rfl rfl (Nat.le_of_ble_eq_true rfl) rfl (fun ls hl => ?_)
        refine lv_goto (tgt := 5) hx hb d_History_parentsOfAll_36 rfl ?_
        exact hk5 b1 b3 (b5 + (1 : Int32)) _ _ _ (lv_sub hl [1, 2, 3, 0] rfl) hP hS hm
      · replace hm := xi_neg h hm
        refine lv_lload_n hx hb d_History_parentsOfAll_23 rfl (lv_at hl 2 rfl) ?_
        refine lv_aload_n hx hb d_History_parentsOfAll_24 rfl (lv_at hl 0 rfl) ?_
        refine va_get (D := (dC, dI)) (ci := 1) (v := .ref (ad 6)) (C := "EventGraphText$History") (T := T_History) (N := 9) hx hb hT hin_History hown hK hP 1 cW_H rfl 4 (by decide) (hT _ wd_29) (fun _ h9 => h9) rfl d_History_parentsOfAll_25 ?_
        refine lv_iload hx hb d_History_parentsOfAll_28 (lv_at hl 3 rfl) ?_
        obtain ⟨g1, hm⟩ := xg_some hm
        refine va_lald hx hb hK hP 6 1 cW_H_parents rfl g1 d_History_parentsOfAll_30 ?_
        refine lv_lor hx hb d_History_parentsOfAll_31 ?_
        refine lv_lstore_n (lv' := [(3, .long (b3 ||| (xs_L u 0 b5.toNatClampNeg))), (0, .ref (ad 1)), (1, .long b1), (5, .int b5)]) hx hb d_History_parentsOfAll_32 rfl hl (Nat.le_of_ble_eq_true rfl) rfl (fun ls hl => ?_)
        refine lv_iinc (k := 3) (v := (b5 + (1 : Int32))) (lv' := [(5, .int (b5 + (1 : Int32))), (3, .long (b3 ||| (xs_L u 0 b5.toNatClampNeg))), (0, .ref (ad 1)), (1, .long b1)]) hx hb d_History_parentsOfAll_33 hl rfl rfl (Nat.le_of_ble_eq_true rfl) rfl (fun ls hl => ?_)
        refine lv_goto (tgt := 5) hx hb d_History_parentsOfAll_36 rfl ?_
        exact hk5 b1 (b3 ||| (xs_L u 0 b5.toNatClampNeg)) (b5 + (1 : Int32)) _ _ _ (lv_sub hl [2, 3, 1, 0] rfl) hP hS hm
  have hl5 : ∀ (fu : Nat), ∀ (b1 : Int64) (b3 : Int64) (b5 : Int32) (H : Heap) (locs : List Loc) (ls : Array Slot), lv_has ls 6 [(0, .ref (ad 1)), (1, .long b1), (3, .long b3), (5, .int b5)] → va_P (dC, dI) xCl (cW dT ad u) H → va_S xN s.heap H locs → m_History_parentsOfAll_l5 fu b1 b3 b5 u = some out → W p l e (xrm 2 42) s m args below meth c H locs 0 0 Q (F0 m 5 ls []) := by
    intro fu
    induction fu with
    | zero => intro b1 b3 b5 H locs ls hl hP hS hm; exact absurd hm (fun z => by cases z)
    | succ n ih => intro b1 b3 b5 H locs ls hl hP hS hm; exact hs5 (m_History_parentsOfAll_l5 n) ih b1 b3 b5 H locs ls hl hP hS hm
  unfold m_History_parentsOfAll at hm
  refine lv_lconst (v := (0 : Int64)) hx hb d_History_parentsOfAll_0 (by decide) ?_
  refine lv_lstore_n (lv' := [(3, .long (0 : Int64)), (0, .ref (ad 1)), (1, .long a1)]) hx hb d_History_parentsOfAll_1 rfl hl (Nat.le_of_ble_eq_true rfl) rfl (fun ls hl => ?_)
  refine lv_iconst (v := (0 : Int32)) hx hb d_History_parentsOfAll_2 (by decide) ?_
  refine lv_istore (lv' := [(5, .int (0 : Int32)), (3, .long (0 : Int64)), (0, .ref (ad 1)), (1, .long a1)]) hx hb d_History_parentsOfAll_3 hl (Nat.le_of_ble_eq_true rfl) rfl (fun ls hl => ?_)
  exact hl5 xFU a1 (0 : Int64) (0 : Int32) _ _ _ (lv_sub hl [2, 3, 1, 0] rfl) hP hS hm
set_option maxHeartbeats 4000000 in
set_option maxRecDepth 100000 in
theorem c_History_headsOf (l : Launch) (dC : Nat → ClassId) (dI : Nat → Nat → Nat) (dT : Nat → ClassId) (ad : Nat → Nat) (a1 : Int64) (u : xS) (out : Int64) (hm : m_History_headsOf a1 u = some out) : Met l y_History_headsOf (Cond.code y_History_headsOf b_History_headsOf 3 (some .long) :: xG) (xrm 3 67) (va_Pc [.ref (ad 1), .long a1] (xR (dC, dI) xCl (xT dT) (cW dT ad u))) (va_Ql (fun r9 (_ : Unit) => r9 = out) (fun _ _ => True) xN) 0 0 xN := by
  refine xm_roj (cc := b_History_headsOf) (maxL := 3) (by decide) rfl (Nat.le_of_ble_eq_true rfl) ?_
  intro p e s m args below meth c Q ls hx hb hml hts hown hK hN hP hl hret
  have hT : ∀ w ∈ xG, w.before args s = true := fun w h => hts w (List.mem_cons_of_mem _ h)
  have hown : s.vm.findClass "EventGraphText$History" = some m.cls := hown
  have hl : lv_has ls 3 [(0, .ref (ad 1)), (1, .long a1)] := hl
  have hS : va_S xN s.heap s.heap [] := va_S.rf
  unfold m_History_headsOf at hm
  refine lv_lload_n hx hb d_History_headsOf_0 rfl (lv_at hl 1 rfl) ?_
  refine lv_aload_n hx hb d_History_headsOf_1 rfl (lv_at hl 0 rfl) ?_
  refine lv_lload_n hx hb d_History_headsOf_2 rfl (lv_at hl 1 rfl) ?_
  obtain ⟨r3, h3, hm⟩ := xb1_some hm
  refine xc_l (va_runV (C := "EventGraphText$History") (As := [.long a1]) (rest := [.long a1]) ⟨hx, hb, hml, hown, hts⟩ (c_History_parentsOfAll l dC dI dT ad a1 u r3 h3) (cwV 1 hts (xgV wd_241 wd_242 wd_243 wd_2 wd_244) rfl rfl rfl pd_History_parentsOfAll ⟨Nat.le_of_ble_eq_true rfl, Nat.le_of_ble_eq_true rfl⟩) (xpreV (C := "EventGraphText$History") (T := T_History) (N := 9) hP hK hN rfl cW_H) rfl rfl hl.1 rfl (lv_room (Nat.le_of_ble_eq_true rfl)) d_History_headsOf_3 ⟨Nat.le_of_ble_eq_true rfl, Nat.le_of_ble_eq_true rfl⟩) hP hS (fun H locs hP hS => ?_)
  refine lv_ldc2 (v := (-1 : Int64)) hx hb hown (hT _ wd_246) d_History_headsOf_6 ?_
  refine lv_lxor hx hb d_History_headsOf_9 ?_
  refine lv_land hx hb d_History_headsOf_10 ?_
  exact hret hm hS d_History_headsOf_11
set_option maxHeartbeats 4000000 in
set_option maxRecDepth 100000 in
theorem c_History_record (l : Launch) (dC : Nat → ClassId) (dI : Nat → Nat → Nat) (dT : Nat → ClassId) (ad : Nat → Nat) (hD : ∀ u, va_D (xA ad 50) (cW dT ad u)) (a1 : Int32) (a2 : Int32) (a3 : Int32) (a4 : Int64) (u : xS) (out : Int32) (u1 : xS) (hm : m_History_record a1 a2 a3 a4 u = some (out, u1)) : Met l y_History_record (Cond.code y_History_record b_History_record 7 (some .int) :: xG) (xrm 4 89) (va_Pc [.ref (ad 1), .int a1, .int a2, .int a3, .long a4] (xR (dC, dI) xCl (xT dT) (cW dT ad u))) (va_Qi (fun r9 (u9 : xS) => r9 = out ∧ u9 = u1) (fun u9 t => va_P (dC, dI) xCl (cW dT ad u9) t.heap) (xA ad 50)) 0 0 (xA ad 50) := by
  refine xm_rwi (Wd := cW dT ad) (cc := b_History_record) (maxL := 7) (by decide) rfl (Nat.le_of_ble_eq_true rfl) ?_
  intro p e s m args below meth c Q ls hx hb hml hts hown hK hN hP hl hret
  have hT : ∀ w ∈ xG, w.before args s = true := fun w h => hts w (List.mem_cons_of_mem _ h)
  have hown : s.vm.findClass "EventGraphText$History" = some m.cls := hown
  have hl : lv_has ls 7 [(0, .ref (ad 1)), (1, .int a1), (2, .int a2), (3, .int a3), (4, .long a4)] := hl
  have hS : va_S (xA ad 50) s.heap s.heap [] := va_S.rf
  unfold m_History_record at hm
  refine lv_aload_n hx hb d_History_record_0 rfl (lv_at hl 0 rfl) ?_
  refine va_get (D := (dC, dI)) (ci := 1) (v := .int (xs_i u 0)) (C := "EventGraphText$History") (T := T_History) (N := 9) hx hb hT hin_History hown hK hP 1 cW_H rfl 8 (by decide) (hT _ wd_33) (fun _ h9 => h9) rfl d_History_record_1 ?_
  refine lv_istore (lv' := [(6, .int (xs_i u 0)), (0, .ref (ad 1)), (1, .int a1), (2, .int a2), (3, .int a3), (4, .long a4)]) hx hb d_History_record_4 hl (Nat.le_of_ble_eq_true rfl) rfl (fun ls hl => ?_)
  refine lv_aload_n hx hb d_History_record_6 rfl (lv_at hl 1 rfl) ?_
  refine va_get (D := (dC, dI)) (ci := 1) (v := .ref (ad 2)) (C := "EventGraphText$History") (T := T_History) (N := 9) hx hb hT hin_History hown hK hP 1 cW_H rfl 0 (by decide) (hT _ wd_25) (fun _ h9 => h9) rfl d_History_record_7 ?_
  refine lv_iload hx hb d_History_record_10 (lv_at hl 0 rfl) ?_
  refine lv_iload_n hx hb d_History_record_12 rfl (lv_at hl 2 rfl) ?_
  obtain ⟨g1, hm⟩ := xg_some hm
  obtain ⟨w13, hw13, hm⟩ := xlt_some hm
  refine va_iast hx hb hK hP (hD _) hS 2 0 cW_H_sites rfl g1 d_History_record_13 (fun H locs hP _ hS => ?_)
  replace hP : va_P (dC, dI) xCl (cW dT ad w13) H := xp_conv ((cW_s_H_sites).trans (congrArg (cW dT ad) hw13.symm)) hP
  refine lv_aload_n hx hb d_History_record_14 rfl (lv_at hl 1 rfl) ?_
  refine va_get (D := (dC, dI)) (ci := 1) (v := .ref (ad 3)) (C := "EventGraphText$History") (T := T_History) (N := 9) hx hb hT hin_History hown hK hP 1 cW_H rfl 1 (by decide) (hT _ wd_26) (fun _ h9 => h9) rfl d_History_record_15 ?_
  refine lv_iload hx hb d_History_record_18 (lv_at hl 0 rfl) ?_
  refine lv_aload_n hx hb d_History_record_20 rfl (lv_at hl 1 rfl) ?_
  refine va_get (D := (dC, dI)) (ci := 1) (v := .ref (ad 9)) (C := "EventGraphText$History") (T := T_History) (N := 9) hx hb hT hin_History hown hK hP 1 cW_H rfl 7 (by decide) (hT _ wd_32) (fun _ h9 => h9) rfl d_History_record_21 ?_
  refine lv_iload_n hx hb d_History_record_24 rfl (lv_at hl 2 rfl) ?_
  obtain ⟨g2, hm⟩ := xg_some hm
  refine va_iald hx hb hK hP 9 0 cW_H_made rfl g2 d_History_record_25 ?_
  obtain ⟨w26, hw26, hm⟩ := xlt_some hm
  refine va_iast hx hb hK hP (hD _) hS 3 0 cW_H_numbers rfl g1 d_History_record_26 (fun H locs hP _ hS => ?_)
  replace hP : va_P (dC, dI) xCl (cW dT ad w26) H := xp_conv ((cW_s_H_numbers).trans (congrArg (cW dT ad) hw26.symm)) hP
  refine lv_aload_n hx hb d_History_record_27 rfl (lv_at hl 1 rfl) ?_
  refine va_get (D := (dC, dI)) (ci := 1) (v := .ref (ad 4)) (C := "EventGraphText$History") (T := T_History) (N := 9) hx hb hT hin_History hown hK hP 1 cW_H rfl 2 (by decide) (hT _ wd_27) (fun _ h9 => h9) rfl d_History_record_28 ?_
  refine lv_iload hx hb d_History_record_31 (lv_at hl 0 rfl) ?_
  refine lv_iload_n hx hb d_History_record_33 rfl (lv_at hl 3 rfl) ?_
  obtain ⟨w34, hw34, hm⟩ := xlt_some hm
  refine va_iast hx hb hK hP (hD _) hS 4 0 cW_H_indices rfl g1 d_History_record_34 (fun H locs hP _ hS => ?_)
  replace hP : va_P (dC, dI) xCl (cW dT ad w34) H := xp_conv ((cW_s_H_indices).trans (congrArg (cW dT ad) hw34.symm)) hP
  refine lv_aload_n hx hb d_History_record_35 rfl (lv_at hl 1 rfl) ?_
  refine va_get (D := (dC, dI)) (ci := 1) (v := .ref (ad 5)) (C := "EventGraphText$History") (T := T_History) (N := 9) hx hb hT hin_History hown hK hP 1 cW_H rfl 3 (by decide) (hT _ wd_28) (fun _ h9 => h9) rfl d_History_record_36 ?_
  refine lv_iload hx hb d_History_record_39 (lv_at hl 0 rfl) ?_
  refine lv_iload_n hx hb d_History_record_41 rfl (lv_at hl 4 rfl) ?_
  obtain ⟨w42, hw42, hm⟩ := xlt_some hm
  refine va_iast hx hb hK hP (hD _) hS 5 0 cW_H_characters rfl g1 d_History_record_42 (fun H locs hP _ hS => ?_)
  replace hP : va_P (dC, dI) xCl (cW dT ad w42) H := xp_conv ((cW_s_H_characters).trans (congrArg (cW dT ad) hw42.symm)) hP
  refine lv_aload_n hx hb d_History_record_43 rfl (lv_at hl 1 rfl) ?_
  refine va_get (D := (dC, dI)) (ci := 1) (v := .ref (ad 6)) (C := "EventGraphText$History") (T := T_History) (N := 9) hx hb hT hin_History hown hK hP 1 cW_H rfl 4 (by decide) (hT _ wd_29) (fun _ h9 => h9) rfl d_History_record_44 ?_
  refine lv_iload hx hb d_History_record_47 (lv_at hl 0 rfl) ?_
  refine lv_aload_n hx hb d_History_record_49 rfl (lv_at hl 1 rfl) ?_
  refine lv_lload hx hb d_History_record_50 (lv_at hl 5 rfl) ?_
  obtain ⟨r52, h52, hm⟩ := xb1_some hm
  refine xc_l (va_runV (C := "EventGraphText$History") (As := [.long a4]) (rest := [.int (xs_i u 0), .ref (ad 6)]) ⟨hx, hb, hml, hown, hts⟩ (c_History_headsOf l dC dI dT ad a4 w42 r52 h52) (cwV 1 hts (xgV wd_237 wd_238 wd_239 wd_2 wd_240) rfl rfl rfl pd_History_headsOf ⟨Nat.le_of_ble_eq_true rfl, Nat.le_of_ble_eq_true rfl⟩) (xpreV (C := "EventGraphText$History") (T := T_History) (N := 9) hP hK hN rfl cW_H) rfl rfl hl.1 rfl (lv_room (Nat.le_of_ble_eq_true rfl)) d_History_record_52 ⟨Nat.le_of_ble_eq_true rfl, Nat.le_of_ble_eq_true rfl⟩) hP hS (fun H locs hP hS => ?_)
  obtain ⟨w55, hw55, hm⟩ := xlt_some hm
  refine va_last hx hb hK hP (hD _) hS 6 1 cW_H_parents rfl g1 d_History_record_55 (fun H locs hP _ hS => ?_)
  replace hP : va_P (dC, dI) xCl (cW dT ad w55) H := xp_conv ((cW_s_H_parents).trans (congrArg (cW dT ad) hw55.symm)) hP
  refine lv_aload_n hx hb d_History_record_56 rfl (lv_at hl 1 rfl) ?_
  refine va_get (D := (dC, dI)) (ci := 1) (v := .ref (ad 7)) (C := "EventGraphText$History") (T := T_History) (N := 9) hx hb hT hin_History hown hK hP 1 cW_H rfl 5 (by decide) (hT _ wd_30) (fun _ h9 => h9) rfl d_History_record_57 ?_
  refine lv_iload hx hb d_History_record_60 (lv_at hl 0 rfl) ?_
  refine lv_lload hx hb d_History_record_62 (lv_at hl 5 rfl) ?_
  obtain ⟨w64, hw64, hm⟩ := xlt_some hm
  refine va_last hx hb hK hP (hD _) hS 7 1 cW_H_ancestors rfl g1 d_History_record_64 (fun H locs hP _ hS => ?_)
  replace hP : va_P (dC, dI) xCl (cW dT ad w64) H := xp_conv ((cW_s_H_ancestors).trans (congrArg (cW dT ad) hw64.symm)) hP
  refine lv_aload_n hx hb d_History_record_65 rfl (lv_at hl 1 rfl) ?_
  refine va_get (D := (dC, dI)) (ci := 1) (v := .ref (ad 8)) (C := "EventGraphText$History") (T := T_History) (N := 9) hx hb hT hin_History hown hK hP 1 cW_H rfl 6 (by decide) (hT _ wd_31) (fun _ h9 => h9) rfl d_History_record_66 ?_
  refine lv_iload_n hx hb d_History_record_69 rfl (lv_at hl 2 rfl) ?_
  refine lv_bipush (v := (40 : Int32)) hx hb d_History_record_70 (by decide) ?_
  refine lv_imul hx hb d_History_record_72 ?_
  refine lv_aload_n hx hb d_History_record_73 rfl (lv_at hl 1 rfl) ?_
  refine va_get (D := (dC, dI)) (ci := 1) (v := .ref (ad 9)) (C := "EventGraphText$History") (T := T_History) (N := 9) hx hb hT hin_History hown hK hP 1 cW_H rfl 7 (by decide) (hT _ wd_32) (fun _ h9 => h9) rfl d_History_record_74 ?_
  refine lv_iload_n hx hb d_History_record_77 rfl (lv_at hl 2 rfl) ?_
  refine va_iald hx hb hK hP 9 0 cW_H_made rfl g2 d_History_record_78 ?_
  refine lv_iadd hx hb d_History_record_79 ?_
  refine lv_iload hx hb d_History_record_80 (lv_at hl 0 rfl) ?_
  obtain ⟨g3, hm⟩ := xg_some hm
  obtain ⟨w82, hw82, hm⟩ := xlt_some hm
  refine va_iast hx hb hK hP (hD _) hS 8 0 cW_H_slots rfl g3 d_History_record_82 (fun H locs hP _ hS => ?_)
  replace hP : va_P (dC, dI) xCl (cW dT ad w82) H := xp_conv ((cW_s_H_slots).trans (congrArg (cW dT ad) hw82.symm)) hP
  refine lv_aload_n hx hb d_History_record_83 rfl (lv_at hl 1 rfl) ?_
  refine va_get (D := (dC, dI)) (ci := 1) (v := .ref (ad 9)) (C := "EventGraphText$History") (T := T_History) (N := 9) hx hb hT hin_History hown hK hP 1 cW_H rfl 7 (by decide) (hT _ wd_32) (fun _ h9 => h9) rfl d_History_record_84 ?_
  refine lv_iload_n hx hb d_History_record_87 rfl (lv_at hl 2 rfl) ?_
  refine lv_dup2_11 hx hb d_History_record_88 rfl rfl ?_
  refine va_iald hx hb hK hP 9 0 cW_H_made rfl g2 d_History_record_89 ?_
  refine lv_iconst (v := (1 : Int32)) hx hb d_History_record_90 (by decide) ?_
  refine lv_iadd hx hb d_History_record_91 ?_
  obtain ⟨w92, hw92, hm⟩ := xlt_some hm
  refine va_iast hx hb hK hP (hD _) hS 9 0 cW_H_made rfl g2 d_History_record_92 (fun H locs hP _ hS => ?_)
  replace hP : va_P (dC, dI) xCl (cW dT ad w92) H := xp_conv ((cW_s_H_made).trans (congrArg (cW dT ad) hw92.symm)) hP
  refine lv_aload_n hx hb d_History_record_93 rfl (lv_at hl 1 rfl) ?_
  refine lv_dup hx hb d_History_record_94 rfl ?_
  refine va_get (D := (dC, dI)) (ci := 1) (v := .int (xs_i w92 0)) (C := "EventGraphText$History") (T := T_History) (N := 9) hx hb hT hin_History hown hK hP 1 cW_H rfl 8 (by decide) (hT _ wd_33) (fun _ h9 => h9) rfl d_History_record_95 ?_
  refine lv_iconst (v := (1 : Int32)) hx hb d_History_record_98 (by decide) ?_
  refine lv_iadd hx hb d_History_record_99 ?_
  obtain ⟨w100, hw100, hm⟩ := xlt_some hm
  refine va_put (D := (dC, dI)) (ci := 1) (v := .int ((xs_i w92 0) + (1 : Int32))) (ty := .int) (C := "EventGraphText$History") (T := T_History) (N := 9) hx hb hT hin_History ty_History tyok_History nm_History hown hK hP (hD _) hS 1 cW_H rfl 8 (by decide) (hT _ wd_33) (fun _ h9 => h9) rfl (by decide +kernel) rfl rfl (Nat.le_of_ble_eq_true rfl) d_History_record_100 (fun H locs hP _ hS => ?_)
  replace hP : va_P (dC, dI) xCl (cW dT ad w100) H := xp_conv ((cW_f_H_count).trans (congrArg (cW dT ad) hw100.symm)) hP
  refine lv_iload hx hb d_History_record_103 (lv_at hl 0 rfl) ?_
  exact hret hm hP hS d_History_record_105
