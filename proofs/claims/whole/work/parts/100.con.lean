set_option maxHeartbeats 4000000 in
set_option maxRecDepth 100000 in
theorem c_Text_isSite (l : Launch) (a0 : Int32) (out : Int32) (hm : m_Text_isSite a0 = some out) : Met l y_Text_isSite (Cond.code y_Text_isSite b_Text_isSite 1 (some .boolean) :: xG) (xrm 0 0) (va_Pc [.int a0] (fun _ => True)) (va_Qi (fun r9 (_ : Unit) => r9 = out) (fun _ _ => True) xN) 0 0 xN := by
  refine xm_puz (cc := b_Text_isSite) (maxL := 1) (by decide) rfl (Nat.le_of_ble_eq_true rfl) ?_
  intro p e s m args below meth c Q ls hx hb hml hts hown hl hret
  have hT : ∀ w ∈ xG, w.before args s = true := fun w h => hts w (List.mem_cons_of_mem _ h)
  have hown : s.vm.findClass "EventGraphText" = some m.cls := hown
  have hl : lv_has ls 1 [(0, .int a0)] := hl
  have hS : va_S xN s.heap s.heap [] := va_S.rf
  unfold m_Text_isSite at hm
  refine lv_iload_n hx hb d_Text_isSite_0 rfl (lv_at hl 0 rfl) ?_
  refine lv_if_lt (tgt := 13) hx hb d_Text_isSite_1 rfl (fun h => ?_) (fun h => ?_)
  · replace hm := xi_pos h hm
    refine lv_iconst (v := (0 : Int32)) hx hb d_Text_isSite_13 (by decide) ?_
    exact hret hm rfl hS d_Text_isSite_14
  · replace hm := xi_neg h hm
    refine lv_iload_n hx hb d_Text_isSite_4 rfl (lv_at hl 0 rfl) ?_
    refine lv_iconst (v := (3 : Int32)) hx hb d_Text_isSite_5 (by decide) ?_
    refine lv_icmp_ge (tgt := 13) hx hb d_Text_isSite_6 rfl (fun h => ?_) (fun h => ?_)
    · replace hm := xi_pos h hm
      refine lv_iconst (v := (0 : Int32)) hx hb d_Text_isSite_13 (by decide) ?_
      exact hret hm rfl hS d_Text_isSite_14
    · replace hm := xi_neg h hm
      refine lv_iconst (v := (1 : Int32)) hx hb d_Text_isSite_9 (by decide) ?_
      refine lv_goto (tgt := 14) hx hb d_Text_isSite_10 rfl ?_
      exact hret hm rfl hS d_Text_isSite_14
set_option maxHeartbeats 4000000 in
set_option maxRecDepth 100000 in
theorem c_History_isFull (l : Launch) (dC : Nat → ClassId) (dI : Nat → Nat → Nat) (dT : Nat → ClassId) (ad : Nat → Nat) (u : xS) (out : Int32) (hm : m_History_isFull u = some out) : Met l y_History_isFull (Cond.code y_History_isFull b_History_isFull 1 (some .boolean) :: xG) (xrm 0 0) (va_Pc [.ref (ad 1)] (xR (dC, dI) xCl (xT dT) (cW dT ad u))) (va_Qi (fun r9 (_ : Unit) => r9 = out) (fun _ _ => True) xN) 0 0 xN := by
  refine xm_roz (cc := b_History_isFull) (maxL := 1) (by decide) rfl (Nat.le_of_ble_eq_true rfl) ?_
  intro p e s m args below meth c Q ls hx hb hml hts hown hK hN hP hl hret
  have hT : ∀ w ∈ xG, w.before args s = true := fun w h => hts w (List.mem_cons_of_mem _ h)
  have hown : s.vm.findClass "EventGraphText$History" = some m.cls := hown
  have hl : lv_has ls 1 [(0, .ref (ad 1))] := hl
  have hS : va_S xN s.heap s.heap [] := va_S.rf
  unfold m_History_isFull at hm
  refine lv_aload_n hx hb d_History_isFull_0 rfl (lv_at hl 0 rfl) ?_
  refine va_get (D := (dC, dI)) (ci := 1) (v := .int (xs_i u 0)) (C := "EventGraphText$History") (T := T_History) (N := 9) hx hb hT hin_History hown hK hP 1 cW_H rfl 8 (by decide) (hT _ wd_33) (fun _ h9 => h9) rfl d_History_isFull_1 ?_
  refine lv_bipush (v := (40 : Int32)) hx hb d_History_isFull_4 (by decide) ?_
  refine lv_icmp_lt (tgt := 13) hx hb d_History_isFull_6 rfl (fun h => ?_) (fun h => ?_)
  · replace hm := xi_pos h hm
    refine lv_iconst (v := (0 : Int32)) hx hb d_History_isFull_13 (by decide) ?_
    exact hret hm rfl hS d_History_isFull_14
  · replace hm := xi_neg h hm
    refine lv_iconst (v := (1 : Int32)) hx hb d_History_isFull_9 (by decide) ?_
    refine lv_goto (tgt := 14) hx hb d_History_isFull_10 rfl ?_
    exact hret hm rfl hS d_History_isFull_14
set_option maxHeartbeats 4000000 in
set_option maxRecDepth 100000 in
theorem c_Text_bit (l : Launch) (a0 : Int32) (out : Int64) (hm : m_Text_bit a0 = some out) : Met l y_Text_bit (Cond.code y_Text_bit b_Text_bit 1 (some .long) :: xG) (xrm 0 0) (va_Pc [.int a0] (fun _ => True)) (va_Ql (fun r9 (_ : Unit) => r9 = out) (fun _ _ => True) xN) 0 0 xN := by
  refine xm_puj (cc := b_Text_bit) (maxL := 1) (by decide) rfl (Nat.le_of_ble_eq_true rfl) ?_
  intro p e s m args below meth c Q ls hx hb hml hts hown hl hret
  have hT : ∀ w ∈ xG, w.before args s = true := fun w h => hts w (List.mem_cons_of_mem _ h)
  have hown : s.vm.findClass "EventGraphText" = some m.cls := hown
  have hl : lv_has ls 1 [(0, .int a0)] := hl
  have hS : va_S xN s.heap s.heap [] := va_S.rf
  unfold m_Text_bit at hm
  refine lv_lconst (v := (1 : Int64)) hx hb d_Text_bit_0 (by decide) ?_
  refine lv_iload_n hx hb d_Text_bit_1 rfl (lv_at hl 0 rfl) ?_
  refine lv_lshl (v := (xShl (1 : Int64) a0)) hx hb d_Text_bit_2 rfl ?_
  exact hret hm hS d_Text_bit_3
set_option maxHeartbeats 4000000 in
set_option maxRecDepth 100000 in
theorem c_Text_has (l : Launch) (a0 : Int64) (a2 : Int32) (out : Int32) (hm : m_Text_has a0 a2 = some out) : Met l y_Text_has (Cond.code y_Text_has b_Text_has 3 (some .boolean) :: xG) (xrm 1 20) (va_Pc [.long a0, .int a2] (fun _ => True)) (va_Qi (fun r9 (_ : Unit) => r9 = out) (fun _ _ => True) xN) 0 0 xN := by
  refine xm_puz (cc := b_Text_has) (maxL := 3) (by decide) rfl (Nat.le_of_ble_eq_true rfl) ?_
  intro p e s m args below meth c Q ls hx hb hml hts hown hl hret
  have hT : ∀ w ∈ xG, w.before args s = true := fun w h => hts w (List.mem_cons_of_mem _ h)
  have hown : s.vm.findClass "EventGraphText" = some m.cls := hown
  have hl : lv_has ls 3 [(0, .long a0), (2, .int a2)] := hl
  have hS : va_S xN s.heap s.heap [] := va_S.rf
  unfold m_Text_has at hm
  refine lv_iload_n hx hb d_Text_has_0 rfl (lv_at hl 1 rfl) ?_
  refine lv_if_lt (tgt := 19) hx hb d_Text_has_1 rfl (fun h => ?_) (fun h => ?_)
  · replace hm := xi_pos h hm
    refine lv_iconst (v := (0 : Int32)) hx hb d_Text_has_19 (by decide) ?_
    exact hret hm rfl hS d_Text_has_20
  · replace hm := xi_neg h hm
    refine lv_lload_n hx hb d_Text_has_4 rfl (lv_at hl 0 rfl) ?_
    refine lv_iload_n hx hb d_Text_has_5 rfl (lv_at hl 1 rfl) ?_
    obtain ⟨r6, h6, hm⟩ := xb1_some hm
    refine xc_l0 (va_runS (As := [.int a2]) (rest := [.long a0]) ⟨hx, hb, hml, hown, hts⟩ (c_Text_bit l a2 r6 h6) (va_cwS 1 hts (xgS wd_218 wd_219 wd_1 wd_220) rfl rfl rfl pd_Text_bit.2 ⟨Nat.le_of_ble_eq_true rfl, Nat.le_of_ble_eq_true rfl⟩) xpreS0 rfl rfl hl.1 rfl (lv_room (Nat.le_of_ble_eq_true rfl)) d_Text_has_6 ⟨Nat.le_of_ble_eq_true rfl, Nat.le_of_ble_eq_true rfl⟩) hS (fun H locs hS => ?_)
    refine lv_land hx hb d_Text_has_9 ?_
    refine lv_lconst (v := (0 : Int64)) hx hb d_Text_has_10 (by decide) ?_
    refine xl_cmp_eq (tgt := 19) hx hb d_Text_has_11 d_Text_has_12 rfl (fun h => ?_) (fun h => ?_)
    · replace hm := xi_pos h hm
      refine lv_iconst (v := (0 : Int32)) hx hb d_Text_has_19 (by decide) ?_
      exact hret hm rfl hS d_Text_has_20
    · replace hm := xi_neg h hm
      refine lv_iconst (v := (1 : Int32)) hx hb d_Text_has_15 (by decide) ?_
      refine lv_goto (tgt := 20) hx hb d_Text_has_16 rfl ?_
      exact hret hm rfl hS d_Text_has_20
