set_option maxHeartbeats 4000000 in
set_option maxRecDepth 100000 in
theorem c_CharacterList_childrenOf (l : Launch) (dC : Nat → ClassId) (dI : Nat → Nat → Nat) (dT : Nat → ClassId) (ad : Nat → Nat) (a1 : Int32) (a2 : Int32) (u : xS) (out : Int64) (hm : m_CharacterList_childrenOf a1 a2 u = some out) : Met l y_CharacterList_childrenOf (Cond.code y_CharacterList_childrenOf b_CharacterList_childrenOf 7 (some .long) :: xG) (xrm 1 20) (va_Pc [.ref (ad 10), .int a1, .int a2] (xR (dC, dI) xCl (xT dT) (cW dT ad u))) (va_Ql (fun r9 (_ : Unit) => r9 = out) (fun _ _ => True) xN) 0 0 xN := by
  refine xm_roj (cc := b_CharacterList_childrenOf) (maxL := 7) (by decide) rfl (Nat.le_of_ble_eq_true rfl) ?_
  intro p e s m args below meth c Q ls hx hb hml hts hown hK hN hP hl hret
  have hT : ∀ w ∈ xG, w.before args s = true := fun w h => hts w (List.mem_cons_of_mem _ h)
  have hown : s.vm.findClass "EventGraphText$CharacterList" = some m.cls := hown
  have hl : lv_has ls 7 [(0, .ref (ad 10)), (1, .int a1), (2, .int a2)] := hl
  have hS : va_S xN s.heap s.heap [] := va_S.rf
  have hs5 : ∀ (k5 : Int32 → Int32 → Int64 → Int32 → xS → Option Int64) (hk5 : ∀ (b1 : Int32) (b2 : Int32) (b3 : Int64) (b5 : Int32) (H : Heap) (locs : List Loc) (ls : Array Slot), lv_has ls 7 [(0, .ref (ad 10)), (1, .int b1), (2, .int b2), (3, .long b3), (5, .int b5)] → va_P (dC, dI) xCl (cW dT ad u) H → va_S xN s.heap H locs → k5 b1 b2 b3 b5 u = some out → W p l e (xrm 1 20) s m args below meth c H locs 0 0 Q (F0 m 5 ls [])), ∀ (b1 : Int32) (b2 : Int32) (b3 : Int64) (b5 : Int32) (H : Heap) (locs : List Loc) (ls : Array Slot), lv_has ls 7 [(0, .ref (ad 10)), (1, .int b1), (2, .int b2), (3, .long b3), (5, .int b5)] → va_P (dC, dI) xCl (cW dT ad u) H → va_S xN s.heap H locs → m_CharacterList_childrenOf_s5 k5 b1 b2 b3 b5 u = some out → W p l e (xrm 1 20) s m args below meth c H locs 0 0 Q (F0 m 5 ls []) := by
    intro k5 hk5 b1 b2 b3 b5 H locs ls hl hP hS hm
    unfold m_CharacterList_childrenOf_s5 at hm
    refine lv_iload hx hb d_CharacterList_childrenOf_5 (lv_at hl 4 rfl) ?_
    refine lv_aload_n hx hb d_CharacterList_childrenOf_7 rfl (lv_at hl 0 rfl) ?_
    refine va_get (D := (dC, dI)) (ci := 0) (v := .int (xs_i u 1)) (C := "EventGraphText$CharacterList") (T := T_CharacterList) (N := 8) hx hb hT hin_CharacterList hown hK hP 10 cW_L rfl 7 (by decide) (hT _ wd_68) (fun _ h9 => h9) rfl d_CharacterList_childrenOf_8 ?_
    refine lv_icmp_ge (tgt := 59) hx hb d_CharacterList_childrenOf_11 rfl (fun h => ?_) (fun h => ?_)
    · replace hm := xi_pos h hm
      refine lv_lload_n hx hb d_CharacterList_childrenOf_59 rfl (lv_at hl 3 rfl) ?_
      exact hret hm hS d_CharacterList_childrenOf_60
    · replace hm := xi_neg h hm
      refine lv_aload_n hx hb d_CharacterList_childrenOf_14 rfl (lv_at hl 0 rfl) ?_
      refine va_get (D := (dC, dI)) (ci := 0) (v := .ref (ad 11)) (C := "EventGraphText$CharacterList") (T := T_CharacterList) (N := 8) hx hb hT hin_CharacterList hown hK hP 10 cW_L rfl 0 (by decide) (hT _ wd_61) (fun _ h9 => h9) rfl d_CharacterList_childrenOf_15 ?_
      refine lv_iload hx hb d_CharacterList_childrenOf_18 (lv_at hl 4 rfl) ?_
      obtain ⟨g1, hm⟩ := xg_some hm
      refine va_iald hx hb hK hP 11 0 cW_L_order rfl g1 d_CharacterList_childrenOf_20 ?_
      refine lv_istore (lv' := [(6, .int (xs_I u 6 b5.toNatClampNeg)), (0, .ref (ad 10)), (1, .int b1), (2, .int b2), (3, .long b3), (5, .int b5)]) hx hb d_CharacterList_childrenOf_21 hl (Nat.le_of_ble_eq_true rfl) rfl (fun ls hl => ?_)
      refine lv_aload_n hx hb d_CharacterList_childrenOf_23 rfl (lv_at hl 1 rfl) ?_
      refine va_get (D := (dC, dI)) (ci := 0) (v := .ref (ad 12)) (C := "EventGraphText$CharacterList") (T := T_CharacterList) (N := 8) hx hb hT hin_CharacterList hown hK hP 10 cW_L rfl 1 (by decide) (hT _ wd_62) (fun _ h9 => h9) rfl d_CharacterList_childrenOf_24 ?_
      refine lv_iload hx hb d_CharacterList_childrenOf_27 (lv_at hl 0 rfl) ?_
      obtain ⟨g2, hm⟩ := xg_some hm
      refine va_iald hx hb hK hP 12 0 cW_L_holders rfl g2 d_CharacterList_childrenOf_29 ?_
      refine lv_iload_n hx hb d_CharacterList_childrenOf_30 rfl (lv_at hl 2 rfl) ?_
      refine lv_icmp_ne (tgt := 53) hx hb d_CharacterList_childrenOf_31 rfl (fun h => ?_) (fun h => ?_)
      · replace hm := xi_neg h hm
        refine lv_iinc (k := 5) (v := (b5 + (1 : Int32))) (lv' := [(5, .int (b5 + (1 : Int32))), (6, .int (xs_I u 6 b5.toNatClampNeg)), (0, .ref (ad 10)), (1, .int b1), (2, .int b2), (3, .long b3)]) hx hb d_CharacterList_childrenOf_53 hl rfl rfl (Nat.le_of_ble_eq_true rfl) rfl (fun ls hl => ?_)
        refine lv_goto (tgt := 5) hx hb d_CharacterList_childrenOf_56 rfl ?_
        exact hk5 b1 b2 b3 (b5 + (1 : Int32)) _ _ _ (lv_sub hl [2, 3, 4, 5, 0] rfl) hP hS hm
      · replace hm := xi_pos h hm
        refine lv_aload_n hx hb d_CharacterList_childrenOf_34 rfl (lv_at hl 1 rfl) ?_
        refine va_get (D := (dC, dI)) (ci := 0) (v := .ref (ad 13)) (C := "EventGraphText$CharacterList") (T := T_CharacterList) (N := 8) hx hb hT hin_CharacterList hown hK hP 10 cW_L rfl 2 (by decide) (hT _ wd_63) (fun _ h9 => h9) rfl d_CharacterList_childrenOf_35 ?_
        refine lv_iload hx hb d_CharacterList_childrenOf_38 (lv_at hl 0 rfl) ?_
        refine va_zald hx hb hK hP 13 2 cW_L_onTheRight rfl g2 d_CharacterList_childrenOf_40 ?_
        refine lv_iload_n hx hb d_CharacterList_childrenOf_41 rfl (lv_at hl 3 rfl) ?_
        refine lv_icmp_ne (tgt := 53) hx hb d_CharacterList_childrenOf_42 rfl (fun h => ?_) (fun h => ?_)
        · replace hm := xi_neg h hm
          refine lv_iinc (k := 5) (v := (b5 + (1 : Int32))) (lv' := [(5, .int (b5 + (1 : Int32))), (6, .int (xs_I u 6 b5.toNatClampNeg)), (0, .ref (ad 10)), (1, .int b1), (2, .int b2), (3, .long b3)]) hx hb d_CharacterList_childrenOf_53 hl rfl rfl (Nat.le_of_ble_eq_true rfl) rfl (fun ls hl => ?_)
          refine lv_goto (tgt := 5) hx hb d_CharacterList_childrenOf_56 rfl ?_
          exact hk5 b1 b2 b3 (b5 + (1 : Int32)) _ _ _ (lv_sub hl [2, 3, 4, 5, 0] rfl) hP hS hm
        · replace hm := xi_pos h hm
          refine lv_lload_n hx hb d_CharacterList_childrenOf_45 rfl (lv_at hl 4 rfl) ?_
          refine lv_iload hx hb d_CharacterList_childrenOf_46 (lv_at hl 0 rfl) ?_
          obtain ⟨r48, h48, hm⟩ := xb1_some hm
          refine xc_l (va_runSN (As := [.int (xs_I u 6 b5.toNatClampNeg)]) (rest := [.long b3]) ⟨hx, hb, hml, hown, hts⟩ (c_Text_bit l (xs_I u 6 b5.toNatClampNeg) r48 h48) ⟨va_cnB 1 hts (xg0 wd_220) rfl rfl rfl (nmm_8 hN) (hT _ wd_1) pd_Text_bit.2 ⟨Nat.le_of_ble_eq_true rfl, Nat.le_of_ble_eq_true rfl⟩, hT _ wd_219, trivial⟩ xpreS0 rfl rfl hl.1 rfl (lv_room (Nat.le_of_ble_eq_true rfl)) d_CharacterList_childrenOf_48 ⟨Nat.le_of_ble_eq_true rfl, Nat.le_of_ble_eq_true rfl⟩) hP hS (fun H locs hP hS => ?_)
          refine lv_lor hx hb d_CharacterList_childrenOf_51 ?_
          refine lv_lstore_n (lv' := [(3, .long (b3 ||| r48)), (6, .int (xs_I u 6 b5.toNatClampNeg)), (0, .ref (ad 10)), (1, .int b1), (2, .int b2), (5, .int b5)]) hx hb d_CharacterList_childrenOf_52 rfl hl (Nat.le_of_ble_eq_true rfl) rfl (fun ls hl => ?_)
          refine lv_iinc (k := 5) (v := (b5 + (1 : Int32))) (lv' := [(5, .int (b5 + (1 : Int32))), (3, .long (b3 ||| r48)), (6, .int (xs_I u 6 b5.toNatClampNeg)), (0, .ref (ad 10)), (1, .int b1), (2, .int b2)]) hx hb d_CharacterList_childrenOf_53 hl rfl rfl (Nat.le_of_ble_eq_true rfl) rfl (fun ls hl => ?_)
          refine lv_goto (tgt := 5) hx hb d_CharacterList_childrenOf_56 rfl ?_
          exact hk5 b1 b2 (b3 ||| r48) (b5 + (1 : Int32)) _ _ _ (lv_sub hl [3, 4, 5, 1, 0] rfl) hP hS hm
  have hl5 : ∀ (fu : Nat), ∀ (b1 : Int32) (b2 : Int32) (b3 : Int64) (b5 : Int32) (H : Heap) (locs : List Loc) (ls : Array Slot), lv_has ls 7 [(0, .ref (ad 10)), (1, .int b1), (2, .int b2), (3, .long b3), (5, .int b5)] → va_P (dC, dI) xCl (cW dT ad u) H → va_S xN s.heap H locs → m_CharacterList_childrenOf_l5 fu b1 b2 b3 b5 u = some out → W p l e (xrm 1 20) s m args below meth c H locs 0 0 Q (F0 m 5 ls []) := by
    intro fu
    induction fu with
    | zero => intro b1 b2 b3 b5 H locs ls hl hP hS hm; exact absurd hm (fun z => by cases z)
    | succ n ih => intro b1 b2 b3 b5 H locs ls hl hP hS hm; exact hs5 (m_CharacterList_childrenOf_l5 n) ih b1 b2 b3 b5 H locs ls hl hP hS hm
  unfold m_CharacterList_childrenOf at hm
  refine lv_lconst (v := (0 : Int64)) hx hb d_CharacterList_childrenOf_0 (by decide) ?_
  refine lv_lstore_n (lv' := [(3, .long (0 : Int64)), (0, .ref (ad 10)), (1, .int a1), (2, .int a2)]) hx hb d_CharacterList_childrenOf_1 rfl hl (Nat.le_of_ble_eq_true rfl) rfl (fun ls hl => ?_)
  refine lv_iconst (v := (0 : Int32)) hx hb d_CharacterList_childrenOf_2 (by decide) ?_
  refine lv_istore (lv' := [(5, .int (0 : Int32)), (3, .long (0 : Int64)), (0, .ref (ad 10)), (1, .int a1), (2, .int a2)]) hx hb d_CharacterList_childrenOf_3 hl (Nat.le_of_ble_eq_true rfl) rfl (fun ls hl => ?_)
  exact hl5 xFU a1 a2 (0 : Int64) (0 : Int32) _ _ _ (lv_sub hl [2, 3, 4, 1, 0] rfl) hP hS hm
set_option maxHeartbeats 4000000 in
set_option maxRecDepth 100000 in
theorem c_CharacterList_nextBehind (l : Launch) (dC : Nat → ClassId) (dI : Nat → Nat → Nat) (dT : Nat → ClassId) (ad : Nat → Nat) (a1 : Int32) (a2 : Int64) (u : xS) (out : Int32) (hm : m_CharacterList_nextBehind a1 a2 u = some out) : Met l y_CharacterList_nextBehind (Cond.code y_CharacterList_nextBehind b_CharacterList_nextBehind 6 (some .int) :: xG) (xrm 2 42) (va_Pc [.ref (ad 10), .int a1, .long a2] (xR (dC, dI) xCl (xT dT) (cW dT ad u))) (va_Qi (fun r9 (_ : Unit) => r9 = out) (fun _ _ => True) xN) 0 0 xN := by
  refine xm_roi (cc := b_CharacterList_nextBehind) (maxL := 6) (by decide) rfl (Nat.le_of_ble_eq_true rfl) ?_
  intro p e s m args below meth c Q ls hx hb hml hts hown hK hN hP hl hret
  have hT : ∀ w ∈ xG, w.before args s = true := fun w h => hts w (List.mem_cons_of_mem _ h)
  have hown : s.vm.findClass "EventGraphText$CharacterList" = some m.cls := hown
  have hl : lv_has ls 6 [(0, .ref (ad 10)), (1, .int a1), (2, .long a2)] := hl
  have hS : va_S xN s.heap s.heap [] := va_S.rf
  have hb51 : ∀ (k15 : Int32 → Int64 → Int32 → Int32 → xS → Option Int32) (hk15 : ∀ (b1 : Int32) (b2 : Int64) (b4 : Int32) (b5 : Int32) (H : Heap) (locs : List Loc) (ls : Array Slot), lv_has ls 6 [(0, .ref (ad 10)), (1, .int b1), (2, .long b2), (4, .int b4), (5, .int b5)] → va_P (dC, dI) xCl (cW dT ad u) H → va_S xN s.heap H locs → k15 b1 b2 b4 b5 u = some out → W p l e (xrm 2 42) s m args below meth c H locs 0 0 Q (F0 m 15 ls [])), ∀ (b1 : Int32) (b2 : Int64) (b4 : Int32) (b5 : Int32) (H : Heap) (locs : List Loc) (ls : Array Slot), lv_has ls 6 [(0, .ref (ad 10)), (1, .int b1), (2, .long b2), (4, .int b4), (5, .int b5)] → va_P (dC, dI) xCl (cW dT ad u) H → va_S xN s.heap H locs → m_CharacterList_nextBehind_b51 k15 b1 b2 b4 b5 u = some out → W p l e (xrm 2 42) s m args below meth c H locs 0 0 Q (F0 m 51 ls []) := by
    intro k15 hk15 b1 b2 b4 b5 H locs ls hl hP hS hm
    unfold m_CharacterList_nextBehind_b51 at hm
    refine lv_iload hx hb d_CharacterList_nextBehind_51 (lv_at hl 3 rfl) ?_
    refine lv_if_ne (tgt := 67) hx hb d_CharacterList_nextBehind_53 rfl (fun h => ?_) (fun h => ?_)
    · replace hm := xi_neg h hm
      refine lv_iconst (v := (1 : Int32)) hx hb d_CharacterList_nextBehind_67 (by decide) ?_
      refine lv_goto (tgt := 72) hx hb d_CharacterList_nextBehind_68 rfl ?_
      refine lv_istore (lv' := [(4, .int (1 : Int32)), (0, .ref (ad 10)), (1, .int b1), (2, .long b2), (5, .int b5)]) hx hb d_CharacterList_nextBehind_72 hl (Nat.le_of_ble_eq_true rfl) rfl (fun ls hl => ?_)
      refine lv_iinc (k := 4) (v := (b5 + (1 : Int32))) (lv' := [(5, .int (b5 + (1 : Int32))), (4, .int (1 : Int32)), (0, .ref (ad 10)), (1, .int b1), (2, .long b2)]) hx hb d_CharacterList_nextBehind_74 hl rfl rfl (Nat.le_of_ble_eq_true rfl) rfl (fun ls hl => ?_)
      refine lv_goto (tgt := 15) hx hb d_CharacterList_nextBehind_77 rfl ?_
      exact hk15 b1 b2 (1 : Int32) (b5 + (1 : Int32)) _ _ _ (lv_sub hl [2, 3, 4, 1, 0] rfl) hP hS hm
    · replace hm := xi_pos h hm
      refine lv_aload_n hx hb d_CharacterList_nextBehind_56 rfl (lv_at hl 0 rfl) ?_
      refine va_get (D := (dC, dI)) (ci := 0) (v := .ref (ad 11)) (C := "EventGraphText$CharacterList") (T := T_CharacterList) (N := 8) hx hb hT hin_CharacterList hown hK hP 10 cW_L rfl 0 (by decide) (hT _ wd_61) (fun _ h9 => h9) rfl d_CharacterList_nextBehind_57 ?_
      refine lv_iload hx hb d_CharacterList_nextBehind_60 (lv_at hl 4 rfl) ?_
      obtain ⟨g1, hm⟩ := xg_some hm
      refine va_iald hx hb hK hP 11 0 cW_L_order rfl g1 d_CharacterList_nextBehind_62 ?_
      refine lv_iload_n hx hb d_CharacterList_nextBehind_63 rfl (lv_at hl 1 rfl) ?_
      refine lv_icmp_ne (tgt := 71) hx hb d_CharacterList_nextBehind_64 rfl (fun h => ?_) (fun h => ?_)
      · replace hm := xi_neg h hm
        refine lv_iconst (v := (0 : Int32)) hx hb d_CharacterList_nextBehind_71 (by decide) ?_
        refine lv_istore (lv' := [(4, .int (0 : Int32)), (0, .ref (ad 10)), (1, .int b1), (2, .long b2), (5, .int b5)]) hx hb d_CharacterList_nextBehind_72 hl (Nat.le_of_ble_eq_true rfl) rfl (fun ls hl => ?_)
        refine lv_iinc (k := 4) (v := (b5 + (1 : Int32))) (lv' := [(5, .int (b5 + (1 : Int32))), (4, .int (0 : Int32)), (0, .ref (ad 10)), (1, .int b1), (2, .long b2)]) hx hb d_CharacterList_nextBehind_74 hl rfl rfl (Nat.le_of_ble_eq_true rfl) rfl (fun ls hl => ?_)
        refine lv_goto (tgt := 15) hx hb d_CharacterList_nextBehind_77 rfl ?_
        exact hk15 b1 b2 (0 : Int32) (b5 + (1 : Int32)) _ _ _ (lv_sub hl [2, 3, 4, 1, 0] rfl) hP hS hm
      · replace hm := xi_pos h hm
        refine lv_iconst (v := (1 : Int32)) hx hb d_CharacterList_nextBehind_67 (by decide) ?_
        refine lv_goto (tgt := 72) hx hb d_CharacterList_nextBehind_68 rfl ?_
        refine lv_istore (lv' := [(4, .int (1 : Int32)), (0, .ref (ad 10)), (1, .int b1), (2, .long b2), (5, .int b5)]) hx hb d_CharacterList_nextBehind_72 hl (Nat.le_of_ble_eq_true rfl) rfl (fun ls hl => ?_)
        refine lv_iinc (k := 4) (v := (b5 + (1 : Int32))) (lv' := [(5, .int (b5 + (1 : Int32))), (4, .int (1 : Int32)), (0, .ref (ad 10)), (1, .int b1), (2, .long b2)]) hx hb d_CharacterList_nextBehind_74 hl rfl rfl (Nat.le_of_ble_eq_true rfl) rfl (fun ls hl => ?_)
        refine lv_goto (tgt := 15) hx hb d_CharacterList_nextBehind_77 rfl ?_
        exact hk15 b1 b2 (1 : Int32) (b5 + (1 : Int32)) _ _ _ (lv_sub hl [2, 3, 4, 1, 0] rfl) hP hS hm
  have hs15 : ∀ (k15 : Int32 → Int64 → Int32 → Int32 → xS → Option Int32) (hk15 : ∀ (b1 : Int32) (b2 : Int64) (b4 : Int32) (b5 : Int32) (H : Heap) (locs : List Loc) (ls : Array Slot), lv_has ls 6 [(0, .ref (ad 10)), (1, .int b1), (2, .long b2), (4, .int b4), (5, .int b5)] → va_P (dC, dI) xCl (cW dT ad u) H → va_S xN s.heap H locs → k15 b1 b2 b4 b5 u = some out → W p l e (xrm 2 42) s m args below meth c H locs 0 0 Q (F0 m 15 ls [])), ∀ (b1 : Int32) (b2 : Int64) (b4 : Int32) (b5 : Int32) (H : Heap) (locs : List Loc) (ls : Array Slot), lv_has ls 6 [(0, .ref (ad 10)), (1, .int b1), (2, .long b2), (4, .int b4), (5, .int b5)] → va_P (dC, dI) xCl (cW dT ad u) H → va_S xN s.heap H locs → m_CharacterList_nextBehind_s15 k15 b1 b2 b4 b5 u = some out → W p l e (xrm 2 42) s m args below meth c H locs 0 0 Q (F0 m 15 ls []) := by
    intro k15 hk15 b1 b2 b4 b5 H locs ls hl hP hS hm
    unfold m_CharacterList_nextBehind_s15 at hm
    refine lv_iload hx hb d_CharacterList_nextBehind_15 (lv_at hl 4 rfl) ?_
    refine lv_aload_n hx hb d_CharacterList_nextBehind_17 rfl (lv_at hl 0 rfl) ?_
    refine va_get (D := (dC, dI)) (ci := 0) (v := .int (xs_i u 1)) (C := "EventGraphText$CharacterList") (T := T_CharacterList) (N := 8) hx hb hT hin_CharacterList hown hK hP 10 cW_L rfl 7 (by decide) (hT _ wd_68) (fun _ h9 => h9) rfl d_CharacterList_nextBehind_18 ?_
    refine lv_icmp_ge (tgt := 80) hx hb d_CharacterList_nextBehind_21 rfl (fun h => ?_) (fun h => ?_)
    · replace hm := xi_pos h hm
      refine lv_iconst (v := (-1 : Int32)) hx hb d_CharacterList_nextBehind_80 (by decide) ?_
      exact hret hm hS d_CharacterList_nextBehind_81
    · replace hm := xi_neg h hm
      refine lv_iload hx hb d_CharacterList_nextBehind_24 (lv_at hl 3 rfl) ?_
      refine lv_if_eq (tgt := 51) hx hb d_CharacterList_nextBehind_26 rfl (fun h => ?_) (fun h => ?_)
      · replace hm := xi_pos h hm
        exact hb51 k15 hk15 b1 b2 b4 b5 _ _ _ (lv_sub hl [0, 1, 2, 3, 4] rfl) hP hS hm
      · replace hm := xi_neg h hm
        refine lv_lload_n hx hb d_CharacterList_nextBehind_29 rfl (lv_at hl 2 rfl) ?_
        refine lv_aload_n hx hb d_CharacterList_nextBehind_30 rfl (lv_at hl 0 rfl) ?_
        refine va_get (D := (dC, dI)) (ci := 0) (v := .ref (ad 11)) (C := "EventGraphText$CharacterList") (T := T_CharacterList) (N := 8) hx hb hT hin_CharacterList hown hK hP 10 cW_L rfl 0 (by decide) (hT _ wd_61) (fun _ h9 => h9) rfl d_CharacterList_nextBehind_31 ?_
        refine lv_iload hx hb d_CharacterList_nextBehind_34 (lv_at hl 4 rfl) ?_
        obtain ⟨g2, hm⟩ := xg_some hm
        refine va_iald hx hb hK hP 11 0 cW_L_order rfl g2 d_CharacterList_nextBehind_36 ?_
        obtain ⟨r37, h37, hm⟩ := xb1_some hm
        refine xc_i (va_runSN (As := [.long b2, .int (xs_I u 6 b5.toNatClampNeg)]) (rest := []) ⟨hx, hb, hml, hown, hts⟩ (c_Text_has l b2 (xs_I u 6 b5.toNatClampNeg) r37 h37) ⟨va_cnB 2 hts (xg0 wd_217) rfl rfl rfl (nmm_7 hN) (hT _ wd_1) pd_Text_has.2 ⟨Nat.le_of_ble_eq_true rfl, Nat.le_of_ble_eq_true rfl⟩, hT _ wd_216, trivial⟩ xpreS0 rfl rfl hl.1 rfl (lv_room (Nat.le_of_ble_eq_true rfl)) d_CharacterList_nextBehind_37 ⟨Nat.le_of_ble_eq_true rfl, Nat.le_of_ble_eq_true rfl⟩) hP hS (fun H locs hP hS => ?_)
        refine lv_if_eq (tgt := 51) hx hb d_CharacterList_nextBehind_40 rfl (fun h => ?_) (fun h => ?_)
        · replace hm := xi_pos h hm
          exact hb51 k15 hk15 b1 b2 b4 b5 _ _ _ (lv_sub hl [0, 1, 2, 3, 4] rfl) hP hS hm
        · replace hm := xi_neg h hm
          refine lv_aload_n hx hb d_CharacterList_nextBehind_43 rfl (lv_at hl 0 rfl) ?_
          refine va_get (D := (dC, dI)) (ci := 0) (v := .ref (ad 11)) (C := "EventGraphText$CharacterList") (T := T_CharacterList) (N := 8) hx hb hT hin_CharacterList hown hK hP 10 cW_L rfl 0 (by decide) (hT _ wd_61) (fun _ h9 => h9) rfl d_CharacterList_nextBehind_44 ?_
          refine lv_iload hx hb d_CharacterList_nextBehind_47 (lv_at hl 4 rfl) ?_
          refine va_iald hx hb hK hP 11 0 cW_L_order rfl g2 d_CharacterList_nextBehind_49 ?_
          exact hret hm hS d_CharacterList_nextBehind_50
  have hl15 : ∀ (fu : Nat), ∀ (b1 : Int32) (b2 : Int64) (b4 : Int32) (b5 : Int32) (H : Heap) (locs : List Loc) (ls : Array Slot), lv_has ls 6 [(0, .ref (ad 10)), (1, .int b1), (2, .long b2), (4, .int b4), (5, .int b5)] → va_P (dC, dI) xCl (cW dT ad u) H → va_S xN s.heap H locs → m_CharacterList_nextBehind_l15 fu b1 b2 b4 b5 u = some out → W p l e (xrm 2 42) s m args below meth c H locs 0 0 Q (F0 m 15 ls []) := by
    intro fu
    induction fu with
    | zero => intro b1 b2 b4 b5 H locs ls hl hP hS hm; exact absurd hm (fun z => by cases z)
    | succ n ih => intro b1 b2 b4 b5 H locs ls hl hP hS hm; exact hs15 (m_CharacterList_nextBehind_l15 n) ih b1 b2 b4 b5 H locs ls hl hP hS hm
  unfold m_CharacterList_nextBehind at hm
  refine lv_iload_n hx hb d_CharacterList_nextBehind_0 rfl (lv_at hl 1 rfl) ?_
  refine lv_iconst (v := (-1 : Int32)) hx hb d_CharacterList_nextBehind_1 (by decide) ?_
  refine lv_icmp_ne (tgt := 9) hx hb d_CharacterList_nextBehind_2 rfl (fun h => ?_) (fun h => ?_)
  · replace hm := xi_neg h hm
    refine lv_iconst (v := (0 : Int32)) hx hb d_CharacterList_nextBehind_9 (by decide) ?_
    refine lv_istore (lv' := [(4, .int (0 : Int32)), (0, .ref (ad 10)), (1, .int a1), (2, .long a2)]) hx hb d_CharacterList_nextBehind_10 hl (Nat.le_of_ble_eq_true rfl) rfl (fun ls hl => ?_)
    refine lv_iconst (v := (0 : Int32)) hx hb d_CharacterList_nextBehind_12 (by decide) ?_
    refine lv_istore (lv' := [(5, .int (0 : Int32)), (4, .int (0 : Int32)), (0, .ref (ad 10)), (1, .int a1), (2, .long a2)]) hx hb d_CharacterList_nextBehind_13 hl (Nat.le_of_ble_eq_true rfl) rfl (fun ls hl => ?_)
    exact hl15 xFU a1 a2 (0 : Int32) (0 : Int32) _ _ _ (lv_sub hl [2, 3, 4, 1, 0] rfl) hP hS hm
  · replace hm := xi_pos h hm
    refine lv_iconst (v := (1 : Int32)) hx hb d_CharacterList_nextBehind_5 (by decide) ?_
    refine lv_goto (tgt := 10) hx hb d_CharacterList_nextBehind_6 rfl ?_
    refine lv_istore (lv' := [(4, .int (1 : Int32)), (0, .ref (ad 10)), (1, .int a1), (2, .long a2)]) hx hb d_CharacterList_nextBehind_10 hl (Nat.le_of_ble_eq_true rfl) rfl (fun ls hl => ?_)
    refine lv_iconst (v := (0 : Int32)) hx hb d_CharacterList_nextBehind_12 (by decide) ?_
    refine lv_istore (lv' := [(5, .int (0 : Int32)), (4, .int (1 : Int32)), (0, .ref (ad 10)), (1, .int a1), (2, .long a2)]) hx hb d_CharacterList_nextBehind_13 hl (Nat.le_of_ble_eq_true rfl) rfl (fun ls hl => ?_)
    exact hl15 xFU a1 a2 (1 : Int32) (0 : Int32) _ _ _ (lv_sub hl [2, 3, 4, 1, 0] rfl) hP hS hm
set_option maxHeartbeats 4000000 in
set_option maxRecDepth 100000 in
theorem c_History_comesBefore (l : Launch) (dC : Nat → ClassId) (dI : Nat → Nat → Nat) (dT : Nat → ClassId) (ad : Nat → Nat) (a1 : Int32) (a2 : Int32) (u : xS) (out : Int32) (hm : m_History_comesBefore a1 a2 u = some out) : Met l y_History_comesBefore (Cond.code y_History_comesBefore b_History_comesBefore 3 (some .boolean) :: xG) (xrm 0 0) (va_Pc [.ref (ad 1), .int a1, .int a2] (xR (dC, dI) xCl (xT dT) (cW dT ad u))) (va_Qi (fun r9 (_ : Unit) => r9 = out) (fun _ _ => True) xN) 0 0 xN := by
  refine xm_roz (cc := b_History_comesBefore) (maxL := 3) (by decide) rfl (Nat.le_of_ble_eq_true rfl) ?_
  intro p e s m args below meth c Q ls hx hb hml hts hown hK hN hP hl hret
  have hT : ∀ w ∈ xG, w.before args s = true := fun w h => hts w (List.mem_cons_of_mem _ h)
  have hown : s.vm.findClass "EventGraphText$History" = some m.cls := hown
  have hl : lv_has ls 3 [(0, .ref (ad 1)), (1, .int a1), (2, .int a2)] := hl
  have hS : va_S xN s.heap s.heap [] := va_S.rf
  unfold m_History_comesBefore at hm
  refine lv_aload_n hx hb d_History_comesBefore_0 rfl (lv_at hl 0 rfl) ?_
  refine va_get (D := (dC, dI)) (ci := 1) (v := .ref (ad 2)) (C := "EventGraphText$History") (T := T_History) (N := 9) hx hb hT hin_History hown hK hP 1 cW_H rfl 0 (by decide) (hT _ wd_25) (fun _ h9 => h9) rfl d_History_comesBefore_1 ?_
  refine lv_iload_n hx hb d_History_comesBefore_4 rfl (lv_at hl 1 rfl) ?_
  obtain ⟨g1, hm⟩ := xg_some hm
  refine va_iald hx hb hK hP 2 0 cW_H_sites rfl g1 d_History_comesBefore_5 ?_
  refine lv_aload_n hx hb d_History_comesBefore_6 rfl (lv_at hl 0 rfl) ?_
  refine va_get (D := (dC, dI)) (ci := 1) (v := .ref (ad 2)) (C := "EventGraphText$History") (T := T_History) (N := 9) hx hb hT hin_History hown hK hP 1 cW_H rfl 0 (by decide) (hT _ wd_25) (fun _ h9 => h9) rfl d_History_comesBefore_7 ?_
  refine lv_iload_n hx hb d_History_comesBefore_10 rfl (lv_at hl 2 rfl) ?_
  obtain ⟨g2, hm⟩ := xg_some hm
  refine va_iald hx hb hK hP 2 0 cW_H_sites rfl g2 d_History_comesBefore_11 ?_
  refine lv_icmp_eq (tgt := 36) hx hb d_History_comesBefore_12 rfl (fun h => ?_) (fun h => ?_)
  · replace hm := xi_pos h hm
    refine lv_aload_n hx hb d_History_comesBefore_36 rfl (lv_at hl 0 rfl) ?_
    refine va_get (D := (dC, dI)) (ci := 1) (v := .ref (ad 3)) (C := "EventGraphText$History") (T := T_History) (N := 9) hx hb hT hin_History hown hK hP 1 cW_H rfl 1 (by decide) (hT _ wd_26) (fun _ h9 => h9) rfl d_History_comesBefore_37 ?_
    refine lv_iload_n hx hb d_History_comesBefore_40 rfl (lv_at hl 1 rfl) ?_
    refine va_iald hx hb hK hP 3 0 cW_H_numbers rfl g1 d_History_comesBefore_41 ?_
    refine lv_aload_n hx hb d_History_comesBefore_42 rfl (lv_at hl 0 rfl) ?_
    refine va_get (D := (dC, dI)) (ci := 1) (v := .ref (ad 3)) (C := "EventGraphText$History") (T := T_History) (N := 9) hx hb hT hin_History hown hK hP 1 cW_H rfl 1 (by decide) (hT _ wd_26) (fun _ h9 => h9) rfl d_History_comesBefore_43 ?_
    refine lv_iload_n hx hb d_History_comesBefore_46 rfl (lv_at hl 2 rfl) ?_
    refine va_iald hx hb hK hP 3 0 cW_H_numbers rfl g2 d_History_comesBefore_47 ?_
    refine lv_icmp_ge (tgt := 55) hx hb d_History_comesBefore_48 rfl (fun h => ?_) (fun h => ?_)
    · replace hm := xi_pos h hm
      refine lv_iconst (v := (0 : Int32)) hx hb d_History_comesBefore_55 (by decide) ?_
      exact hret hm rfl hS d_History_comesBefore_56
    · replace hm := xi_neg h hm
      refine lv_iconst (v := (1 : Int32)) hx hb d_History_comesBefore_51 (by decide) ?_
      refine lv_goto (tgt := 56) hx hb d_History_comesBefore_52 rfl ?_
      exact hret hm rfl hS d_History_comesBefore_56
  · replace hm := xi_neg h hm
    refine lv_aload_n hx hb d_History_comesBefore_15 rfl (lv_at hl 0 rfl) ?_
    refine va_get (D := (dC, dI)) (ci := 1) (v := .ref (ad 2)) (C := "EventGraphText$History") (T := T_History) (N := 9) hx hb hT hin_History hown hK hP 1 cW_H rfl 0 (by decide) (hT _ wd_25) (fun _ h9 => h9) rfl d_History_comesBefore_16 ?_
    refine lv_iload_n hx hb d_History_comesBefore_19 rfl (lv_at hl 1 rfl) ?_
    refine va_iald hx hb hK hP 2 0 cW_H_sites rfl g1 d_History_comesBefore_20 ?_
    refine lv_aload_n hx hb d_History_comesBefore_21 rfl (lv_at hl 0 rfl) ?_
    refine va_get (D := (dC, dI)) (ci := 1) (v := .ref (ad 2)) (C := "EventGraphText$History") (T := T_History) (N := 9) hx hb hT hin_History hown hK hP 1 cW_H rfl 0 (by decide) (hT _ wd_25) (fun _ h9 => h9) rfl d_History_comesBefore_22 ?_
    refine lv_iload_n hx hb d_History_comesBefore_25 rfl (lv_at hl 2 rfl) ?_
    refine va_iald hx hb hK hP 2 0 cW_H_sites rfl g2 d_History_comesBefore_26 ?_
    refine lv_icmp_ge (tgt := 34) hx hb d_History_comesBefore_27 rfl (fun h => ?_) (fun h => ?_)
    · replace hm := xi_pos h hm
      refine lv_iconst (v := (0 : Int32)) hx hb d_History_comesBefore_34 (by decide) ?_
      exact hret hm rfl hS d_History_comesBefore_35
    · replace hm := xi_neg h hm
      refine lv_iconst (v := (1 : Int32)) hx hb d_History_comesBefore_30 (by decide) ?_
      refine lv_goto (tgt := 35) hx hb d_History_comesBefore_31 rfl ?_
      exact hret hm rfl hS d_History_comesBefore_35
set_option maxHeartbeats 4000000 in
set_option maxRecDepth 100000 in
theorem c_CharacterList_nearerSiblings (l : Launch) (dC : Nat → ClassId) (dI : Nat → Nat → Nat) (dT : Nat → ClassId) (ad : Nat → Nat) (a2 : Int32) (a3 : Int32) (a4 : Int32) (u : xS) (out : Int64) (hm : m_CharacterList_nearerSiblings a2 a3 a4 u = some out) : Met l y_CharacterList_nearerSiblings (Cond.code y_CharacterList_nearerSiblings b_CharacterList_nearerSiblings 11 (some .long) :: xG) (xrm 2 46) (va_Pc [.ref (ad 10), .ref (ad 1), .int a2, .int a3, .int a4] (xR (dC, dI) xCl (xT dT) (cW dT ad u))) (va_Ql (fun r9 (_ : Unit) => r9 = out) (fun _ _ => True) xN) 0 0 xN := by
  refine xm_roj (cc := b_CharacterList_nearerSiblings) (maxL := 11) (by decide) rfl (Nat.le_of_ble_eq_true rfl) ?_
  intro p e s m args below meth c Q ls hx hb hml hts hown hK hN hP hl hret
  have hT : ∀ w ∈ xG, w.before args s = true := fun w h => hts w (List.mem_cons_of_mem _ h)
  have hown : s.vm.findClass "EventGraphText$CharacterList" = some m.cls := hown
  have hl : lv_has ls 11 [(0, .ref (ad 10)), (1, .ref (ad 1)), (2, .int a2), (3, .int a3), (4, .int a4)] := hl
  have hS : va_S xN s.heap s.heap [] := va_S.rf
  have hs15 : ∀ (k15 : Int32 → Int32 → Int64 → Int64 → Int32 → xS → Option Int64) (hk15 : ∀ (b2 : Int32) (b4 : Int32) (b5 : Int64) (b7 : Int64) (b9 : Int32) (H : Heap) (locs : List Loc) (ls : Array Slot), lv_has ls 11 [(0, .ref (ad 10)), (1, .ref (ad 1)), (2, .int b2), (4, .int b4), (5, .long b5), (7, .long b7), (9, .int b9)] → va_P (dC, dI) xCl (cW dT ad u) H → va_S xN s.heap H locs → k15 b2 b4 b5 b7 b9 u = some out → W p l e (xrm 2 46) s m args below meth c H locs 0 0 Q (F0 m 15 ls [])), ∀ (b2 : Int32) (b4 : Int32) (b5 : Int64) (b7 : Int64) (b9 : Int32) (H : Heap) (locs : List Loc) (ls : Array Slot), lv_has ls 11 [(0, .ref (ad 10)), (1, .ref (ad 1)), (2, .int b2), (4, .int b4), (5, .long b5), (7, .long b7), (9, .int b9)] → va_P (dC, dI) xCl (cW dT ad u) H → va_S xN s.heap H locs → m_CharacterList_nearerSiblings_s15 k15 b2 b4 b5 b7 b9 u = some out → W p l e (xrm 2 46) s m args below meth c H locs 0 0 Q (F0 m 15 ls []) := by
    intro k15 hk15 b2 b4 b5 b7 b9 H locs ls hl hP hS hm
    unfold m_CharacterList_nearerSiblings_s15 at hm
    refine lv_iload hx hb d_CharacterList_nearerSiblings_15 (lv_at hl 6 rfl) ?_
    refine lv_aload_n hx hb d_CharacterList_nearerSiblings_17 rfl (lv_at hl 0 rfl) ?_
    refine va_get (D := (dC, dI)) (ci := 0) (v := .int (xs_i u 1)) (C := "EventGraphText$CharacterList") (T := T_CharacterList) (N := 8) hx hb hT hin_CharacterList hown hK hP 10 cW_L rfl 7 (by decide) (hT _ wd_68) (fun _ h9 => h9) rfl d_CharacterList_nearerSiblings_18 ?_
    refine lv_icmp_ge (tgt := 71) hx hb d_CharacterList_nearerSiblings_21 rfl (fun h => ?_) (fun h => ?_)
    · replace hm := xi_pos h hm
      refine lv_lload hx hb d_CharacterList_nearerSiblings_71 (lv_at hl 5 rfl) ?_
      exact hret hm hS d_CharacterList_nearerSiblings_73
    · replace hm := xi_neg h hm
      refine lv_aload_n hx hb d_CharacterList_nearerSiblings_24 rfl (lv_at hl 0 rfl) ?_
      refine va_get (D := (dC, dI)) (ci := 0) (v := .ref (ad 11)) (C := "EventGraphText$CharacterList") (T := T_CharacterList) (N := 8) hx hb hT hin_CharacterList hown hK hP 10 cW_L rfl 0 (by decide) (hT _ wd_61) (fun _ h9 => h9) rfl d_CharacterList_nearerSiblings_25 ?_
      refine lv_iload hx hb d_CharacterList_nearerSiblings_28 (lv_at hl 6 rfl) ?_
      obtain ⟨g1, hm⟩ := xg_some hm
      refine va_iald hx hb hK hP 11 0 cW_L_order rfl g1 d_CharacterList_nearerSiblings_30 ?_
      refine lv_istore (lv' := [(10, .int (xs_I u 6 b9.toNatClampNeg)), (0, .ref (ad 10)), (1, .ref (ad 1)), (2, .int b2), (4, .int b4), (5, .long b5), (7, .long b7), (9, .int b9)]) hx hb d_CharacterList_nearerSiblings_31 hl (Nat.le_of_ble_eq_true rfl) rfl (fun ls hl => ?_)
      refine lv_lload hx hb d_CharacterList_nearerSiblings_33 (lv_at hl 5 rfl) ?_
      refine lv_iload hx hb d_CharacterList_nearerSiblings_35 (lv_at hl 0 rfl) ?_
      obtain ⟨r37, h37, hm⟩ := xb1_some hm
      refine xc_i (va_runSN (As := [.long b5, .int (xs_I u 6 b9.toNatClampNeg)]) (rest := []) ⟨hx, hb, hml, hown, hts⟩ (c_Text_has l b5 (xs_I u 6 b9.toNatClampNeg) r37 h37) ⟨va_cnB 2 hts (xg0 wd_217) rfl rfl rfl (nmm_7 hN) (hT _ wd_1) pd_Text_has.2 ⟨Nat.le_of_ble_eq_true rfl, Nat.le_of_ble_eq_true rfl⟩, hT _ wd_216, trivial⟩ xpreS0 rfl rfl hl.1 rfl (lv_room (Nat.le_of_ble_eq_true rfl)) d_CharacterList_nearerSiblings_37 ⟨Nat.le_of_ble_eq_true rfl, Nat.le_of_ble_eq_true rfl⟩) hP hS (fun H locs hP hS => ?_)
      refine lv_if_eq (tgt := 65) hx hb d_CharacterList_nearerSiblings_40 rfl (fun h => ?_) (fun h => ?_)
      · replace hm := xi_pos h hm
        refine lv_iinc (k := 7) (v := (b9 + (1 : Int32))) (lv' := [(9, .int (b9 + (1 : Int32))), (10, .int (xs_I u 6 b9.toNatClampNeg)), (0, .ref (ad 10)), (1, .ref (ad 1)), (2, .int b2), (4, .int b4), (5, .long b5), (7, .long b7)]) hx hb d_CharacterList_nearerSiblings_65 hl rfl rfl (Nat.le_of_ble_eq_true rfl) rfl (fun ls hl => ?_)
        refine lv_goto (tgt := 15) hx hb d_CharacterList_nearerSiblings_68 rfl ?_
        exact hk15 b2 b4 b5 b7 (b9 + (1 : Int32)) _ _ _ (lv_sub hl [2, 3, 4, 5, 6, 7, 0] rfl) hP hS hm
      · replace hm := xi_neg h hm
        refine lv_aload_n hx hb d_CharacterList_nearerSiblings_43 rfl (lv_at hl 2 rfl) ?_
        refine lv_iload hx hb d_CharacterList_nearerSiblings_44 (lv_at hl 0 rfl) ?_
        refine lv_iload_n hx hb d_CharacterList_nearerSiblings_46 rfl (lv_at hl 3 rfl) ?_
        obtain ⟨r47, h47, hm⟩ := xb1_some hm
        refine xc_i (va_runV (C := "EventGraphText$History") (As := [.int (xs_I u 6 b9.toNatClampNeg), .int b2]) (rest := []) ⟨hx, hb, hml, hown, hts⟩ (c_History_comesBefore l dC dI dT ad (xs_I u 6 b9.toNatClampNeg) b2 u r47 h47) (cwV 2 hts (xgV wd_267 wd_268 wd_269 wd_2 wd_270) rfl rfl rfl pd_History_comesBefore ⟨Nat.le_of_ble_eq_true rfl, Nat.le_of_ble_eq_true rfl⟩) (xpreV (C := "EventGraphText$History") (T := T_History) (N := 9) hP hK hN rfl cW_H) rfl rfl hl.1 rfl (lv_room (Nat.le_of_ble_eq_true rfl)) d_CharacterList_nearerSiblings_47 ⟨Nat.le_of_ble_eq_true rfl, Nat.le_of_ble_eq_true rfl⟩) hP hS (fun H locs hP hS => ?_)
        refine lv_iload hx hb d_CharacterList_nearerSiblings_50 (lv_at hl 4 rfl) ?_
        refine lv_icmp_ne (tgt := 65) hx hb d_CharacterList_nearerSiblings_52 rfl (fun h => ?_) (fun h => ?_)
        · replace hm := xi_neg h hm
          refine lv_iinc (k := 7) (v := (b9 + (1 : Int32))) (lv' := [(9, .int (b9 + (1 : Int32))), (10, .int (xs_I u 6 b9.toNatClampNeg)), (0, .ref (ad 10)), (1, .ref (ad 1)), (2, .int b2), (4, .int b4), (5, .long b5), (7, .long b7)]) hx hb d_CharacterList_nearerSiblings_65 hl rfl rfl (Nat.le_of_ble_eq_true rfl) rfl (fun ls hl => ?_)
          refine lv_goto (tgt := 15) hx hb d_CharacterList_nearerSiblings_68 rfl ?_
          exact hk15 b2 b4 b5 b7 (b9 + (1 : Int32)) _ _ _ (lv_sub hl [2, 3, 4, 5, 6, 7, 0] rfl) hP hS hm
        · replace hm := xi_pos h hm
          refine lv_lload hx hb d_CharacterList_nearerSiblings_55 (lv_at hl 6 rfl) ?_
          refine lv_iload hx hb d_CharacterList_nearerSiblings_57 (lv_at hl 0 rfl) ?_
          obtain ⟨r59, h59, hm⟩ := xb1_some hm
          refine xc_l (va_runSN (As := [.int (xs_I u 6 b9.toNatClampNeg)]) (rest := [.long b7]) ⟨hx, hb, hml, hown, hts⟩ (c_Text_bit l (xs_I u 6 b9.toNatClampNeg) r59 h59) ⟨va_cnB 1 hts (xg0 wd_220) rfl rfl rfl (nmm_8 hN) (hT _ wd_1) pd_Text_bit.2 ⟨Nat.le_of_ble_eq_true rfl, Nat.le_of_ble_eq_true rfl⟩, hT _ wd_219, trivial⟩ xpreS0 rfl rfl hl.1 rfl (lv_room (Nat.le_of_ble_eq_true rfl)) d_CharacterList_nearerSiblings_59 ⟨Nat.le_of_ble_eq_true rfl, Nat.le_of_ble_eq_true rfl⟩) hP hS (fun H locs hP hS => ?_)
          refine lv_lor hx hb d_CharacterList_nearerSiblings_62 ?_
          refine lv_lstore (lv' := [(7, .long (b7 ||| r59)), (10, .int (xs_I u 6 b9.toNatClampNeg)), (0, .ref (ad 10)), (1, .ref (ad 1)), (2, .int b2), (4, .int b4), (5, .long b5), (9, .int b9)]) hx hb d_CharacterList_nearerSiblings_63 hl (Nat.le_of_ble_eq_true rfl) rfl (fun ls hl => ?_)
          refine lv_iinc (k := 7) (v := (b9 + (1 : Int32))) (lv' := [(9, .int (b9 + (1 : Int32))), (7, .long (b7 ||| r59)), (10, .int (xs_I u 6 b9.toNatClampNeg)), (0, .ref (ad 10)), (1, .ref (ad 1)), (2, .int b2), (4, .int b4), (5, .long b5)]) hx hb d_CharacterList_nearerSiblings_65 hl rfl rfl (Nat.le_of_ble_eq_true rfl) rfl (fun ls hl => ?_)
          refine lv_goto (tgt := 15) hx hb d_CharacterList_nearerSiblings_68 rfl ?_
          exact hk15 b2 b4 b5 (b7 ||| r59) (b9 + (1 : Int32)) _ _ _ (lv_sub hl [3, 4, 5, 6, 7, 1, 0] rfl) hP hS hm
  have hl15 : ∀ (fu : Nat), ∀ (b2 : Int32) (b4 : Int32) (b5 : Int64) (b7 : Int64) (b9 : Int32) (H : Heap) (locs : List Loc) (ls : Array Slot), lv_has ls 11 [(0, .ref (ad 10)), (1, .ref (ad 1)), (2, .int b2), (4, .int b4), (5, .long b5), (7, .long b7), (9, .int b9)] → va_P (dC, dI) xCl (cW dT ad u) H → va_S xN s.heap H locs → m_CharacterList_nearerSiblings_l15 fu b2 b4 b5 b7 b9 u = some out → W p l e (xrm 2 46) s m args below meth c H locs 0 0 Q (F0 m 15 ls []) := by
    intro fu
    induction fu with
    | zero => intro b2 b4 b5 b7 b9 H locs ls hl hP hS hm; exact absurd hm (fun z => by cases z)
    | succ n ih => intro b2 b4 b5 b7 b9 H locs ls hl hP hS hm; exact hs15 (m_CharacterList_nearerSiblings_l15 n) ih b2 b4 b5 b7 b9 H locs ls hl hP hS hm
  unfold m_CharacterList_nearerSiblings at hm
  refine lv_aload_n hx hb d_CharacterList_nearerSiblings_0 rfl (lv_at hl 0 rfl) ?_
  refine lv_iload_n hx hb d_CharacterList_nearerSiblings_1 rfl (lv_at hl 3 rfl) ?_
  refine lv_iload hx hb d_CharacterList_nearerSiblings_2 (lv_at hl 4 rfl) ?_
  obtain ⟨r4, h4, hm⟩ := xb1_some hm
  refine xc_l (va_runV (C := "EventGraphText$CharacterList") (As := [.int a3, .int a4]) (rest := []) ⟨hx, hb, hml, hown, hts⟩ (c_CharacterList_childrenOf l dC dI dT ad a3 a4 u r4 h4) (cwV 2 hts (xgV wd_251 wd_253 wds_0 wd_3 wd_254) rfl rfl rfl pd_CharacterList_childrenOf ⟨Nat.le_of_ble_eq_true rfl, Nat.le_of_ble_eq_true rfl⟩) (xpreV (C := "EventGraphText$CharacterList") (T := T_CharacterList) (N := 8) hP hK hN rfl cW_L) rfl rfl hl.1 rfl (lv_room (Nat.le_of_ble_eq_true rfl)) d_CharacterList_nearerSiblings_4 ⟨Nat.le_of_ble_eq_true rfl, Nat.le_of_ble_eq_true rfl⟩) hP hS (fun H locs hP hS => ?_)
  refine lv_lstore (lv' := [(5, .long r4), (0, .ref (ad 10)), (1, .ref (ad 1)), (2, .int a2), (3, .int a3), (4, .int a4)]) hx hb d_CharacterList_nearerSiblings_7 hl (Nat.le_of_ble_eq_true rfl) rfl (fun ls hl => ?_)
  refine lv_lconst (v := (0 : Int64)) hx hb d_CharacterList_nearerSiblings_9 (by decide) ?_
  refine lv_lstore (lv' := [(7, .long (0 : Int64)), (5, .long r4), (0, .ref (ad 10)), (1, .ref (ad 1)), (2, .int a2), (3, .int a3), (4, .int a4)]) hx hb d_CharacterList_nearerSiblings_10 hl (Nat.le_of_ble_eq_true rfl) rfl (fun ls hl => ?_)
  refine lv_iconst (v := (0 : Int32)) hx hb d_CharacterList_nearerSiblings_12 (by decide) ?_
  refine lv_istore (lv' := [(9, .int (0 : Int32)), (7, .long (0 : Int64)), (5, .long r4), (0, .ref (ad 10)), (1, .ref (ad 1)), (2, .int a2), (3, .int a3), (4, .int a4)]) hx hb d_CharacterList_nearerSiblings_13 hl (Nat.le_of_ble_eq_true rfl) rfl (fun ls hl => ?_)
  exact hl15 xFU a2 a4 r4 (0 : Int64) (0 : Int32) _ _ _ (lv_sub hl [3, 4, 5, 7, 2, 1, 0] rfl) hP hS hm
set_option maxHeartbeats 4000000 in
set_option maxRecDepth 100000 in
theorem c_CharacterList_rightPosition (l : Launch) (dC : Nat → ClassId) (dI : Nat → Nat → Nat) (dT : Nat → ClassId) (ad : Nat → Nat) (a2 : Int32) (a3 : Int32) (u : xS) (out : Int32) (hm : m_CharacterList_rightPosition a2 a3 u = some out) : Met l y_CharacterList_rightPosition (Cond.code y_CharacterList_rightPosition b_CharacterList_rightPosition 7 (some .int) :: xG) (xrm 3 76) (va_Pc [.ref (ad 10), .ref (ad 1), .int a2, .int a3] (xR (dC, dI) xCl (xT dT) (cW dT ad u))) (va_Qi (fun r9 (_ : Unit) => r9 = out) (fun _ _ => True) xN) 0 0 xN := by
  refine xm_roi (cc := b_CharacterList_rightPosition) (maxL := 7) (by decide) rfl (Nat.le_of_ble_eq_true rfl) ?_
  intro p e s m args below meth c Q ls hx hb hml hts hown hK hN hP hl hret
  have hT : ∀ w ∈ xG, w.before args s = true := fun w h => hts w (List.mem_cons_of_mem _ h)
  have hown : s.vm.findClass "EventGraphText$CharacterList" = some m.cls := hown
  have hl : lv_has ls 7 [(0, .ref (ad 10)), (1, .ref (ad 1)), (2, .int a2), (3, .int a3)] := hl
  have hS : va_S xN s.heap s.heap [] := va_S.rf
  have hs16 : ∀ (k16 : Int32 → Int64 → Int32 → xS → Option Int32) (hk16 : ∀ (b3 : Int32) (b4 : Int64) (b6 : Int32) (H : Heap) (locs : List Loc) (ls : Array Slot), lv_has ls 7 [(0, .ref (ad 10)), (3, .int b3), (4, .long b4), (6, .int b6)] → va_P (dC, dI) xCl (cW dT ad u) H → va_S xN s.heap H locs → k16 b3 b4 b6 u = some out → W p l e (xrm 3 76) s m args below meth c H locs 0 0 Q (F0 m 16 ls [])), ∀ (b3 : Int32) (b4 : Int64) (b6 : Int32) (H : Heap) (locs : List Loc) (ls : Array Slot), lv_has ls 7 [(0, .ref (ad 10)), (3, .int b3), (4, .long b4), (6, .int b6)] → va_P (dC, dI) xCl (cW dT ad u) H → va_S xN s.heap H locs → m_CharacterList_rightPosition_s16 k16 b3 b4 b6 u = some out → W p l e (xrm 3 76) s m args below meth c H locs 0 0 Q (F0 m 16 ls []) := by
    intro k16 hk16 b3 b4 b6 H locs ls hl hP hS hm
    unfold m_CharacterList_rightPosition_s16 at hm
    refine lv_iload hx hb d_CharacterList_rightPosition_16 (lv_at hl 3 rfl) ?_
    refine lv_if_le (tgt := 62) hx hb d_CharacterList_rightPosition_18 rfl (fun h => ?_) (fun h => ?_)
    · replace hm := xi_pos h hm
      refine lv_iload hx hb d_CharacterList_rightPosition_62 (lv_at hl 3 rfl) ?_
      exact hret hm hS d_CharacterList_rightPosition_64
    · replace hm := xi_neg h hm
      refine lv_aload_n hx hb d_CharacterList_rightPosition_21 rfl (lv_at hl 0 rfl) ?_
      refine va_get (D := (dC, dI)) (ci := 0) (v := .ref (ad 11)) (C := "EventGraphText$CharacterList") (T := T_CharacterList) (N := 8) hx hb hT hin_CharacterList hown hK hP 10 cW_L rfl 0 (by decide) (hT _ wd_61) (fun _ h9 => h9) rfl d_CharacterList_rightPosition_22 ?_
      refine lv_iload hx hb d_CharacterList_rightPosition_25 (lv_at hl 3 rfl) ?_
      refine lv_iconst (v := (1 : Int32)) hx hb d_CharacterList_rightPosition_27 (by decide) ?_
      refine lv_isub hx hb d_CharacterList_rightPosition_28 ?_
      obtain ⟨g1, hm⟩ := xg_some hm
      refine va_iald hx hb hK hP 11 0 cW_L_order rfl g1 d_CharacterList_rightPosition_29 ?_
      refine lv_iload_n hx hb d_CharacterList_rightPosition_30 rfl (lv_at hl 1 rfl) ?_
      refine lv_icmp_eq (tgt := 62) hx hb d_CharacterList_rightPosition_31 rfl (fun h => ?_) (fun h => ?_)
      · replace hm := xi_pos h hm
        refine lv_iload hx hb d_CharacterList_rightPosition_62 (lv_at hl 3 rfl) ?_
        exact hret hm hS d_CharacterList_rightPosition_64
      · replace hm := xi_neg h hm
        refine lv_aload_n hx hb d_CharacterList_rightPosition_34 rfl (lv_at hl 0 rfl) ?_
        refine va_get (D := (dC, dI)) (ci := 0) (v := .ref (ad 14)) (C := "EventGraphText$CharacterList") (T := T_CharacterList) (N := 8) hx hb hT hin_CharacterList hown hK hP 10 cW_L rfl 3 (by decide) (hT _ wd_64) (fun _ h9 => h9) rfl d_CharacterList_rightPosition_35 ?_
        refine lv_aload_n hx hb d_CharacterList_rightPosition_38 rfl (lv_at hl 0 rfl) ?_
        refine va_get (D := (dC, dI)) (ci := 0) (v := .ref (ad 11)) (C := "EventGraphText$CharacterList") (T := T_CharacterList) (N := 8) hx hb hT hin_CharacterList hown hK hP 10 cW_L rfl 0 (by decide) (hT _ wd_61) (fun _ h9 => h9) rfl d_CharacterList_rightPosition_39 ?_
        refine lv_iload hx hb d_CharacterList_rightPosition_42 (lv_at hl 3 rfl) ?_
        refine lv_iconst (v := (1 : Int32)) hx hb d_CharacterList_rightPosition_44 (by decide) ?_
        refine lv_isub hx hb d_CharacterList_rightPosition_45 ?_
        refine va_iald hx hb hK hP 11 0 cW_L_order rfl g1 d_CharacterList_rightPosition_46 ?_
        obtain ⟨g2, hm⟩ := xg_some hm
        refine va_lald hx hb hK hP 14 1 cW_L_chains rfl g2 d_CharacterList_rightPosition_47 ?_
        refine lv_lload hx hb d_CharacterList_rightPosition_48 (lv_at hl 2 rfl) ?_
        refine lv_land hx hb d_CharacterList_rightPosition_50 ?_
        refine lv_lconst (v := (0 : Int64)) hx hb d_CharacterList_rightPosition_51 (by decide) ?_
        refine xl_cmp_ne (tgt := 62) hx hb d_CharacterList_rightPosition_52 d_CharacterList_rightPosition_53 rfl (fun h => ?_) (fun h => ?_)
        · replace hm := xi_neg h hm
          refine lv_iload hx hb d_CharacterList_rightPosition_62 (lv_at hl 3 rfl) ?_
          exact hret hm hS d_CharacterList_rightPosition_64
        · replace hm := xi_pos h hm
          refine lv_iinc (k := 3) (v := (b6 + (-1 : Int32))) (lv' := [(6, .int (b6 + (-1 : Int32))), (0, .ref (ad 10)), (3, .int b3), (4, .long b4)]) hx hb d_CharacterList_rightPosition_56 hl rfl rfl (Nat.le_of_ble_eq_true rfl) rfl (fun ls hl => ?_)
          refine lv_goto (tgt := 16) hx hb d_CharacterList_rightPosition_59 rfl ?_
          exact hk16 b3 b4 (b6 + (-1 : Int32)) _ _ _ (lv_sub hl [1, 2, 3, 0] rfl) hP hS hm
  have hl16 : ∀ (fu : Nat), ∀ (b3 : Int32) (b4 : Int64) (b6 : Int32) (H : Heap) (locs : List Loc) (ls : Array Slot), lv_has ls 7 [(0, .ref (ad 10)), (3, .int b3), (4, .long b4), (6, .int b6)] → va_P (dC, dI) xCl (cW dT ad u) H → va_S xN s.heap H locs → m_CharacterList_rightPosition_l16 fu b3 b4 b6 u = some out → W p l e (xrm 3 76) s m args below meth c H locs 0 0 Q (F0 m 16 ls []) := by
    intro fu
    induction fu with
    | zero => intro b3 b4 b6 H locs ls hl hP hS hm; exact absurd hm (fun z => by cases z)
    | succ n ih => intro b3 b4 b6 H locs ls hl hP hS hm; exact hs16 (m_CharacterList_rightPosition_l16 n) ih b3 b4 b6 H locs ls hl hP hS hm
  unfold m_CharacterList_rightPosition at hm
  refine lv_aload_n hx hb d_CharacterList_rightPosition_0 rfl (lv_at hl 0 rfl) ?_
  refine lv_aload_n hx hb d_CharacterList_rightPosition_1 rfl (lv_at hl 1 rfl) ?_
  refine lv_iload_n hx hb d_CharacterList_rightPosition_2 rfl (lv_at hl 2 rfl) ?_
  refine lv_iload_n hx hb d_CharacterList_rightPosition_3 rfl (lv_at hl 3 rfl) ?_
  refine lv_iconst (v := (1 : Int32)) hx hb d_CharacterList_rightPosition_4 (by decide) ?_
  obtain ⟨r5, h5, hm⟩ := xb1_some hm
  refine xc_l (va_runV (C := "EventGraphText$CharacterList") (As := [.ref (ad 1), .int a2, .int a3, .int (1 : Int32)]) (rest := []) ⟨hx, hb, hml, hown, hts⟩ (c_CharacterList_nearerSiblings l dC dI dT ad a2 a3 (1 : Int32) u r5 h5) (cwV 4 hts (xgV wd_263 wd_265 wds_1 wd_3 wd_266) rfl rfl rfl pd_CharacterList_nearerSiblings ⟨Nat.le_of_ble_eq_true rfl, Nat.le_of_ble_eq_true rfl⟩) (xpreV (C := "EventGraphText$CharacterList") (T := T_CharacterList) (N := 8) hP hK hN rfl cW_L) rfl rfl hl.1 rfl (lv_room (Nat.le_of_ble_eq_true rfl)) d_CharacterList_rightPosition_5 ⟨Nat.le_of_ble_eq_true rfl, Nat.le_of_ble_eq_true rfl⟩) hP hS (fun H locs hP hS => ?_)
  refine lv_lstore (lv' := [(4, .long r5), (0, .ref (ad 10)), (1, .ref (ad 1)), (2, .int a2), (3, .int a3)]) hx hb d_CharacterList_rightPosition_8 hl (Nat.le_of_ble_eq_true rfl) rfl (fun ls hl => ?_)
  refine lv_aload_n hx hb d_CharacterList_rightPosition_10 rfl (lv_at hl 1 rfl) ?_
  refine va_get (D := (dC, dI)) (ci := 0) (v := .int (xs_i u 1)) (C := "EventGraphText$CharacterList") (T := T_CharacterList) (N := 8) hx hb hT hin_CharacterList hown hK hP 10 cW_L rfl 7 (by decide) (hT _ wd_68) (fun _ h9 => h9) rfl d_CharacterList_rightPosition_11 ?_
  refine lv_istore (lv' := [(6, .int (xs_i u 1)), (4, .long r5), (0, .ref (ad 10)), (1, .ref (ad 1)), (2, .int a2), (3, .int a3)]) hx hb d_CharacterList_rightPosition_14 hl (Nat.le_of_ble_eq_true rfl) rfl (fun ls hl => ?_)
  exact hl16 xFU a3 r5 (xs_i u 1) _ _ _ (lv_sub hl [2, 5, 1, 0] rfl) hP hS hm
set_option maxHeartbeats 4000000 in
set_option maxRecDepth 100000 in
theorem c_CharacterList_leftPosition (l : Launch) (dC : Nat → ClassId) (dI : Nat → Nat → Nat) (dT : Nat → ClassId) (ad : Nat → Nat) (a2 : Int32) (a3 : Int32) (u : xS) (out : Int32) (hm : m_CharacterList_leftPosition a2 a3 u = some out) : Met l y_CharacterList_leftPosition (Cond.code y_CharacterList_leftPosition b_CharacterList_leftPosition 7 (some .int) :: xG) (xrm 3 76) (va_Pc [.ref (ad 10), .ref (ad 1), .int a2, .int a3] (xR (dC, dI) xCl (xT dT) (cW dT ad u))) (va_Qi (fun r9 (_ : Unit) => r9 = out) (fun _ _ => True) xN) 0 0 xN := by
  refine xm_roi (cc := b_CharacterList_leftPosition) (maxL := 7) (by decide) rfl (Nat.le_of_ble_eq_true rfl) ?_
  intro p e s m args below meth c Q ls hx hb hml hts hown hK hN hP hl hret
  have hT : ∀ w ∈ xG, w.before args s = true := fun w h => hts w (List.mem_cons_of_mem _ h)
  have hown : s.vm.findClass "EventGraphText$CharacterList" = some m.cls := hown
  have hl : lv_has ls 7 [(0, .ref (ad 10)), (1, .ref (ad 1)), (2, .int a2), (3, .int a3)] := hl
  have hS : va_S xN s.heap s.heap [] := va_S.rf
  have hs13 : ∀ (k13 : Int32 → Int64 → Int32 → xS → Option Int32) (hk13 : ∀ (b3 : Int32) (b4 : Int64) (b6 : Int32) (H : Heap) (locs : List Loc) (ls : Array Slot), lv_has ls 7 [(0, .ref (ad 10)), (3, .int b3), (4, .long b4), (6, .int b6)] → va_P (dC, dI) xCl (cW dT ad u) H → va_S xN s.heap H locs → k13 b3 b4 b6 u = some out → W p l e (xrm 3 76) s m args below meth c H locs 0 0 Q (F0 m 13 ls [])), ∀ (b3 : Int32) (b4 : Int64) (b6 : Int32) (H : Heap) (locs : List Loc) (ls : Array Slot), lv_has ls 7 [(0, .ref (ad 10)), (3, .int b3), (4, .long b4), (6, .int b6)] → va_P (dC, dI) xCl (cW dT ad u) H → va_S xN s.heap H locs → m_CharacterList_leftPosition_s13 k13 b3 b4 b6 u = some out → W p l e (xrm 3 76) s m args below meth c H locs 0 0 Q (F0 m 13 ls []) := by
    intro k13 hk13 b3 b4 b6 H locs ls hl hP hS hm
    unfold m_CharacterList_leftPosition_s13 at hm
    refine lv_iload hx hb d_CharacterList_leftPosition_13 (lv_at hl 3 rfl) ?_
    refine lv_aload_n hx hb d_CharacterList_leftPosition_15 rfl (lv_at hl 0 rfl) ?_
    refine va_get (D := (dC, dI)) (ci := 0) (v := .int (xs_i u 1)) (C := "EventGraphText$CharacterList") (T := T_CharacterList) (N := 8) hx hb hT hin_CharacterList hown hK hP 10 cW_L rfl 7 (by decide) (hT _ wd_68) (fun _ h9 => h9) rfl d_CharacterList_leftPosition_16 ?_
    refine lv_icmp_ge (tgt := 59) hx hb d_CharacterList_leftPosition_19 rfl (fun h => ?_) (fun h => ?_)
    · replace hm := xi_pos h hm
      refine lv_iload hx hb d_CharacterList_leftPosition_59 (lv_at hl 3 rfl) ?_
      exact hret hm hS d_CharacterList_leftPosition_61
    · replace hm := xi_neg h hm
      refine lv_aload_n hx hb d_CharacterList_leftPosition_22 rfl (lv_at hl 0 rfl) ?_
      refine va_get (D := (dC, dI)) (ci := 0) (v := .ref (ad 11)) (C := "EventGraphText$CharacterList") (T := T_CharacterList) (N := 8) hx hb hT hin_CharacterList hown hK hP 10 cW_L rfl 0 (by decide) (hT _ wd_61) (fun _ h9 => h9) rfl d_CharacterList_leftPosition_23 ?_
      refine lv_iload hx hb d_CharacterList_leftPosition_26 (lv_at hl 3 rfl) ?_
      obtain ⟨g1, hm⟩ := xg_some hm
      refine va_iald hx hb hK hP 11 0 cW_L_order rfl g1 d_CharacterList_leftPosition_28 ?_
      refine lv_iload_n hx hb d_CharacterList_leftPosition_29 rfl (lv_at hl 1 rfl) ?_
      refine lv_icmp_eq (tgt := 59) hx hb d_CharacterList_leftPosition_30 rfl (fun h => ?_) (fun h => ?_)
      · replace hm := xi_pos h hm
        refine lv_iload hx hb d_CharacterList_leftPosition_59 (lv_at hl 3 rfl) ?_
        exact hret hm hS d_CharacterList_leftPosition_61
      · replace hm := xi_neg h hm
        refine lv_aload_n hx hb d_CharacterList_leftPosition_33 rfl (lv_at hl 0 rfl) ?_
        refine va_get (D := (dC, dI)) (ci := 0) (v := .ref (ad 14)) (C := "EventGraphText$CharacterList") (T := T_CharacterList) (N := 8) hx hb hT hin_CharacterList hown hK hP 10 cW_L rfl 3 (by decide) (hT _ wd_64) (fun _ h9 => h9) rfl d_CharacterList_leftPosition_34 ?_
        refine lv_aload_n hx hb d_CharacterList_leftPosition_37 rfl (lv_at hl 0 rfl) ?_
        refine va_get (D := (dC, dI)) (ci := 0) (v := .ref (ad 11)) (C := "EventGraphText$CharacterList") (T := T_CharacterList) (N := 8) hx hb hT hin_CharacterList hown hK hP 10 cW_L rfl 0 (by decide) (hT _ wd_61) (fun _ h9 => h9) rfl d_CharacterList_leftPosition_38 ?_
        refine lv_iload hx hb d_CharacterList_leftPosition_41 (lv_at hl 3 rfl) ?_
        refine va_iald hx hb hK hP 11 0 cW_L_order rfl g1 d_CharacterList_leftPosition_43 ?_
        obtain ⟨g2, hm⟩ := xg_some hm
        refine va_lald hx hb hK hP 14 1 cW_L_chains rfl g2 d_CharacterList_leftPosition_44 ?_
        refine lv_lload hx hb d_CharacterList_leftPosition_45 (lv_at hl 2 rfl) ?_
        refine lv_land hx hb d_CharacterList_leftPosition_47 ?_
        refine lv_lconst (v := (0 : Int64)) hx hb d_CharacterList_leftPosition_48 (by decide) ?_
        refine xl_cmp_ne (tgt := 59) hx hb d_CharacterList_leftPosition_49 d_CharacterList_leftPosition_50 rfl (fun h => ?_) (fun h => ?_)
        · replace hm := xi_neg h hm
          refine lv_iload hx hb d_CharacterList_leftPosition_59 (lv_at hl 3 rfl) ?_
          exact hret hm hS d_CharacterList_leftPosition_61
        · replace hm := xi_pos h hm
          refine lv_iinc (k := 3) (v := (b6 + (1 : Int32))) (lv' := [(6, .int (b6 + (1 : Int32))), (0, .ref (ad 10)), (3, .int b3), (4, .long b4)]) hx hb d_CharacterList_leftPosition_53 hl rfl rfl (Nat.le_of_ble_eq_true rfl) rfl (fun ls hl => ?_)
          refine lv_goto (tgt := 13) hx hb d_CharacterList_leftPosition_56 rfl ?_
          exact hk13 b3 b4 (b6 + (1 : Int32)) _ _ _ (lv_sub hl [1, 2, 3, 0] rfl) hP hS hm
  have hl13 : ∀ (fu : Nat), ∀ (b3 : Int32) (b4 : Int64) (b6 : Int32) (H : Heap) (locs : List Loc) (ls : Array Slot), lv_has ls 7 [(0, .ref (ad 10)), (3, .int b3), (4, .long b4), (6, .int b6)] → va_P (dC, dI) xCl (cW dT ad u) H → va_S xN s.heap H locs → m_CharacterList_leftPosition_l13 fu b3 b4 b6 u = some out → W p l e (xrm 3 76) s m args below meth c H locs 0 0 Q (F0 m 13 ls []) := by
    intro fu
    induction fu with
    | zero => intro b3 b4 b6 H locs ls hl hP hS hm; exact absurd hm (fun z => by cases z)
    | succ n ih => intro b3 b4 b6 H locs ls hl hP hS hm; exact hs13 (m_CharacterList_leftPosition_l13 n) ih b3 b4 b6 H locs ls hl hP hS hm
  unfold m_CharacterList_leftPosition at hm
  refine lv_aload_n hx hb d_CharacterList_leftPosition_0 rfl (lv_at hl 0 rfl) ?_
  refine lv_aload_n hx hb d_CharacterList_leftPosition_1 rfl (lv_at hl 1 rfl) ?_
  refine lv_iload_n hx hb d_CharacterList_leftPosition_2 rfl (lv_at hl 2 rfl) ?_
  refine lv_iload_n hx hb d_CharacterList_leftPosition_3 rfl (lv_at hl 3 rfl) ?_
  refine lv_iconst (v := (0 : Int32)) hx hb d_CharacterList_leftPosition_4 (by decide) ?_
  obtain ⟨r5, h5, hm⟩ := xb1_some hm
  refine xc_l (va_runV (C := "EventGraphText$CharacterList") (As := [.ref (ad 1), .int a2, .int a3, .int (0 : Int32)]) (rest := []) ⟨hx, hb, hml, hown, hts⟩ (c_CharacterList_nearerSiblings l dC dI dT ad a2 a3 (0 : Int32) u r5 h5) (cwV 4 hts (xgV wd_263 wd_265 wds_1 wd_3 wd_266) rfl rfl rfl pd_CharacterList_nearerSiblings ⟨Nat.le_of_ble_eq_true rfl, Nat.le_of_ble_eq_true rfl⟩) (xpreV (C := "EventGraphText$CharacterList") (T := T_CharacterList) (N := 8) hP hK hN rfl cW_L) rfl rfl hl.1 rfl (lv_room (Nat.le_of_ble_eq_true rfl)) d_CharacterList_leftPosition_5 ⟨Nat.le_of_ble_eq_true rfl, Nat.le_of_ble_eq_true rfl⟩) hP hS (fun H locs hP hS => ?_)
  refine lv_lstore (lv' := [(4, .long r5), (0, .ref (ad 10)), (1, .ref (ad 1)), (2, .int a2), (3, .int a3)]) hx hb d_CharacterList_leftPosition_8 hl (Nat.le_of_ble_eq_true rfl) rfl (fun ls hl => ?_)
  refine lv_iconst (v := (0 : Int32)) hx hb d_CharacterList_leftPosition_10 (by decide) ?_
  refine lv_istore (lv' := [(6, .int (0 : Int32)), (4, .long r5), (0, .ref (ad 10)), (1, .ref (ad 1)), (2, .int a2), (3, .int a3)]) hx hb d_CharacterList_leftPosition_11 hl (Nat.le_of_ble_eq_true rfl) rfl (fun ls hl => ?_)
  exact hl13 xFU a3 r5 (0 : Int32) _ _ _ (lv_sub hl [2, 5, 1, 0] rfl) hP hS hm
set_option maxHeartbeats 4000000 in
set_option maxRecDepth 100000 in
theorem c_CharacterList_putBehind (l : Launch) (dC : Nat → ClassId) (dI : Nat → Nat → Nat) (dT : Nat → ClassId) (ad : Nat → Nat) (hD : ∀ u, va_D (xA ad 50) (cW dT ad u)) (a2 : Int32) (a3 : Int32) (a4 : Int64) (u : xS) (u1 : xS) (hm : m_CharacterList_putBehind a2 a3 a4 u = some u1) : Met l y_CharacterList_putBehind (Cond.code y_CharacterList_putBehind b_CharacterList_putBehind 10 none :: xG) (xrm 4 102) (va_Pc [.ref (ad 10), .ref (ad 1), .int a2, .int a3, .long a4] (xR (dC, dI) xCl (xT dT) (cW dT ad u))) (va_Qv (fun (u9 : xS) => u9 = u1) (fun u9 t => va_P (dC, dI) xCl (cW dT ad u9) t.heap) (xA ad 50)) 0 0 (xA ad 50) := by
  refine xm_rwv (Wd := cW dT ad) (cc := b_CharacterList_putBehind) (maxL := 10) (by decide) rfl (Nat.le_of_ble_eq_true rfl) ?_
  intro p e s m args below meth c Q ls hx hb hml hts hown hK hN hP hl hret
  have hT : ∀ w ∈ xG, w.before args s = true := fun w h => hts w (List.mem_cons_of_mem _ h)
  have hown : s.vm.findClass "EventGraphText$CharacterList" = some m.cls := hown
  have hl : lv_has ls 10 [(0, .ref (ad 10)), (1, .ref (ad 1)), (2, .int a2), (3, .int a3), (4, .long a4)] := hl
  have hS : va_S (xA ad 50) s.heap s.heap [] := va_S.rf
  have hs115 : ∀ (k115 : Int32 → Int32 → Int32 → xS → Option xS) (hk115 : ∀ (b2 : Int32) (b8 : Int32) (b9 : Int32) (u : xS) (H : Heap) (locs : List Loc) (ls : Array Slot), lv_has ls 10 [(0, .ref (ad 10)), (2, .int b2), (8, .int b8), (9, .int b9)] → va_P (dC, dI) xCl (cW dT ad u) H → va_S (xA ad 50) s.heap H locs → k115 b2 b8 b9 u = some u1 → W p l e (xrm 4 102) s m args below meth c H locs 0 0 Q (F0 m 115 ls [])), ∀ (b2 : Int32) (b8 : Int32) (b9 : Int32) (u : xS) (H : Heap) (locs : List Loc) (ls : Array Slot), lv_has ls 10 [(0, .ref (ad 10)), (2, .int b2), (8, .int b8), (9, .int b9)] → va_P (dC, dI) xCl (cW dT ad u) H → va_S (xA ad 50) s.heap H locs → m_CharacterList_putBehind_s115 k115 b2 b8 b9 u = some u1 → W p l e (xrm 4 102) s m args below meth c H locs 0 0 Q (F0 m 115 ls []) := by
    intro k115 hk115 b2 b8 b9 u H locs ls hl hP hS hm
    unfold m_CharacterList_putBehind_s115 at hm
    refine lv_iload hx hb d_CharacterList_putBehind_115 (lv_at hl 3 rfl) ?_
    refine lv_iload hx hb d_CharacterList_putBehind_117 (lv_at hl 2 rfl) ?_
    refine lv_icmp_le (tgt := 144) hx hb d_CharacterList_putBehind_119 rfl (fun h => ?_) (fun h => ?_)
    · replace hm := xi_pos h hm
      refine lv_aload_n hx hb d_CharacterList_putBehind_144 rfl (lv_at hl 0 rfl) ?_
      refine va_get (D := (dC, dI)) (ci := 0) (v := .ref (ad 11)) (C := "EventGraphText$CharacterList") (T := T_CharacterList) (N := 8) hx hb hT hin_CharacterList hown hK hP 10 cW_L rfl 0 (by decide) (hT _ wd_61) (fun _ h9 => h9) rfl d_CharacterList_putBehind_145 ?_
      refine lv_iload hx hb d_CharacterList_putBehind_148 (lv_at hl 2 rfl) ?_
      refine lv_iload_n hx hb d_CharacterList_putBehind_150 rfl (lv_at hl 1 rfl) ?_
      obtain ⟨g4, hm⟩ := xg_some hm
      obtain ⟨w151, hw151, hm⟩ := xlt_some hm
      refine va_iast hx hb hK hP (hD _) hS 11 0 cW_L_order rfl g4 d_CharacterList_putBehind_151 (fun H locs hP _ hS => ?_)
      replace hP : va_P (dC, dI) xCl (cW dT ad w151) H := xp_conv ((cW_s_L_order).trans (congrArg (cW dT ad) hw151.symm)) hP
      refine lv_aload_n hx hb d_CharacterList_putBehind_152 rfl (lv_at hl 0 rfl) ?_
      refine lv_dup hx hb d_CharacterList_putBehind_153 rfl ?_
      refine va_get (D := (dC, dI)) (ci := 0) (v := .long (xs_l w151 1)) (C := "EventGraphText$CharacterList") (T := T_CharacterList) (N := 8) hx hb hT hin_CharacterList hown hK hP 10 cW_L rfl 6 (by decide) (hT _ wd_67) (fun _ h9 => h9) rfl d_CharacterList_putBehind_154 ?_
      refine lv_iload_n hx hb d_CharacterList_putBehind_157 rfl (lv_at hl 1 rfl) ?_
      obtain ⟨r158, h158, hm⟩ := xb1_some hm
      refine xc_l (va_runSN (As := [.int b2]) (rest := [.long (xs_l w151 1), .ref (ad 10)]) ⟨hx, hb, hml, hown, hts⟩ (c_Text_bit l b2 r158 h158) ⟨va_cnB 1 hts (xg0 wd_220) rfl rfl rfl (nmm_8 hN) (hT _ wd_1) pd_Text_bit.2 ⟨Nat.le_of_ble_eq_true rfl, Nat.le_of_ble_eq_true rfl⟩, hT _ wd_219, trivial⟩ xpreS0 rfl rfl hl.1 rfl (lv_room (Nat.le_of_ble_eq_true rfl)) d_CharacterList_putBehind_158 ⟨Nat.le_of_ble_eq_true rfl, Nat.le_of_ble_eq_true rfl⟩) hP hS (fun H locs hP hS => ?_)
      refine lv_lor hx hb d_CharacterList_putBehind_161 ?_
      obtain ⟨w162, hw162, hm⟩ := xlt_some hm
      refine va_put (D := (dC, dI)) (ci := 0) (v := .long ((xs_l w151 1) ||| r158)) (ty := .long) (C := "EventGraphText$CharacterList") (T := T_CharacterList) (N := 8) hx hb hT hin_CharacterList ty_CharacterList tyok_CharacterList nm_CharacterList hown hK hP (hD _) hS 10 cW_L rfl 6 (by decide) (hT _ wd_67) (fun _ h9 => h9) rfl (by decide +kernel) rfl rfl (Nat.le_of_ble_eq_true rfl) d_CharacterList_putBehind_162 (fun H locs hP _ hS => ?_)
      replace hP : va_P (dC, dI) xCl (cW dT ad w162) H := xp_conv ((cW_f_L_inserts).trans (congrArg (cW dT ad) hw162.symm)) hP
      refine lv_aload_n hx hb d_CharacterList_putBehind_165 rfl (lv_at hl 0 rfl) ?_
      refine lv_dup hx hb d_CharacterList_putBehind_166 rfl ?_
      refine va_get (D := (dC, dI)) (ci := 0) (v := .int (xs_i w162 1)) (C := "EventGraphText$CharacterList") (T := T_CharacterList) (N := 8) hx hb hT hin_CharacterList hown hK hP 10 cW_L rfl 7 (by decide) (hT _ wd_68) (fun _ h9 => h9) rfl d_CharacterList_putBehind_167 ?_
      refine lv_iconst (v := (1 : Int32)) hx hb d_CharacterList_putBehind_170 (by decide) ?_
      refine lv_iadd hx hb d_CharacterList_putBehind_171 ?_
      obtain ⟨w172, hw172, hm⟩ := xlt_some hm
      refine va_put (D := (dC, dI)) (ci := 0) (v := .int ((xs_i w162 1) + (1 : Int32))) (ty := .int) (C := "EventGraphText$CharacterList") (T := T_CharacterList) (N := 8) hx hb hT hin_CharacterList ty_CharacterList tyok_CharacterList nm_CharacterList hown hK hP (hD _) hS 10 cW_L rfl 7 (by decide) (hT _ wd_68) (fun _ h9 => h9) rfl (by decide +kernel) rfl rfl (Nat.le_of_ble_eq_true rfl) d_CharacterList_putBehind_172 (fun H locs hP _ hS => ?_)
      replace hP : va_P (dC, dI) xCl (cW dT ad w172) H := xp_conv ((cW_f_L_count).trans (congrArg (cW dT ad) hw172.symm)) hP
      exact hret hm hP hS d_CharacterList_putBehind_175
    · replace hm := xi_neg h hm
      refine lv_aload_n hx hb d_CharacterList_putBehind_122 rfl (lv_at hl 0 rfl) ?_
      refine va_get (D := (dC, dI)) (ci := 0) (v := .ref (ad 11)) (C := "EventGraphText$CharacterList") (T := T_CharacterList) (N := 8) hx hb hT hin_CharacterList hown hK hP 10 cW_L rfl 0 (by decide) (hT _ wd_61) (fun _ h9 => h9) rfl d_CharacterList_putBehind_123 ?_
      refine lv_iload hx hb d_CharacterList_putBehind_126 (lv_at hl 3 rfl) ?_
      refine lv_aload_n hx hb d_CharacterList_putBehind_128 rfl (lv_at hl 0 rfl) ?_
      refine va_get (D := (dC, dI)) (ci := 0) (v := .ref (ad 11)) (C := "EventGraphText$CharacterList") (T := T_CharacterList) (N := 8) hx hb hT hin_CharacterList hown hK hP 10 cW_L rfl 0 (by decide) (hT _ wd_61) (fun _ h9 => h9) rfl d_CharacterList_putBehind_129 ?_
      refine lv_iload hx hb d_CharacterList_putBehind_132 (lv_at hl 3 rfl) ?_
      refine lv_iconst (v := (1 : Int32)) hx hb d_CharacterList_putBehind_134 (by decide) ?_
      refine lv_isub hx hb d_CharacterList_putBehind_135 ?_
      obtain ⟨g5, hm⟩ := xg_some hm
      refine va_iald hx hb hK hP 11 0 cW_L_order rfl g5 d_CharacterList_putBehind_136 ?_
      obtain ⟨g6, hm⟩ := xg_some hm
      obtain ⟨w137, hw137, hm⟩ := xlt_some hm
      refine va_iast hx hb hK hP (hD _) hS 11 0 cW_L_order rfl g6 d_CharacterList_putBehind_137 (fun H locs hP _ hS => ?_)
      replace hP : va_P (dC, dI) xCl (cW dT ad w137) H := xp_conv ((cW_s_L_order).trans (congrArg (cW dT ad) hw137.symm)) hP
      refine lv_iinc (k := 3) (v := (b9 + (-1 : Int32))) (lv' := [(9, .int (b9 + (-1 : Int32))), (0, .ref (ad 10)), (2, .int b2), (8, .int b8)]) hx hb d_CharacterList_putBehind_138 hl rfl rfl (Nat.le_of_ble_eq_true rfl) rfl (fun ls hl => ?_)
      refine lv_goto (tgt := 115) hx hb d_CharacterList_putBehind_141 rfl ?_
      exact hk115 b2 b8 (b9 + (-1 : Int32)) w137 _ _ _ (lv_sub hl [1, 2, 3, 0] rfl) hP hS hm
  have hl115 : ∀ (fu : Nat), ∀ (b2 : Int32) (b8 : Int32) (b9 : Int32) (u : xS) (H : Heap) (locs : List Loc) (ls : Array Slot), lv_has ls 10 [(0, .ref (ad 10)), (2, .int b2), (8, .int b8), (9, .int b9)] → va_P (dC, dI) xCl (cW dT ad u) H → va_S (xA ad 50) s.heap H locs → m_CharacterList_putBehind_l115 fu b2 b8 b9 u = some u1 → W p l e (xrm 4 102) s m args below meth c H locs 0 0 Q (F0 m 115 ls []) := by
    intro fu
    induction fu with
    | zero => intro b2 b8 b9 u H locs ls hl hP hS hm; exact absurd hm (fun z => by cases z)
    | succ n ih => intro b2 b8 b9 u H locs ls hl hP hS hm; exact hs115 (m_CharacterList_putBehind_l115 n) ih b2 b8 b9 u H locs ls hl hP hS hm
  have hb81 : ∀ (b2 : Int32) (b6 : Int32) (b7 : Int32) (t0 : Int64) (t1 : Int64) (t2 : Int32) (u : xS) (H : Heap) (locs : List Loc) (ls : Array Slot), lv_has ls 10 [(0, .ref (ad 10)), (1, .ref (ad 1)), (2, .int b2), (6, .int b6), (7, .int b7)] → va_P (dC, dI) xCl (cW dT ad u) H → va_S (xA ad 50) s.heap H locs → m_CharacterList_putBehind_b81 b2 b6 b7 t0 t1 t2 u = some u1 → W p l e (xrm 4 102) s m args below meth c H locs 0 0 Q (F0 m 81 ls [.long t0, .long t1, .int t2, .ref (ad 14)]) := by
    intro b2 b6 b7 t0 t1 t2 u H locs ls hl hP hS hm
    unfold m_CharacterList_putBehind_b81 at hm
    refine lv_lor hx hb d_CharacterList_putBehind_81 ?_
    obtain ⟨g3, hm⟩ := xg_some hm
    obtain ⟨w82, hw82, hm⟩ := xlt_some hm
    refine va_last hx hb hK hP (hD _) hS 14 1 cW_L_chains rfl g3 d_CharacterList_putBehind_82 (fun H locs hP _ hS => ?_)
    replace hP : va_P (dC, dI) xCl (cW dT ad w82) H := xp_conv ((cW_s_L_chains).trans (congrArg (cW dT ad) hw82.symm)) hP
    refine lv_iload hx hb d_CharacterList_putBehind_83 (lv_at hl 3 rfl) ?_
    refine lv_if_eq (tgt := 99) hx hb d_CharacterList_putBehind_85 rfl (fun h => ?_) (fun h => ?_)
    · replace hm := xi_pos h hm
      refine lv_aload_n hx hb d_CharacterList_putBehind_99 rfl (lv_at hl 0 rfl) ?_
      refine lv_aload_n hx hb d_CharacterList_putBehind_100 rfl (lv_at hl 1 rfl) ?_
      refine lv_iload_n hx hb d_CharacterList_putBehind_101 rfl (lv_at hl 2 rfl) ?_
      refine lv_iload hx hb d_CharacterList_putBehind_102 (lv_at hl 4 rfl) ?_
      obtain ⟨r104, h104, hm⟩ := xb1_some hm
      refine xc_i (va_runV (C := "EventGraphText$CharacterList") (As := [.ref (ad 1), .int b2, .int b7]) (rest := []) ⟨hx, hb, hml, hown, hts⟩ (c_CharacterList_leftPosition l dC dI dT ad b2 b7 w82 r104 h104) (cwV 3 hts (xgV wd_271 wd_273 wds_3 wd_3 wd_274) rfl rfl rfl pd_CharacterList_leftPosition ⟨Nat.le_of_ble_eq_true rfl, Nat.le_of_ble_eq_true rfl⟩) (xpreV (C := "EventGraphText$CharacterList") (T := T_CharacterList) (N := 8) hP hK hN rfl cW_L) rfl rfl hl.1 rfl (lv_room (Nat.le_of_ble_eq_true rfl)) d_CharacterList_putBehind_104 ⟨Nat.le_of_ble_eq_true rfl, Nat.le_of_ble_eq_true rfl⟩) hP hS (fun H locs hP hS => ?_)
      refine lv_istore (lv' := [(8, .int r104), (0, .ref (ad 10)), (1, .ref (ad 1)), (2, .int b2), (6, .int b6), (7, .int b7)]) hx hb d_CharacterList_putBehind_107 hl (Nat.le_of_ble_eq_true rfl) rfl (fun ls hl => ?_)
      refine lv_aload_n hx hb d_CharacterList_putBehind_109 rfl (lv_at hl 1 rfl) ?_
      refine va_get (D := (dC, dI)) (ci := 0) (v := .int (xs_i w82 1)) (C := "EventGraphText$CharacterList") (T := T_CharacterList) (N := 8) hx hb hT hin_CharacterList hown hK hP 10 cW_L rfl 7 (by decide) (hT _ wd_68) (fun _ h9 => h9) rfl d_CharacterList_putBehind_110 ?_
      refine lv_istore (lv' := [(9, .int (xs_i w82 1)), (8, .int r104), (0, .ref (ad 10)), (1, .ref (ad 1)), (2, .int b2), (6, .int b6), (7, .int b7)]) hx hb d_CharacterList_putBehind_113 hl (Nat.le_of_ble_eq_true rfl) rfl (fun ls hl => ?_)
      exact hl115 xFU b2 r104 (xs_i w82 1) w82 _ _ _ (lv_sub hl [2, 4, 1, 0] rfl) hP hS hm
    · replace hm := xi_neg h hm
      refine lv_aload_n hx hb d_CharacterList_putBehind_88 rfl (lv_at hl 0 rfl) ?_
      refine lv_aload_n hx hb d_CharacterList_putBehind_89 rfl (lv_at hl 1 rfl) ?_
      refine lv_iload_n hx hb d_CharacterList_putBehind_90 rfl (lv_at hl 2 rfl) ?_
      refine lv_iload hx hb d_CharacterList_putBehind_91 (lv_at hl 4 rfl) ?_
      obtain ⟨r93, h93, hm⟩ := xb1_some hm
      refine xc_i (va_runV (C := "EventGraphText$CharacterList") (As := [.ref (ad 1), .int b2, .int b7]) (rest := []) ⟨hx, hb, hml, hown, hts⟩ (c_CharacterList_rightPosition l dC dI dT ad b2 b7 w82 r93 h93) (cwV 3 hts (xgV wd_259 wd_261 wds_4 wd_3 wd_262) rfl rfl rfl pd_CharacterList_rightPosition ⟨Nat.le_of_ble_eq_true rfl, Nat.le_of_ble_eq_true rfl⟩) (xpreV (C := "EventGraphText$CharacterList") (T := T_CharacterList) (N := 8) hP hK hN rfl cW_L) rfl rfl hl.1 rfl (lv_room (Nat.le_of_ble_eq_true rfl)) d_CharacterList_putBehind_93 ⟨Nat.le_of_ble_eq_true rfl, Nat.le_of_ble_eq_true rfl⟩) hP hS (fun H locs hP hS => ?_)
      refine lv_goto (tgt := 107) hx hb d_CharacterList_putBehind_96 rfl ?_
      refine lv_istore (lv' := [(8, .int r93), (0, .ref (ad 10)), (1, .ref (ad 1)), (2, .int b2), (6, .int b6), (7, .int b7)]) hx hb d_CharacterList_putBehind_107 hl (Nat.le_of_ble_eq_true rfl) rfl (fun ls hl => ?_)
      refine lv_aload_n hx hb d_CharacterList_putBehind_109 rfl (lv_at hl 1 rfl) ?_
      refine va_get (D := (dC, dI)) (ci := 0) (v := .int (xs_i w82 1)) (C := "EventGraphText$CharacterList") (T := T_CharacterList) (N := 8) hx hb hT hin_CharacterList hown hK hP 10 cW_L rfl 7 (by decide) (hT _ wd_68) (fun _ h9 => h9) rfl d_CharacterList_putBehind_110 ?_
      refine lv_istore (lv' := [(9, .int (xs_i w82 1)), (8, .int r93), (0, .ref (ad 10)), (1, .ref (ad 1)), (2, .int b2), (6, .int b6), (7, .int b7)]) hx hb d_CharacterList_putBehind_113 hl (Nat.le_of_ble_eq_true rfl) rfl (fun ls hl => ?_)
      exact hl115 xFU b2 r93 (xs_i w82 1) w82 _ _ _ (lv_sub hl [2, 4, 1, 0] rfl) hP hS hm
  have hb37 : ∀ (b2 : Int32) (b6 : Int32) (t0 : Int32) (u : xS) (H : Heap) (locs : List Loc) (ls : Array Slot), lv_has ls 10 [(0, .ref (ad 10)), (1, .ref (ad 1)), (2, .int b2), (6, .int b6)] → va_P (dC, dI) xCl (cW dT ad u) H → va_S (xA ad 50) s.heap H locs → m_CharacterList_putBehind_b37 b2 b6 t0 u = some u1 → W p l e (xrm 4 102) s m args below meth c H locs 0 0 Q (F0 m 37 ls [.int t0]) := by
    intro b2 b6 t0 u H locs ls hl hP hS hm
    unfold m_CharacterList_putBehind_b37 at hm
    refine lv_istore (lv' := [(7, .int t0), (0, .ref (ad 10)), (1, .ref (ad 1)), (2, .int b2), (6, .int b6)]) hx hb d_CharacterList_putBehind_37 hl (Nat.le_of_ble_eq_true rfl) rfl (fun ls hl => ?_)
    refine lv_aload_n hx hb d_CharacterList_putBehind_39 rfl (lv_at hl 1 rfl) ?_
    refine va_get (D := (dC, dI)) (ci := 0) (v := .ref (ad 12)) (C := "EventGraphText$CharacterList") (T := T_CharacterList) (N := 8) hx hb hT hin_CharacterList hown hK hP 10 cW_L rfl 1 (by decide) (hT _ wd_62) (fun _ h9 => h9) rfl d_CharacterList_putBehind_40 ?_
    refine lv_iload_n hx hb d_CharacterList_putBehind_43 rfl (lv_at hl 3 rfl) ?_
    refine lv_iload hx hb d_CharacterList_putBehind_44 (lv_at hl 0 rfl) ?_
    obtain ⟨g1, hm⟩ := xg_some hm
    obtain ⟨w46, hw46, hm⟩ := xlt_some hm
    refine va_iast hx hb hK hP (hD _) hS 12 0 cW_L_holders rfl g1 d_CharacterList_putBehind_46 (fun H locs hP _ hS => ?_)
    replace hP : va_P (dC, dI) xCl (cW dT ad w46) H := xp_conv ((cW_s_L_holders).trans (congrArg (cW dT ad) hw46.symm)) hP
    refine lv_aload_n hx hb d_CharacterList_putBehind_47 rfl (lv_at hl 1 rfl) ?_
    refine va_get (D := (dC, dI)) (ci := 0) (v := .ref (ad 13)) (C := "EventGraphText$CharacterList") (T := T_CharacterList) (N := 8) hx hb hT hin_CharacterList hown hK hP 10 cW_L rfl 2 (by decide) (hT _ wd_63) (fun _ h9 => h9) rfl d_CharacterList_putBehind_48 ?_
    refine lv_iload_n hx hb d_CharacterList_putBehind_51 rfl (lv_at hl 3 rfl) ?_
    refine lv_iload hx hb d_CharacterList_putBehind_52 (lv_at hl 4 rfl) ?_
    obtain ⟨w54, hw54, hm⟩ := xlt_some hm
    refine va_zast hx hb hK hP (hD _) hS 13 2 cW_L_onTheRight rfl g1 d_CharacterList_putBehind_54 (fun H locs hP _ hS => ?_)
    replace hP : va_P (dC, dI) xCl (cW dT ad w54) H := xp_conv ((cW_s_L_onTheRight).trans (congrArg (cW dT ad) hw54.symm)) hP
    refine lv_aload_n hx hb d_CharacterList_putBehind_55 rfl (lv_at hl 1 rfl) ?_
    refine va_get (D := (dC, dI)) (ci := 0) (v := .ref (ad 14)) (C := "EventGraphText$CharacterList") (T := T_CharacterList) (N := 8) hx hb hT hin_CharacterList hown hK hP 10 cW_L rfl 3 (by decide) (hT _ wd_64) (fun _ h9 => h9) rfl d_CharacterList_putBehind_56 ?_
    refine lv_iload_n hx hb d_CharacterList_putBehind_59 rfl (lv_at hl 3 rfl) ?_
    refine lv_iload_n hx hb d_CharacterList_putBehind_60 rfl (lv_at hl 3 rfl) ?_
    obtain ⟨r61, h61, hm⟩ := xb1_some hm
    refine xc_l (va_runSN (As := [.int b2]) (rest := [.int b2, .ref (ad 14)]) ⟨hx, hb, hml, hown, hts⟩ (c_Text_bit l b2 r61 h61) ⟨va_cnB 1 hts (xg0 wd_220) rfl rfl rfl (nmm_8 hN) (hT _ wd_1) pd_Text_bit.2 ⟨Nat.le_of_ble_eq_true rfl, Nat.le_of_ble_eq_true rfl⟩, hT _ wd_219, trivial⟩ xpreS0 rfl rfl hl.1 rfl (lv_room (Nat.le_of_ble_eq_true rfl)) d_CharacterList_putBehind_61 ⟨Nat.le_of_ble_eq_true rfl, Nat.le_of_ble_eq_true rfl⟩) hP hS (fun H locs hP hS => ?_)
    refine lv_iload hx hb d_CharacterList_putBehind_64 (lv_at hl 0 rfl) ?_
    refine lv_iconst (v := (-1 : Int32)) hx hb d_CharacterList_putBehind_66 (by decide) ?_
    refine lv_icmp_ne (tgt := 74) hx hb d_CharacterList_putBehind_67 rfl (fun h => ?_) (fun h => ?_)
    · replace hm := xi_neg h hm
      refine lv_aload_n hx hb d_CharacterList_putBehind_74 rfl (lv_at hl 1 rfl) ?_
      refine va_get (D := (dC, dI)) (ci := 0) (v := .ref (ad 14)) (C := "EventGraphText$CharacterList") (T := T_CharacterList) (N := 8) hx hb hT hin_CharacterList hown hK hP 10 cW_L rfl 3 (by decide) (hT _ wd_64) (fun _ h9 => h9) rfl d_CharacterList_putBehind_75 ?_
      refine lv_iload hx hb d_CharacterList_putBehind_78 (lv_at hl 0 rfl) ?_
      obtain ⟨g2, hm⟩ := xg_some hm
      refine va_lald hx hb hK hP 14 1 cW_L_chains rfl g2 d_CharacterList_putBehind_80 ?_
      exact hb81 b2 b6 t0 (xs_L w54 2 t0.toNatClampNeg) r61 b2 w54 _ _ _ (lv_sub hl [1, 2, 3, 4, 0] rfl) hP hS hm
    · replace hm := xi_pos h hm
      refine lv_lconst (v := (0 : Int64)) hx hb d_CharacterList_putBehind_70 (by decide) ?_
      refine lv_goto (tgt := 81) hx hb d_CharacterList_putBehind_71 rfl ?_
      exact hb81 b2 b6 t0 (0 : Int64) r61 b2 w54 _ _ _ (lv_sub hl [1, 2, 3, 4, 0] rfl) hP hS hm
  have hb19 : ∀ (b2 : Int32) (b3 : Int32) (b4 : Int64) (t0 : Int32) (u : xS) (H : Heap) (locs : List Loc) (ls : Array Slot), lv_has ls 10 [(0, .ref (ad 10)), (1, .ref (ad 1)), (2, .int b2), (3, .int b3), (4, .long b4)] → va_P (dC, dI) xCl (cW dT ad u) H → va_S (xA ad 50) s.heap H locs → m_CharacterList_putBehind_b19 b2 b3 b4 t0 u = some u1 → W p l e (xrm 4 102) s m args below meth c H locs 0 0 Q (F0 m 19 ls [.int t0]) := by
    intro b2 b3 b4 t0 u H locs ls hl hP hS hm
    unfold m_CharacterList_putBehind_b19 at hm
    refine lv_istore (lv' := [(6, .int t0), (0, .ref (ad 10)), (1, .ref (ad 1)), (2, .int b2), (3, .int b3), (4, .long b4)]) hx hb d_CharacterList_putBehind_19 hl (Nat.le_of_ble_eq_true rfl) rfl (fun ls hl => ?_)
    refine lv_iload hx hb d_CharacterList_putBehind_21 (lv_at hl 0 rfl) ?_
    refine lv_if_eq (tgt := 30) hx hb d_CharacterList_putBehind_23 rfl (fun h => ?_) (fun h => ?_)
    · replace hm := xi_pos h hm
      refine lv_aload_n hx hb d_CharacterList_putBehind_30 rfl (lv_at hl 1 rfl) ?_
      refine lv_iload_n hx hb d_CharacterList_putBehind_31 rfl (lv_at hl 4 rfl) ?_
      refine lv_lload hx hb d_CharacterList_putBehind_32 (lv_at hl 5 rfl) ?_
      obtain ⟨r34, h34, hm⟩ := xb1_some hm
      refine xc_i (va_runV (C := "EventGraphText$CharacterList") (As := [.int b3, .long b4]) (rest := []) ⟨hx, hb, hml, hown, hts⟩ (c_CharacterList_nextBehind l dC dI dT ad b3 b4 u r34 h34) (cwV 2 hts (xgV wd_255 wd_257 wds_2 wd_3 wd_258) rfl rfl rfl pd_CharacterList_nextBehind ⟨Nat.le_of_ble_eq_true rfl, Nat.le_of_ble_eq_true rfl⟩) (xpreV (C := "EventGraphText$CharacterList") (T := T_CharacterList) (N := 8) hP hK hN rfl cW_L) rfl rfl hl.1 rfl (lv_room (Nat.le_of_ble_eq_true rfl)) d_CharacterList_putBehind_34 ⟨Nat.le_of_ble_eq_true rfl, Nat.le_of_ble_eq_true rfl⟩) hP hS (fun H locs hP hS => ?_)
      exact hb37 b2 t0 r34 u _ _ _ (lv_sub hl [1, 2, 3, 0] rfl) hP hS hm
    · replace hm := xi_neg h hm
      refine lv_iload_n hx hb d_CharacterList_putBehind_26 rfl (lv_at hl 4 rfl) ?_
      refine lv_goto (tgt := 37) hx hb d_CharacterList_putBehind_27 rfl ?_
      exact hb37 b2 t0 b3 u _ _ _ (lv_sub hl [1, 2, 3, 0] rfl) hP hS hm
  unfold m_CharacterList_putBehind at hm
  refine lv_aload_n hx hb d_CharacterList_putBehind_0 rfl (lv_at hl 0 rfl) ?_
  refine lv_iload_n hx hb d_CharacterList_putBehind_1 rfl (lv_at hl 3 rfl) ?_
  refine lv_iconst (v := (1 : Int32)) hx hb d_CharacterList_putBehind_2 (by decide) ?_
  obtain ⟨r3, h3, hm⟩ := xb1_some hm
  refine xc_l (va_runV (C := "EventGraphText$CharacterList") (As := [.int a3, .int (1 : Int32)]) (rest := []) ⟨hx, hb, hml, hown, hts⟩ (c_CharacterList_childrenOf l dC dI dT ad a3 (1 : Int32) u r3 h3) (cwV 2 hts (xgV wd_251 wd_253 wds_0 wd_3 wd_254) rfl rfl rfl pd_CharacterList_childrenOf ⟨Nat.le_of_ble_eq_true rfl, Nat.le_of_ble_eq_true rfl⟩) (xpreV (C := "EventGraphText$CharacterList") (T := T_CharacterList) (N := 8) hP hK hN rfl cW_L) rfl rfl hl.1 rfl (lv_room (Nat.le_of_ble_eq_true rfl)) d_CharacterList_putBehind_3 ⟨Nat.le_of_ble_eq_true rfl, Nat.le_of_ble_eq_true rfl⟩) hP hS (fun H locs hP hS => ?_)
  refine lv_lload hx hb d_CharacterList_putBehind_6 (lv_at hl 4 rfl) ?_
  refine lv_land hx hb d_CharacterList_putBehind_8 ?_
  refine lv_lconst (v := (0 : Int64)) hx hb d_CharacterList_putBehind_9 (by decide) ?_
  refine xl_cmp_ne (tgt := 18) hx hb d_CharacterList_putBehind_10 d_CharacterList_putBehind_11 rfl (fun h => ?_) (fun h => ?_)
  · replace hm := xi_neg h hm
    refine lv_iconst (v := (0 : Int32)) hx hb d_CharacterList_putBehind_18 (by decide) ?_
    exact hb19 a2 a3 a4 (0 : Int32) u _ _ _ (lv_sub hl [0, 1, 2, 3, 4] rfl) hP hS hm
  · replace hm := xi_pos h hm
    refine lv_iconst (v := (1 : Int32)) hx hb d_CharacterList_putBehind_14 (by decide) ?_
    refine lv_goto (tgt := 19) hx hb d_CharacterList_putBehind_15 rfl ?_
    exact hb19 a2 a3 a4 (1 : Int32) u _ _ _ (lv_sub hl [0, 1, 2, 3, 4] rfl) hP hS hm
