set_option maxHeartbeats 4000000 in
set_option maxRecDepth 100000 in
theorem c_Model_write (l : Launch) (dC : Nat → ClassId) (dI : Nat → Nat → Nat) (dT : Nat → ClassId) (ad : Nat → Nat) (hD : ∀ u, va_D (xA ad 23) (mW dT ad u)) (a1 : Int32) (u : xS) (u1 : xS) (hm : m_Model_write a1 u = some u1) : Met l y_Model_write (Cond.code y_Model_write b_Model_write 4 none :: xG) (xrm 4 101) (va_Pc [.ref (ad 0), .int a1] (xR (dC, dI) xCl (xT dT) (mW dT ad u))) (va_Qv (fun (u9 : xS) => u9 = u1) (fun u9 t => va_P (dC, dI) xCl (mW dT ad u9) t.heap) (xA ad 23)) 0 0 (xA ad 23) := by
  refine xm_rwv (Wd := mW dT ad) (cc := b_Model_write) (maxL := 4) (by decide) rfl (Nat.le_of_ble_eq_true rfl) ?_
  intro p e s m args below meth c Q ls hx hb hml hts hown hK hN hP hl hret
  have hT : ∀ w ∈ xG, w.before args s = true := fun w h => hts w (List.mem_cons_of_mem _ h)
  have hown : s.vm.findClass "EventGraphTextModel" = some m.cls := hown
  have hl : lv_has ls 4 [(0, .ref (ad 0)), (1, .int a1)] := hl
  have hS : va_S (xA ad 23) s.heap s.heap [] := va_S.rf
  have hs137 : ∀ (k137 : Int32 → xS → Option xS) (hk137 : ∀ (b3 : Int32) (u : xS) (H : Heap) (locs : List Loc) (ls : Array Slot), lv_has ls 4 [(0, .ref (ad 0)), (3, .int b3)] → va_P (dC, dI) xCl (mW dT ad u) H → va_S (xA ad 23) s.heap H locs → k137 b3 u = some u1 → W p l e (xrm 4 101) s m args below meth c H locs 0 0 Q (F0 m 137 ls [])), ∀ (b3 : Int32) (u : xS) (H : Heap) (locs : List Loc) (ls : Array Slot), lv_has ls 4 [(0, .ref (ad 0)), (3, .int b3)] → va_P (dC, dI) xCl (mW dT ad u) H → va_S (xA ad 23) s.heap H locs → m_Model_write_s137 k137 b3 u = some u1 → W p l e (xrm 4 101) s m args below meth c H locs 0 0 Q (F0 m 137 ls []) := by
    intro k137 hk137 b3 u H locs ls hl hP hS hm
    unfold m_Model_write_s137 at hm
    refine lv_iload_n hx hb d_Model_write_137 rfl (lv_at hl 1 rfl) ?_
    refine lv_aload_n hx hb d_Model_write_138 rfl (lv_at hl 0 rfl) ?_
    refine va_get (D := (dC, dI)) (ci := 8) (v := .int (xs_i u 2)) (C := "EventGraphTextModel") (T := T_Model) (N := 26) hx hb hT hin_Model hown hK hP 0 mW_X rfl 23 (by decide) (hT _ wd_581) (fun _ h9 => h9) rfl d_Model_write_139 ?_
    refine lv_icmp_ge (tgt := 156) hx hb d_Model_write_142 rfl (fun h => ?_) (fun h => ?_)
    · replace hm := xi_pos h hm
      exact hret hm hP hS d_Model_write_156
    · replace hm := xi_neg h hm
      refine lv_aload_n hx hb d_Model_write_145 rfl (lv_at hl 0 rfl) ?_
      refine lv_iload_n hx hb d_Model_write_146 rfl (lv_at hl 1 rfl) ?_
      obtain ⟨u147, h147, hm⟩ := xb1_some hm
      refine xc_vw (Wd := mW dT ad) (va_runV (C := "EventGraphTextModel") (As := [.int b3]) (rest := []) ⟨hx, hb, hml, hown, hts⟩ (c_Model_putParents l dC dI dT ad hD b3 u u147 h147) (cwV 1 hts (xgV wd_783 wd_785 wds_36 wd_9 wd_786) rfl rfl rfl pd_Model_putParents ⟨Nat.le_of_ble_eq_true rfl, Nat.le_of_ble_eq_true rfl⟩) (xpreV (C := "EventGraphTextModel") (T := T_Model) (N := 26) hP hK hN rfl mW_X) rfl rfl hl.1 rfl (lv_room (Nat.le_of_ble_eq_true rfl)) d_Model_write_147 ⟨Nat.le_of_ble_eq_true rfl, Nat.le_of_ble_eq_true rfl⟩) hS (fun _ h => h) (fun H locs hP hS => ?_)
      refine lv_iinc (k := 1) (v := (b3 + (1 : Int32))) (lv' := [(3, .int (b3 + (1 : Int32))), (0, .ref (ad 0))]) hx hb d_Model_write_150 hl rfl rfl (Nat.le_of_ble_eq_true rfl) rfl (fun ls hl => ?_)
      refine lv_goto (tgt := 137) hx hb d_Model_write_153 rfl ?_
      exact hk137 (b3 + (1 : Int32)) u147 _ _ _ (lv_sub hl [1, 0] rfl) hP hS hm
  have hl137 : ∀ (fu : Nat), ∀ (b3 : Int32) (u : xS) (H : Heap) (locs : List Loc) (ls : Array Slot), lv_has ls 4 [(0, .ref (ad 0)), (3, .int b3)] → va_P (dC, dI) xCl (mW dT ad u) H → va_S (xA ad 23) s.heap H locs → m_Model_write_l137 fu b3 u = some u1 → W p l e (xrm 4 101) s m args below meth c H locs 0 0 Q (F0 m 137 ls []) := by
    intro fu
    induction fu with
    | zero => intro b3 u H locs ls hl hP hS hm; exact absurd hm (fun z => by cases z)
    | succ n ih => intro b3 u H locs ls hl hP hS hm; exact hs137 (m_Model_write_l137 n) ih b3 u H locs ls hl hP hS hm
  have hs78 : ∀ (k78 : Int32 → Int32 → xS → Option xS) (hk78 : ∀ (b2 : Int32) (b3 : Int32) (u : xS) (H : Heap) (locs : List Loc) (ls : Array Slot), lv_has ls 4 [(0, .ref (ad 0)), (2, .int b2), (3, .int b3)] → va_P (dC, dI) xCl (mW dT ad u) H → va_S (xA ad 23) s.heap H locs → k78 b2 b3 u = some u1 → W p l e (xrm 4 101) s m args below meth c H locs 0 0 Q (F0 m 78 ls [])), ∀ (b2 : Int32) (b3 : Int32) (u : xS) (H : Heap) (locs : List Loc) (ls : Array Slot), lv_has ls 4 [(0, .ref (ad 0)), (2, .int b2), (3, .int b3)] → va_P (dC, dI) xCl (mW dT ad u) H → va_S (xA ad 23) s.heap H locs → m_Model_write_s78 k78 b2 b3 u = some u1 → W p l e (xrm 4 101) s m args below meth c H locs 0 0 Q (F0 m 78 ls []) := by
    intro k78 hk78 b2 b3 u H locs ls hl hP hS hm
    unfold m_Model_write_s78 at hm
    refine lv_iload_n hx hb d_Model_write_78 rfl (lv_at hl 2 rfl) ?_
    refine lv_aload_n hx hb d_Model_write_79 rfl (lv_at hl 0 rfl) ?_
    refine va_get (D := (dC, dI)) (ci := 8) (v := .int (xs_i u 2)) (C := "EventGraphTextModel") (T := T_Model) (N := 26) hx hb hT hin_Model hown hK hP 0 mW_X rfl 23 (by decide) (hT _ wd_581) (fun _ h9 => h9) rfl d_Model_write_80 ?_
    refine lv_icmp_ge (tgt := 135) hx hb d_Model_write_83 rfl (fun h => ?_) (fun h => ?_)
    · replace hm := xi_pos h hm
      refine lv_iconst (v := (0 : Int32)) hx hb d_Model_write_135 (by decide) ?_
      refine lv_istore_n (lv' := [(3, .int (0 : Int32)), (0, .ref (ad 0)), (2, .int b2)]) hx hb d_Model_write_136 rfl hl (Nat.le_of_ble_eq_true rfl) rfl (fun ls hl => ?_)
      exact hl137 xFU (0 : Int32) u _ _ _ (lv_sub hl [1, 0] rfl) hP hS hm
    · replace hm := xi_neg h hm
      refine lv_aload_n hx hb d_Model_write_86 rfl (lv_at hl 0 rfl) ?_
      refine va_get (D := (dC, dI)) (ci := 8) (v := .ref (ad 3)) (C := "EventGraphTextModel") (T := T_Model) (N := 26) hx hb hT hin_Model hown hK hP 0 mW_X rfl 3 (by decide) (hT _ wd_561) (fun _ h9 => h9) rfl d_Model_write_87 ?_
      refine lv_aload_n hx hb d_Model_write_90 rfl (lv_at hl 0 rfl) ?_
      refine va_get (D := (dC, dI)) (ci := 8) (v := .ref (ad 21)) (C := "EventGraphTextModel") (T := T_Model) (N := 26) hx hb hT hin_Model hown hK hP 0 mW_X rfl 22 (by decide) (hT _ wd_580) (fun _ h9 => h9) rfl d_Model_write_91 ?_
      refine lv_iload_n hx hb d_Model_write_94 rfl (lv_at hl 2 rfl) ?_
      obtain ⟨g2, hm⟩ := xg_some hm
      refine va_iald hx hb hK hP 21 0 mW_X_turn rfl g2 d_Model_write_95 ?_
      obtain ⟨g3, hm⟩ := xg_some hm
      refine va_zald hx hb hK hP 3 2 mW_X_inserts rfl g3 d_Model_write_96 ?_
      refine lv_if_eq (tgt := 129) hx hb d_Model_write_97 rfl (fun h => ?_) (fun h => ?_)
      · replace hm := xi_pos h hm
        refine lv_iinc (k := 2) (v := (b3 + (1 : Int32))) (lv' := [(3, .int (b3 + (1 : Int32))), (0, .ref (ad 0)), (2, .int b2)]) hx hb d_Model_write_129 hl rfl rfl (Nat.le_of_ble_eq_true rfl) rfl (fun ls hl => ?_)
        refine lv_goto (tgt := 78) hx hb d_Model_write_132 rfl ?_
        exact hk78 b2 (b3 + (1 : Int32)) u _ _ _ (lv_sub hl [1, 2, 0] rfl) hP hS hm
      · replace hm := xi_neg h hm
        refine lv_aload_n hx hb d_Model_write_100 rfl (lv_at hl 0 rfl) ?_
        refine lv_aload_n hx hb d_Model_write_101 rfl (lv_at hl 0 rfl) ?_
        refine va_get (D := (dC, dI)) (ci := 8) (v := .ref (ad 5)) (C := "EventGraphTextModel") (T := T_Model) (N := 26) hx hb hT hin_Model hown hK hP 0 mW_X rfl 5 (by decide) (hT _ wd_563) (fun _ h9 => h9) rfl d_Model_write_102 ?_
        refine lv_aload_n hx hb d_Model_write_105 rfl (lv_at hl 0 rfl) ?_
        refine va_get (D := (dC, dI)) (ci := 8) (v := .ref (ad 21)) (C := "EventGraphTextModel") (T := T_Model) (N := 26) hx hb hT hin_Model hown hK hP 0 mW_X rfl 22 (by decide) (hT _ wd_580) (fun _ h9 => h9) rfl d_Model_write_106 ?_
        refine lv_iload_n hx hb d_Model_write_109 rfl (lv_at hl 2 rfl) ?_
        refine va_iald hx hb hK hP 21 0 mW_X_turn rfl g2 d_Model_write_110 ?_
        refine va_iald hx hb hK hP 5 0 mW_X_letter rfl g3 d_Model_write_111 ?_
        refine lv_iload_n hx hb d_Model_write_112 rfl (lv_at hl 1 rfl) ?_
        refine lv_isub hx hb d_Model_write_113 ?_
        obtain ⟨u114, h114, hm⟩ := xb1_some hm
        refine xc_vw (Wd := mW dT ad) (va_runV (C := "EventGraphTextModel") (As := [.int ((xs_I u 4 (xs_I u 15 b3.toNatClampNeg).toNatClampNeg) - b2)]) (rest := []) ⟨hx, hb, hml, hown, hts⟩ (c_Model_putSigned l dC dI dT ad hD ((xs_I u 4 (xs_I u 15 b3.toNatClampNeg).toNatClampNeg) - b2) u u114 h114) (cwV 1 hts (xgV wd_779 wd_781 wds_37 wd_9 wd_782) rfl rfl rfl pd_Model_putSigned ⟨Nat.le_of_ble_eq_true rfl, Nat.le_of_ble_eq_true rfl⟩) (xpreV (C := "EventGraphTextModel") (T := T_Model) (N := 26) hP hK hN rfl mW_X) rfl rfl hl.1 rfl (lv_room (Nat.le_of_ble_eq_true rfl)) d_Model_write_114 ⟨Nat.le_of_ble_eq_true rfl, Nat.le_of_ble_eq_true rfl⟩) hS (fun _ h => h) (fun H locs hP hS => ?_)
        refine lv_aload_n hx hb d_Model_write_117 rfl (lv_at hl 0 rfl) ?_
        refine va_get (D := (dC, dI)) (ci := 8) (v := .ref (ad 5)) (C := "EventGraphTextModel") (T := T_Model) (N := 26) hx hb hT hin_Model hown hK hP 0 mW_X rfl 5 (by decide) (hT _ wd_563) (fun _ h9 => h9) rfl d_Model_write_118 ?_
        refine lv_aload_n hx hb d_Model_write_121 rfl (lv_at hl 0 rfl) ?_
        refine va_get (D := (dC, dI)) (ci := 8) (v := .ref (ad 21)) (C := "EventGraphTextModel") (T := T_Model) (N := 26) hx hb hT hin_Model hown hK hP 0 mW_X rfl 22 (by decide) (hT _ wd_580) (fun _ h9 => h9) rfl d_Model_write_122 ?_
        refine lv_iload_n hx hb d_Model_write_125 rfl (lv_at hl 2 rfl) ?_
        refine va_iald hx hb hK hP 21 0 mW_X_turn rfl g2 d_Model_write_126 ?_
        obtain ⟨g4, hm⟩ := xg_some hm
        refine va_iald hx hb hK hP 5 0 mW_X_letter rfl g4 d_Model_write_127 ?_
        refine lv_istore_n (lv' := [(2, .int (xs_I u114 4 (xs_I u114 15 b3.toNatClampNeg).toNatClampNeg)), (0, .ref (ad 0)), (3, .int b3)]) hx hb d_Model_write_128 rfl hl (Nat.le_of_ble_eq_true rfl) rfl (fun ls hl => ?_)
        refine lv_iinc (k := 2) (v := (b3 + (1 : Int32))) (lv' := [(3, .int (b3 + (1 : Int32))), (2, .int (xs_I u114 4 (xs_I u114 15 b3.toNatClampNeg).toNatClampNeg)), (0, .ref (ad 0))]) hx hb d_Model_write_129 hl rfl rfl (Nat.le_of_ble_eq_true rfl) rfl (fun ls hl => ?_)
        refine lv_goto (tgt := 78) hx hb d_Model_write_132 rfl ?_
        exact hk78 (xs_I u114 4 (xs_I u114 15 b3.toNatClampNeg).toNatClampNeg) (b3 + (1 : Int32)) u114 _ _ _ (lv_sub hl [2, 1, 0] rfl) hP hS hm
  have hl78 : ∀ (fu : Nat), ∀ (b2 : Int32) (b3 : Int32) (u : xS) (H : Heap) (locs : List Loc) (ls : Array Slot), lv_has ls 4 [(0, .ref (ad 0)), (2, .int b2), (3, .int b3)] → va_P (dC, dI) xCl (mW dT ad u) H → va_S (xA ad 23) s.heap H locs → m_Model_write_l78 fu b2 b3 u = some u1 → W p l e (xrm 4 101) s m args below meth c H locs 0 0 Q (F0 m 78 ls []) := by
    intro fu
    induction fu with
    | zero => intro b2 b3 u H locs ls hl hP hS hm; exact absurd hm (fun z => by cases z)
    | succ n ih => intro b2 b3 u H locs ls hl hP hS hm; exact hs78 (m_Model_write_l78 n) ih b2 b3 u H locs ls hl hP hS hm
  have hs31 : ∀ (k31 : Int32 → Int32 → xS → Option xS) (hk31 : ∀ (b2 : Int32) (b3 : Int32) (u : xS) (H : Heap) (locs : List Loc) (ls : Array Slot), lv_has ls 4 [(0, .ref (ad 0)), (2, .int b2), (3, .int b3)] → va_P (dC, dI) xCl (mW dT ad u) H → va_S (xA ad 23) s.heap H locs → k31 b2 b3 u = some u1 → W p l e (xrm 4 101) s m args below meth c H locs 0 0 Q (F0 m 31 ls [])), ∀ (b2 : Int32) (b3 : Int32) (u : xS) (H : Heap) (locs : List Loc) (ls : Array Slot), lv_has ls 4 [(0, .ref (ad 0)), (2, .int b2), (3, .int b3)] → va_P (dC, dI) xCl (mW dT ad u) H → va_S (xA ad 23) s.heap H locs → m_Model_write_s31 k31 b2 b3 u = some u1 → W p l e (xrm 4 101) s m args below meth c H locs 0 0 Q (F0 m 31 ls []) := by
    intro k31 hk31 b2 b3 u H locs ls hl hP hS hm
    unfold m_Model_write_s31 at hm
    refine lv_iload_n hx hb d_Model_write_31 rfl (lv_at hl 2 rfl) ?_
    refine lv_aload_n hx hb d_Model_write_32 rfl (lv_at hl 0 rfl) ?_
    refine va_get (D := (dC, dI)) (ci := 8) (v := .int (xs_i u 2)) (C := "EventGraphTextModel") (T := T_Model) (N := 26) hx hb hT hin_Model hown hK hP 0 mW_X rfl 23 (by decide) (hT _ wd_581) (fun _ h9 => h9) rfl d_Model_write_33 ?_
    refine lv_icmp_ge (tgt := 74) hx hb d_Model_write_36 rfl (fun h => ?_) (fun h => ?_)
    · replace hm := xi_pos h hm
      refine lv_iconst (v := (0 : Int32)) hx hb d_Model_write_74 (by decide) ?_
      refine lv_istore_n (lv' := [(2, .int (0 : Int32)), (0, .ref (ad 0)), (3, .int b3)]) hx hb d_Model_write_75 rfl hl (Nat.le_of_ble_eq_true rfl) rfl (fun ls hl => ?_)
      refine lv_iconst (v := (0 : Int32)) hx hb d_Model_write_76 (by decide) ?_
      refine lv_istore_n (lv' := [(3, .int (0 : Int32)), (2, .int (0 : Int32)), (0, .ref (ad 0))]) hx hb d_Model_write_77 rfl hl (Nat.le_of_ble_eq_true rfl) rfl (fun ls hl => ?_)
      exact hl78 xFU (0 : Int32) (0 : Int32) u _ _ _ (lv_sub hl [2, 1, 0] rfl) hP hS hm
    · replace hm := xi_neg h hm
      refine lv_aload_n hx hb d_Model_write_39 rfl (lv_at hl 0 rfl) ?_
      refine lv_aload_n hx hb d_Model_write_40 rfl (lv_at hl 0 rfl) ?_
      refine va_get (D := (dC, dI)) (ci := 8) (v := .ref (ad 4)) (C := "EventGraphTextModel") (T := T_Model) (N := 26) hx hb hT hin_Model hown hK hP 0 mW_X rfl 4 (by decide) (hT _ wd_562) (fun _ h9 => h9) rfl d_Model_write_41 ?_
      refine lv_aload_n hx hb d_Model_write_44 rfl (lv_at hl 0 rfl) ?_
      refine va_get (D := (dC, dI)) (ci := 8) (v := .ref (ad 21)) (C := "EventGraphTextModel") (T := T_Model) (N := 26) hx hb hT hin_Model hown hK hP 0 mW_X rfl 22 (by decide) (hT _ wd_580) (fun _ h9 => h9) rfl d_Model_write_45 ?_
      refine lv_iload_n hx hb d_Model_write_48 rfl (lv_at hl 2 rfl) ?_
      obtain ⟨g5, hm⟩ := xg_some hm
      refine va_iald hx hb hK hP 21 0 mW_X_turn rfl g5 d_Model_write_49 ?_
      obtain ⟨g6, hm⟩ := xg_some hm
      refine va_iald hx hb hK hP 4 0 mW_X_index rfl g6 d_Model_write_50 ?_
      refine lv_iload_n hx hb d_Model_write_51 rfl (lv_at hl 1 rfl) ?_
      refine lv_isub hx hb d_Model_write_52 ?_
      obtain ⟨u53, h53, hm⟩ := xb1_some hm
      refine xc_vw (Wd := mW dT ad) (va_runV (C := "EventGraphTextModel") (As := [.int ((xs_I u 3 (xs_I u 15 b3.toNatClampNeg).toNatClampNeg) - b2)]) (rest := []) ⟨hx, hb, hml, hown, hts⟩ (c_Model_putSigned l dC dI dT ad hD ((xs_I u 3 (xs_I u 15 b3.toNatClampNeg).toNatClampNeg) - b2) u u53 h53) (cwV 1 hts (xgV wd_779 wd_781 wds_37 wd_9 wd_782) rfl rfl rfl pd_Model_putSigned ⟨Nat.le_of_ble_eq_true rfl, Nat.le_of_ble_eq_true rfl⟩) (xpreV (C := "EventGraphTextModel") (T := T_Model) (N := 26) hP hK hN rfl mW_X) rfl rfl hl.1 rfl (lv_room (Nat.le_of_ble_eq_true rfl)) d_Model_write_53 ⟨Nat.le_of_ble_eq_true rfl, Nat.le_of_ble_eq_true rfl⟩) hS (fun _ h => h) (fun H locs hP hS => ?_)
      refine lv_aload_n hx hb d_Model_write_56 rfl (lv_at hl 0 rfl) ?_
      refine va_get (D := (dC, dI)) (ci := 8) (v := .ref (ad 4)) (C := "EventGraphTextModel") (T := T_Model) (N := 26) hx hb hT hin_Model hown hK hP 0 mW_X rfl 4 (by decide) (hT _ wd_562) (fun _ h9 => h9) rfl d_Model_write_57 ?_
      refine lv_aload_n hx hb d_Model_write_60 rfl (lv_at hl 0 rfl) ?_
      refine va_get (D := (dC, dI)) (ci := 8) (v := .ref (ad 21)) (C := "EventGraphTextModel") (T := T_Model) (N := 26) hx hb hT hin_Model hown hK hP 0 mW_X rfl 22 (by decide) (hT _ wd_580) (fun _ h9 => h9) rfl d_Model_write_61 ?_
      refine lv_iload_n hx hb d_Model_write_64 rfl (lv_at hl 2 rfl) ?_
      refine va_iald hx hb hK hP 21 0 mW_X_turn rfl g5 d_Model_write_65 ?_
      obtain ⟨g7, hm⟩ := xg_some hm
      refine va_iald hx hb hK hP 4 0 mW_X_index rfl g7 d_Model_write_66 ?_
      refine lv_istore_n (lv' := [(2, .int (xs_I u53 3 (xs_I u53 15 b3.toNatClampNeg).toNatClampNeg)), (0, .ref (ad 0)), (3, .int b3)]) hx hb d_Model_write_67 rfl hl (Nat.le_of_ble_eq_true rfl) rfl (fun ls hl => ?_)
      refine lv_iinc (k := 2) (v := (b3 + (1 : Int32))) (lv' := [(3, .int (b3 + (1 : Int32))), (2, .int (xs_I u53 3 (xs_I u53 15 b3.toNatClampNeg).toNatClampNeg)), (0, .ref (ad 0))]) hx hb d_Model_write_68 hl rfl rfl (Nat.le_of_ble_eq_true rfl) rfl (fun ls hl => ?_)
      refine lv_goto (tgt := 31) hx hb d_Model_write_71 rfl ?_
      exact hk31 (xs_I u53 3 (xs_I u53 15 b3.toNatClampNeg).toNatClampNeg) (b3 + (1 : Int32)) u53 _ _ _ (lv_sub hl [2, 1, 0] rfl) hP hS hm
  have hl31 : ∀ (fu : Nat), ∀ (b2 : Int32) (b3 : Int32) (u : xS) (H : Heap) (locs : List Loc) (ls : Array Slot), lv_has ls 4 [(0, .ref (ad 0)), (2, .int b2), (3, .int b3)] → va_P (dC, dI) xCl (mW dT ad u) H → va_S (xA ad 23) s.heap H locs → m_Model_write_l31 fu b2 b3 u = some u1 → W p l e (xrm 4 101) s m args below meth c H locs 0 0 Q (F0 m 31 ls []) := by
    intro fu
    induction fu with
    | zero => intro b2 b3 u H locs ls hl hP hS hm; exact absurd hm (fun z => by cases z)
    | succ n ih => intro b2 b3 u H locs ls hl hP hS hm; exact hs31 (m_Model_write_l31 n) ih b2 b3 u H locs ls hl hP hS hm
  unfold m_Model_write at hm
  refine lv_aload_n hx hb d_Model_write_0 rfl (lv_at hl 0 rfl) ?_
  refine lv_aload_n hx hb d_Model_write_1 rfl (lv_at hl 0 rfl) ?_
  refine va_get (D := (dC, dI)) (ci := 8) (v := .ref (ad 14)) (C := "EventGraphTextModel") (T := T_Model) (N := 26) hx hb hT hin_Model hown hK hP 0 mW_X rfl 15 (by decide) (hT _ wd_573) (fun _ h9 => h9) rfl d_Model_write_2 ?_
  refine lv_iload_n hx hb d_Model_write_5 rfl (lv_at hl 1 rfl) ?_
  obtain ⟨g1, hm⟩ := xg_some hm
  refine va_lald hx hb hK hP 14 1 mW_X_load rfl g1 d_Model_write_6 ?_
  obtain ⟨u7, h7, hm⟩ := xb1_some hm
  refine xc_vw (Wd := mW dT ad) (va_runV (C := "EventGraphTextModel") (As := [.long (xs_L u 4 a1.toNatClampNeg)]) (rest := []) ⟨hx, hb, hml, hown, hts⟩ (c_Model_order l dC dI dT ad hD (xs_L u 4 a1.toNatClampNeg) u u7 h7) (cwV 1 hts (xgV wd_747 wd_749 wds_31 wd_9 wd_750) rfl rfl rfl pd_Model_order ⟨Nat.le_of_ble_eq_true rfl, Nat.le_of_ble_eq_true rfl⟩) (xpreV (C := "EventGraphTextModel") (T := T_Model) (N := 26) hP hK hN rfl mW_X) rfl rfl hl.1 rfl (lv_room (Nat.le_of_ble_eq_true rfl)) d_Model_write_7 ⟨Nat.le_of_ble_eq_true rfl, Nat.le_of_ble_eq_true rfl⟩) hS (fun _ h => h) (fun H locs hP hS => ?_)
  refine lv_aload_n hx hb d_Model_write_10 rfl (lv_at hl 0 rfl) ?_
  refine lv_iconst (v := (0 : Int32)) hx hb d_Model_write_11 (by decide) ?_
  obtain ⟨w12, hw12, hm⟩ := xlt_some hm
  refine va_put (D := (dC, dI)) (ci := 8) (v := .int (0 : Int32)) (ty := .int) (C := "EventGraphTextModel") (T := T_Model) (N := 26) hx hb hT hin_Model ty_Model tyok_Model nm_Model hown hK hP (hD _) hS 0 mW_X rfl 25 (by decide) (hT _ wd_583) (fun _ h9 => h9) rfl (by decide +kernel) rfl rfl (Nat.le_of_ble_eq_true rfl) d_Model_write_12 (fun H locs hP _ hS => ?_)
  replace hP : va_P (dC, dI) xCl (mW dT ad w12) H := xp_conv ((mW_f_X_size).trans (congrArg (mW dT ad) hw12.symm)) hP
  refine lv_aload_n hx hb d_Model_write_15 rfl (lv_at hl 0 rfl) ?_
  refine lv_aload_n hx hb d_Model_write_16 rfl (lv_at hl 0 rfl) ?_
  refine va_get (D := (dC, dI)) (ci := 8) (v := .int (xs_i w12 2)) (C := "EventGraphTextModel") (T := T_Model) (N := 26) hx hb hT hin_Model hown hK hP 0 mW_X rfl 23 (by decide) (hT _ wd_581) (fun _ h9 => h9) rfl d_Model_write_17 ?_
  obtain ⟨u20, h20, hm⟩ := xb1_some hm
  refine xc_vw (Wd := mW dT ad) (va_runV (C := "EventGraphTextModel") (As := [.int (xs_i w12 2)]) (rest := []) ⟨hx, hb, hml, hown, hts⟩ (c_Model_put l dC dI dT ad hD (xs_i w12 2) w12 u20 h20) (cwV 1 hts (xgV wd_771 wd_773 wds_34 wd_9 wd_774) rfl rfl rfl pd_Model_put ⟨Nat.le_of_ble_eq_true rfl, Nat.le_of_ble_eq_true rfl⟩) (xpreV (C := "EventGraphTextModel") (T := T_Model) (N := 26) hP hK hN rfl mW_X) rfl rfl hl.1 rfl (lv_room (Nat.le_of_ble_eq_true rfl)) d_Model_write_20 ⟨Nat.le_of_ble_eq_true rfl, Nat.le_of_ble_eq_true rfl⟩) hS (fun _ h => h) (fun H locs hP hS => ?_)
  refine lv_aload_n hx hb d_Model_write_23 rfl (lv_at hl 0 rfl) ?_
  obtain ⟨u24, h24, hm⟩ := xb1_some hm
  refine xc_vw (Wd := mW dT ad) (va_runV (C := "EventGraphTextModel") (As := []) (rest := []) ⟨hx, hb, hml, hown, hts⟩ (c_Model_putRuns l dC dI dT ad hD u20 u24 h24) (cwV 0 hts (xgV wd_775 wd_777 wds_35 wd_9 wd_778) rfl rfl rfl pd_Model_putRuns ⟨Nat.le_of_ble_eq_true rfl, Nat.le_of_ble_eq_true rfl⟩) (xpreV (C := "EventGraphTextModel") (T := T_Model) (N := 26) hP hK hN rfl mW_X) rfl rfl hl.1 rfl (lv_room (Nat.le_of_ble_eq_true rfl)) d_Model_write_24 ⟨Nat.le_of_ble_eq_true rfl, Nat.le_of_ble_eq_true rfl⟩) hS (fun _ h => h) (fun H locs hP hS => ?_)
  refine lv_iconst (v := (0 : Int32)) hx hb d_Model_write_27 (by decide) ?_
  refine lv_istore_n (lv' := [(2, .int (0 : Int32)), (0, .ref (ad 0)), (1, .int a1)]) hx hb d_Model_write_28 rfl hl (Nat.le_of_ble_eq_true rfl) rfl (fun ls hl => ?_)
  refine lv_iconst (v := (0 : Int32)) hx hb d_Model_write_29 (by decide) ?_
  refine lv_istore_n (lv' := [(3, .int (0 : Int32)), (2, .int (0 : Int32)), (0, .ref (ad 0)), (1, .int a1)]) hx hb d_Model_write_30 rfl hl (Nat.le_of_ble_eq_true rfl) rfl (fun ls hl => ?_)
  exact hl31 xFU (0 : Int32) (0 : Int32) u24 _ _ _ (lv_sub hl [2, 1, 0] rfl) hP hS hm
set_option maxHeartbeats 4000000 in
set_option maxRecDepth 100000 in
theorem c_Model_octets (l : Launch) (dC : Nat → ClassId) (dI : Nat → Nat → Nat) (dT : Nat → ClassId) (ad : Nat → Nat) (hD : ∀ u, va_D (xA ad 23) (mW dT ad u)) (a1 : Int32) (u : xS) (out : Int32) (u1 : xS) (hm : m_Model_octets a1 u = some (out, u1)) : Met l y_Model_octets (Cond.code y_Model_octets b_Model_octets 2 (some .int) :: xG) (xrm 5 124) (va_Pc [.ref (ad 0), .int a1] (xR (dC, dI) xCl (xT dT) (mW dT ad u))) (va_Qi (fun r9 (u9 : xS) => r9 = out ∧ u9 = u1) (fun u9 t => va_P (dC, dI) xCl (mW dT ad u9) t.heap) (xA ad 23)) 0 0 (xA ad 23) := by
  refine xm_rwi (Wd := mW dT ad) (cc := b_Model_octets) (maxL := 2) (by decide) rfl (Nat.le_of_ble_eq_true rfl) ?_
  intro p e s m args below meth c Q ls hx hb hml hts hown hK hN hP hl hret
  have hT : ∀ w ∈ xG, w.before args s = true := fun w h => hts w (List.mem_cons_of_mem _ h)
  have hown : s.vm.findClass "EventGraphTextModel" = some m.cls := hown
  have hl : lv_has ls 2 [(0, .ref (ad 0)), (1, .int a1)] := hl
  have hS : va_S (xA ad 23) s.heap s.heap [] := va_S.rf
  unfold m_Model_octets at hm
  refine lv_aload_n hx hb d_Model_octets_0 rfl (lv_at hl 0 rfl) ?_
  refine lv_iload_n hx hb d_Model_octets_1 rfl (lv_at hl 1 rfl) ?_
  obtain ⟨r2, h2, hm⟩ := xb1_some hm
  refine xc_i (va_runV (C := "EventGraphTextModel") (As := [.int a1]) (rest := []) ⟨hx, hb, hml, hown, hts⟩ (c_Model_none l dC dI dT ad a1 u r2 h2) (cwV 1 hts (xgV wd_711 wd_713 wds_27 wd_9 wd_714) rfl rfl rfl pd_Model_none ⟨Nat.le_of_ble_eq_true rfl, Nat.le_of_ble_eq_true rfl⟩) (xpreV (C := "EventGraphTextModel") (T := T_Model) (N := 26) hP hK hN rfl mW_X) rfl rfl hl.1 rfl (lv_room (Nat.le_of_ble_eq_true rfl)) d_Model_octets_2 ⟨Nat.le_of_ble_eq_true rfl, Nat.le_of_ble_eq_true rfl⟩) hP hS (fun H locs hP hS => ?_)
  refine lv_if_eq (tgt := 12) hx hb d_Model_octets_5 rfl (fun h => ?_) (fun h => ?_)
  · replace hm := xi_pos h hm
    refine lv_aload_n hx hb d_Model_octets_12 rfl (lv_at hl 0 rfl) ?_
    refine lv_iload_n hx hb d_Model_octets_13 rfl (lv_at hl 1 rfl) ?_
    obtain ⟨u14, h14, hm⟩ := xb1_some hm
    refine xc_vw (Wd := mW dT ad) (va_runV (C := "EventGraphTextModel") (As := [.int a1]) (rest := []) ⟨hx, hb, hml, hown, hts⟩ (c_Model_write l dC dI dT ad hD a1 u u14 h14) (cwV 1 hts (xgV wd_767 wd_769 wds_38 wd_9 wd_770) rfl rfl rfl pd_Model_write ⟨Nat.le_of_ble_eq_true rfl, Nat.le_of_ble_eq_true rfl⟩) (xpreV (C := "EventGraphTextModel") (T := T_Model) (N := 26) hP hK hN rfl mW_X) rfl rfl hl.1 rfl (lv_room (Nat.le_of_ble_eq_true rfl)) d_Model_octets_14 ⟨Nat.le_of_ble_eq_true rfl, Nat.le_of_ble_eq_true rfl⟩) hS (fun _ h => h) (fun H locs hP hS => ?_)
    refine lv_aload_n hx hb d_Model_octets_17 rfl (lv_at hl 0 rfl) ?_
    refine va_get (D := (dC, dI)) (ci := 8) (v := .int (xs_i u14 3)) (C := "EventGraphTextModel") (T := T_Model) (N := 26) hx hb hT hin_Model hown hK hP 0 mW_X rfl 25 (by decide) (hT _ wd_583) (fun _ h9 => h9) rfl d_Model_octets_18 ?_
    exact hret hm hP hS d_Model_octets_21
  · replace hm := xi_neg h hm
    refine lv_sipush (v := (-1000 : Int32)) hx hb d_Model_octets_8 (by decide) ?_
    exact hret hm hP hS d_Model_octets_11
set_option maxHeartbeats 4000000 in
set_option maxRecDepth 100000 in
theorem c_Model_octet (l : Launch) (dC : Nat → ClassId) (dI : Nat → Nat → Nat) (dT : Nat → ClassId) (ad : Nat → Nat) (hD : ∀ u, va_D (xA ad 23) (mW dT ad u)) (a1 : Int32) (a2 : Int32) (u : xS) (out : Int32) (u1 : xS) (hm : m_Model_octet a1 a2 u = some (out, u1)) : Met l y_Model_octet (Cond.code y_Model_octet b_Model_octet 3 (some .int) :: xG) (xrm 5 124) (va_Pc [.ref (ad 0), .int a1, .int a2] (xR (dC, dI) xCl (xT dT) (mW dT ad u))) (va_Qi (fun r9 (u9 : xS) => r9 = out ∧ u9 = u1) (fun u9 t => va_P (dC, dI) xCl (mW dT ad u9) t.heap) (xA ad 23)) 0 0 (xA ad 23) := by
  refine xm_rwi (Wd := mW dT ad) (cc := b_Model_octet) (maxL := 3) (by decide) rfl (Nat.le_of_ble_eq_true rfl) ?_
  intro p e s m args below meth c Q ls hx hb hml hts hown hK hN hP hl hret
  have hT : ∀ w ∈ xG, w.before args s = true := fun w h => hts w (List.mem_cons_of_mem _ h)
  have hown : s.vm.findClass "EventGraphTextModel" = some m.cls := hown
  have hl : lv_has ls 3 [(0, .ref (ad 0)), (1, .int a1), (2, .int a2)] := hl
  have hS : va_S (xA ad 23) s.heap s.heap [] := va_S.rf
  unfold m_Model_octet at hm
  refine lv_aload_n hx hb d_Model_octet_0 rfl (lv_at hl 0 rfl) ?_
  refine lv_iload_n hx hb d_Model_octet_1 rfl (lv_at hl 1 rfl) ?_
  obtain ⟨r2, h2, hm⟩ := xb1_some hm
  refine xc_i (va_runV (C := "EventGraphTextModel") (As := [.int a1]) (rest := []) ⟨hx, hb, hml, hown, hts⟩ (c_Model_none l dC dI dT ad a1 u r2 h2) (cwV 1 hts (xgV wd_711 wd_713 wds_27 wd_9 wd_714) rfl rfl rfl pd_Model_none ⟨Nat.le_of_ble_eq_true rfl, Nat.le_of_ble_eq_true rfl⟩) (xpreV (C := "EventGraphTextModel") (T := T_Model) (N := 26) hP hK hN rfl mW_X) rfl rfl hl.1 rfl (lv_room (Nat.le_of_ble_eq_true rfl)) d_Model_octet_2 ⟨Nat.le_of_ble_eq_true rfl, Nat.le_of_ble_eq_true rfl⟩) hP hS (fun H locs hP hS => ?_)
  refine lv_if_eq (tgt := 12) hx hb d_Model_octet_5 rfl (fun h => ?_) (fun h => ?_)
  · replace hm := xi_pos h hm
    refine lv_aload_n hx hb d_Model_octet_12 rfl (lv_at hl 0 rfl) ?_
    refine lv_iload_n hx hb d_Model_octet_13 rfl (lv_at hl 1 rfl) ?_
    obtain ⟨u14, h14, hm⟩ := xb1_some hm
    refine xc_vw (Wd := mW dT ad) (va_runV (C := "EventGraphTextModel") (As := [.int a1]) (rest := []) ⟨hx, hb, hml, hown, hts⟩ (c_Model_write l dC dI dT ad hD a1 u u14 h14) (cwV 1 hts (xgV wd_767 wd_769 wds_38 wd_9 wd_770) rfl rfl rfl pd_Model_write ⟨Nat.le_of_ble_eq_true rfl, Nat.le_of_ble_eq_true rfl⟩) (xpreV (C := "EventGraphTextModel") (T := T_Model) (N := 26) hP hK hN rfl mW_X) rfl rfl hl.1 rfl (lv_room (Nat.le_of_ble_eq_true rfl)) d_Model_octet_14 ⟨Nat.le_of_ble_eq_true rfl, Nat.le_of_ble_eq_true rfl⟩) hS (fun _ h => h) (fun H locs hP hS => ?_)
    refine lv_iload_n hx hb d_Model_octet_17 rfl (lv_at hl 2 rfl) ?_
    refine lv_if_lt (tgt := 29) hx hb d_Model_octet_18 rfl (fun h => ?_) (fun h => ?_)
    · replace hm := xi_pos h hm
      refine lv_sipush (v := (-1000 : Int32)) hx hb d_Model_octet_29 (by decide) ?_
      refine lv_goto (tgt := 41) hx hb d_Model_octet_32 rfl ?_
      exact hret hm hP hS d_Model_octet_41
    · replace hm := xi_neg h hm
      refine lv_iload_n hx hb d_Model_octet_21 rfl (lv_at hl 2 rfl) ?_
      refine lv_aload_n hx hb d_Model_octet_22 rfl (lv_at hl 0 rfl) ?_
      refine va_get (D := (dC, dI)) (ci := 8) (v := .int (xs_i u14 3)) (C := "EventGraphTextModel") (T := T_Model) (N := 26) hx hb hT hin_Model hown hK hP 0 mW_X rfl 25 (by decide) (hT _ wd_583) (fun _ h9 => h9) rfl d_Model_octet_23 ?_
      refine lv_icmp_lt (tgt := 35) hx hb d_Model_octet_26 rfl (fun h => ?_) (fun h => ?_)
      · replace hm := xi_pos h hm
        refine lv_aload_n hx hb d_Model_octet_35 rfl (lv_at hl 0 rfl) ?_
        refine va_get (D := (dC, dI)) (ci := 8) (v := .ref (ad 22)) (C := "EventGraphTextModel") (T := T_Model) (N := 26) hx hb hT hin_Model hown hK hP 0 mW_X rfl 24 (by decide) (hT _ wd_582) (fun _ h9 => h9) rfl d_Model_octet_36 ?_
        refine lv_iload_n hx hb d_Model_octet_39 rfl (lv_at hl 2 rfl) ?_
        obtain ⟨g1, hm⟩ := xg_some hm
        refine va_iald hx hb hK hP 22 0 mW_X_out rfl g1 d_Model_octet_40 ?_
        exact hret hm hP hS d_Model_octet_41
      · replace hm := xi_neg h hm
        refine lv_sipush (v := (-1000 : Int32)) hx hb d_Model_octet_29 (by decide) ?_
        refine lv_goto (tgt := 41) hx hb d_Model_octet_32 rfl ?_
        exact hret hm hP hS d_Model_octet_41
  · replace hm := xi_neg h hm
    refine lv_sipush (v := (-1000 : Int32)) hx hb d_Model_octet_8 (by decide) ?_
    exact hret hm hP hS d_Model_octet_11
set_option maxHeartbeats 4000000 in
set_option maxRecDepth 100000 in
theorem c_Model_events (l : Launch) (dC : Nat → ClassId) (dI : Nat → Nat → Nat) (dT : Nat → ClassId) (ad : Nat → Nat) (a1 : Int32) (u : xS) (out : Int32) (hm : m_Model_events a1 u = some out) : Met l y_Model_events (Cond.code y_Model_events b_Model_events 2 (some .int) :: xG) (xrm 2 45) (va_Pc [.ref (ad 0), .int a1] (xR (dC, dI) xCl (xT dT) (mW dT ad u))) (va_Qi (fun r9 (_ : Unit) => r9 = out) (fun _ _ => True) xN) 0 0 xN := by
  refine xm_roi (cc := b_Model_events) (maxL := 2) (by decide) rfl (Nat.le_of_ble_eq_true rfl) ?_
  intro p e s m args below meth c Q ls hx hb hml hts hown hK hN hP hl hret
  have hT : ∀ w ∈ xG, w.before args s = true := fun w h => hts w (List.mem_cons_of_mem _ h)
  have hown : s.vm.findClass "EventGraphTextModel" = some m.cls := hown
  have hl : lv_has ls 2 [(0, .ref (ad 0)), (1, .int a1)] := hl
  have hS : va_S xN s.heap s.heap [] := va_S.rf
  unfold m_Model_events at hm
  refine lv_iload_n hx hb d_Model_events_0 rfl (lv_at hl 1 rfl) ?_
  obtain ⟨r1, h1, hm⟩ := xb1_some hm
  refine xc_i (va_runS (As := [.int a1]) (rest := []) ⟨hx, hb, hml, hown, hts⟩ (c_Model_wrong l a1 r1 h1) (va_cwS 1 hts (xgS wd_641 wd_642 wd_9 wd_643) rfl rfl rfl pd_Model_wrong.2 ⟨Nat.le_of_ble_eq_true rfl, Nat.le_of_ble_eq_true rfl⟩) xpreS0 rfl rfl hl.1 rfl (lv_room (Nat.le_of_ble_eq_true rfl)) d_Model_events_1 ⟨Nat.le_of_ble_eq_true rfl, Nat.le_of_ble_eq_true rfl⟩) hP hS (fun H locs hP hS => ?_)
  refine lv_if_eq (tgt := 13) hx hb d_Model_events_4 rfl (fun h => ?_) (fun h => ?_)
  · replace hm := xi_pos h hm
    refine lv_aload_n hx hb d_Model_events_13 rfl (lv_at hl 0 rfl) ?_
    refine va_get (D := (dC, dI)) (ci := 8) (v := .ref (ad 12)) (C := "EventGraphTextModel") (T := T_Model) (N := 26) hx hb hT hin_Model hown hK hP 0 mW_X rfl 13 (by decide) (hT _ wd_571) (fun _ h9 => h9) rfl d_Model_events_14 ?_
    refine lv_iload_n hx hb d_Model_events_17 rfl (lv_at hl 1 rfl) ?_
    obtain ⟨g1, hm⟩ := xg_some hm
    refine va_lald hx hb hK hP 12 1 mW_X_graph rfl g1 d_Model_events_18 ?_
    obtain ⟨r19, h19, hm⟩ := xb1_some hm
    refine xc_i (va_runS (As := [.long (xs_L u 2 a1.toNatClampNeg)]) (rest := []) ⟨hx, hb, hml, hown, hts⟩ (c_Model_many l (xs_L u 2 a1.toNatClampNeg) r19 h19) (va_cwS 1 hts (xgS wd_727 wd_728 wd_9 wd_729) rfl rfl rfl pd_Model_many.2 ⟨Nat.le_of_ble_eq_true rfl, Nat.le_of_ble_eq_true rfl⟩) xpreS0 rfl rfl hl.1 rfl (lv_room (Nat.le_of_ble_eq_true rfl)) d_Model_events_19 ⟨Nat.le_of_ble_eq_true rfl, Nat.le_of_ble_eq_true rfl⟩) hP hS (fun H locs hP hS => ?_)
    exact hret hm hS d_Model_events_22
  · replace hm := xi_neg h hm
    refine lv_sipush (v := (-1000 : Int32)) hx hb d_Model_events_7 (by decide) ?_
    refine lv_goto (tgt := 22) hx hb d_Model_events_10 rfl ?_
    exact hret hm hS d_Model_events_22
set_option maxHeartbeats 4000000 in
set_option maxRecDepth 100000 in
theorem c_Model_heads (l : Launch) (dC : Nat → ClassId) (dI : Nat → Nat → Nat) (dT : Nat → ClassId) (ad : Nat → Nat) (a1 : Int32) (u : xS) (out : Int32) (hm : m_Model_heads a1 u = some out) : Met l y_Model_heads (Cond.code y_Model_heads b_Model_heads 2 (some .int) :: xG) (xrm 2 47) (va_Pc [.ref (ad 0), .int a1] (xR (dC, dI) xCl (xT dT) (mW dT ad u))) (va_Qi (fun r9 (_ : Unit) => r9 = out) (fun _ _ => True) xN) 0 0 xN := by
  refine xm_roi (cc := b_Model_heads) (maxL := 2) (by decide) rfl (Nat.le_of_ble_eq_true rfl) ?_
  intro p e s m args below meth c Q ls hx hb hml hts hown hK hN hP hl hret
  have hT : ∀ w ∈ xG, w.before args s = true := fun w h => hts w (List.mem_cons_of_mem _ h)
  have hown : s.vm.findClass "EventGraphTextModel" = some m.cls := hown
  have hl : lv_has ls 2 [(0, .ref (ad 0)), (1, .int a1)] := hl
  have hS : va_S xN s.heap s.heap [] := va_S.rf
  unfold m_Model_heads at hm
  refine lv_iload_n hx hb d_Model_heads_0 rfl (lv_at hl 1 rfl) ?_
  obtain ⟨r1, h1, hm⟩ := xb1_some hm
  refine xc_i (va_runS (As := [.int a1]) (rest := []) ⟨hx, hb, hml, hown, hts⟩ (c_Model_wrong l a1 r1 h1) (va_cwS 1 hts (xgS wd_641 wd_642 wd_9 wd_643) rfl rfl rfl pd_Model_wrong.2 ⟨Nat.le_of_ble_eq_true rfl, Nat.le_of_ble_eq_true rfl⟩) xpreS0 rfl rfl hl.1 rfl (lv_room (Nat.le_of_ble_eq_true rfl)) d_Model_heads_1 ⟨Nat.le_of_ble_eq_true rfl, Nat.le_of_ble_eq_true rfl⟩) hP hS (fun H locs hP hS => ?_)
  refine lv_if_eq (tgt := 13) hx hb d_Model_heads_4 rfl (fun h => ?_) (fun h => ?_)
  · replace hm := xi_pos h hm
    refine lv_aload_n hx hb d_Model_heads_13 rfl (lv_at hl 0 rfl) ?_
    refine lv_aload_n hx hb d_Model_heads_14 rfl (lv_at hl 0 rfl) ?_
    refine va_get (D := (dC, dI)) (ci := 8) (v := .ref (ad 12)) (C := "EventGraphTextModel") (T := T_Model) (N := 26) hx hb hT hin_Model hown hK hP 0 mW_X rfl 13 (by decide) (hT _ wd_571) (fun _ h9 => h9) rfl d_Model_heads_15 ?_
    refine lv_iload_n hx hb d_Model_heads_18 rfl (lv_at hl 1 rfl) ?_
    obtain ⟨g1, hm⟩ := xg_some hm
    refine va_lald hx hb hK hP 12 1 mW_X_graph rfl g1 d_Model_heads_19 ?_
    obtain ⟨r20, h20, hm⟩ := xb1_some hm
    refine xc_l (va_runV (C := "EventGraphTextModel") (As := [.long (xs_L u 2 a1.toNatClampNeg)]) (rest := []) ⟨hx, hb, hml, hown, hts⟩ (c_Model_tips l dC dI dT ad (xs_L u 2 a1.toNatClampNeg) u r20 h20) (cwV 1 hts (xgV wd_674 wd_676 wds_19 wd_9 wd_677) rfl rfl rfl pd_Model_tips ⟨Nat.le_of_ble_eq_true rfl, Nat.le_of_ble_eq_true rfl⟩) (xpreV (C := "EventGraphTextModel") (T := T_Model) (N := 26) hP hK hN rfl mW_X) rfl rfl hl.1 rfl (lv_room (Nat.le_of_ble_eq_true rfl)) d_Model_heads_20 ⟨Nat.le_of_ble_eq_true rfl, Nat.le_of_ble_eq_true rfl⟩) hP hS (fun H locs hP hS => ?_)
    obtain ⟨r23, h23, hm⟩ := xb1_some hm
    refine xc_i (va_runS (As := [.long r20]) (rest := []) ⟨hx, hb, hml, hown, hts⟩ (c_Model_many l r20 r23 h23) (va_cwS 1 hts (xgS wd_727 wd_728 wd_9 wd_729) rfl rfl rfl pd_Model_many.2 ⟨Nat.le_of_ble_eq_true rfl, Nat.le_of_ble_eq_true rfl⟩) xpreS0 rfl rfl hl.1 rfl (lv_room (Nat.le_of_ble_eq_true rfl)) d_Model_heads_23 ⟨Nat.le_of_ble_eq_true rfl, Nat.le_of_ble_eq_true rfl⟩) hP hS (fun H locs hP hS => ?_)
    exact hret hm hS d_Model_heads_26
  · replace hm := xi_neg h hm
    refine lv_sipush (v := (-1000 : Int32)) hx hb d_Model_heads_7 (by decide) ?_
    refine lv_goto (tgt := 26) hx hb d_Model_heads_10 rfl ?_
    exact hret hm hS d_Model_heads_26
set_option maxHeartbeats 4000000 in
set_option maxRecDepth 100000 in
theorem c_Model_head (l : Launch) (dC : Nat → ClassId) (dI : Nat → Nat → Nat) (dT : Nat → ClassId) (ad : Nat → Nat) (a1 : Int32) (a2 : Int32) (u : xS) (out : Int32) (hm : m_Model_head a1 a2 u = some out) : Met l y_Model_head (Cond.code y_Model_head b_Model_head 8 (some .int) :: xG) (xrm 2 47) (va_Pc [.ref (ad 0), .int a1, .int a2] (xR (dC, dI) xCl (xT dT) (mW dT ad u))) (va_Qi (fun r9 (_ : Unit) => r9 = out) (fun _ _ => True) xN) 0 0 xN := by
  refine xm_roi (cc := b_Model_head) (maxL := 8) (by decide) rfl (Nat.le_of_ble_eq_true rfl) ?_
  intro p e s m args below meth c Q ls hx hb hml hts hown hK hN hP hl hret
  have hT : ∀ w ∈ xG, w.before args s = true := fun w h => hts w (List.mem_cons_of_mem _ h)
  have hown : s.vm.findClass "EventGraphTextModel" = some m.cls := hown
  have hl : lv_has ls 8 [(0, .ref (ad 0)), (1, .int a1), (2, .int a2)] := hl
  have hS : va_S xN s.heap s.heap [] := va_S.rf
  have hs41 : ∀ (k32 : Int32 → Int64 → Int32 → Int32 → xS → Option Int32) (hk32 : ∀ (b2 : Int32) (b3 : Int64) (b5 : Int32) (b6 : Int32) (H : Heap) (locs : List Loc) (ls : Array Slot), lv_has ls 8 [(0, .ref (ad 0)), (2, .int b2), (3, .long b3), (5, .int b5), (6, .int b6)] → va_P (dC, dI) xCl (mW dT ad u) H → va_S xN s.heap H locs → k32 b2 b3 b5 b6 u = some out → W p l e (xrm 2 47) s m args below meth c H locs 0 0 Q (F0 m 32 ls [])) (k41 : Int32 → Int64 → Int32 → Int32 → Int32 → xS → Option Int32) (hk41 : ∀ (b2 : Int32) (b3 : Int64) (b5 : Int32) (b6 : Int32) (b7 : Int32) (H : Heap) (locs : List Loc) (ls : Array Slot), lv_has ls 8 [(0, .ref (ad 0)), (2, .int b2), (3, .long b3), (5, .int b5), (6, .int b6), (7, .int b7)] → va_P (dC, dI) xCl (mW dT ad u) H → va_S xN s.heap H locs → k41 b2 b3 b5 b6 b7 u = some out → W p l e (xrm 2 47) s m args below meth c H locs 0 0 Q (F0 m 41 ls [])), ∀ (b2 : Int32) (b3 : Int64) (b5 : Int32) (b6 : Int32) (b7 : Int32) (H : Heap) (locs : List Loc) (ls : Array Slot), lv_has ls 8 [(0, .ref (ad 0)), (2, .int b2), (3, .long b3), (5, .int b5), (6, .int b6), (7, .int b7)] → va_P (dC, dI) xCl (mW dT ad u) H → va_S xN s.heap H locs → m_Model_head_s41 k32 k41 b2 b3 b5 b6 b7 u = some out → W p l e (xrm 2 47) s m args below meth c H locs 0 0 Q (F0 m 41 ls []) := by
    intro k32 hk32 k41 hk41 b2 b3 b5 b6 b7 H locs ls hl hP hS hm
    unfold m_Model_head_s41 at hm
    refine lv_iload hx hb d_Model_head_41 (lv_at hl 5 rfl) ?_
    refine lv_aload_n hx hb d_Model_head_43 rfl (lv_at hl 0 rfl) ?_
    refine va_get (D := (dC, dI)) (ci := 8) (v := .int (xs_i u 0)) (C := "EventGraphTextModel") (T := T_Model) (N := 26) hx hb hT hin_Model hown hK hP 0 mW_X rfl 0 (by decide) (hT _ wd_558) (fun _ h9 => h9) rfl d_Model_head_44 ?_
    refine lv_icmp_ge (tgt := 99) hx hb d_Model_head_47 rfl (fun h => ?_) (fun h => ?_)
    · replace hm := xi_pos h hm
      refine lv_iinc (k := 4) (v := (b6 + (1 : Int32))) (lv' := [(6, .int (b6 + (1 : Int32))), (0, .ref (ad 0)), (2, .int b2), (3, .long b3), (5, .int b5), (7, .int b7)]) hx hb d_Model_head_99 hl rfl rfl (Nat.le_of_ble_eq_true rfl) rfl (fun ls hl => ?_)
      refine lv_goto (tgt := 32) hx hb d_Model_head_102 rfl ?_
      exact hk32 b2 b3 b5 (b6 + (1 : Int32)) _ _ _ (lv_sub hl [1, 2, 3, 4, 0] rfl) hP hS hm
    · replace hm := xi_neg h hm
      refine lv_aload_n hx hb d_Model_head_50 rfl (lv_at hl 0 rfl) ?_
      refine va_get (D := (dC, dI)) (ci := 8) (v := .ref (ad 1)) (C := "EventGraphTextModel") (T := T_Model) (N := 26) hx hb hT hin_Model hown hK hP 0 mW_X rfl 1 (by decide) (hT _ wd_559) (fun _ h9 => h9) rfl d_Model_head_51 ?_
      refine lv_iload hx hb d_Model_head_54 (lv_at hl 5 rfl) ?_
      obtain ⟨g2, hm⟩ := xg_some hm
      refine va_iald hx hb hK hP 1 0 mW_X_site rfl g2 d_Model_head_56 ?_
      refine lv_iload hx hb d_Model_head_57 (lv_at hl 4 rfl) ?_
      refine lv_icmp_ne (tgt := 93) hx hb d_Model_head_59 rfl (fun h => ?_) (fun h => ?_)
      · replace hm := xi_neg h hm
        refine lv_iinc (k := 5) (v := (b7 + (1 : Int32))) (lv' := [(7, .int (b7 + (1 : Int32))), (0, .ref (ad 0)), (2, .int b2), (3, .long b3), (5, .int b5), (6, .int b6)]) hx hb d_Model_head_93 hl rfl rfl (Nat.le_of_ble_eq_true rfl) rfl (fun ls hl => ?_)
        refine lv_goto (tgt := 41) hx hb d_Model_head_96 rfl ?_
        exact hk41 b2 b3 b5 b6 (b7 + (1 : Int32)) _ _ _ (lv_sub hl [1, 2, 3, 4, 5, 0] rfl) hP hS hm
      · replace hm := xi_pos h hm
        refine lv_lload_n hx hb d_Model_head_62 rfl (lv_at hl 2 rfl) ?_
        refine lv_iload hx hb d_Model_head_63 (lv_at hl 5 rfl) ?_
        obtain ⟨r65, h65, hm⟩ := xb1_some hm
        refine xc_i (va_runS (As := [.long b3, .int b7]) (rest := []) ⟨hx, hb, hml, hown, hts⟩ (c_Model_in l b3 b7 r65 h65) (va_cwS 2 hts (xgS wd_656 wd_657 wd_9 wd_658) rfl rfl rfl pd_Model_in.2 ⟨Nat.le_of_ble_eq_true rfl, Nat.le_of_ble_eq_true rfl⟩) xpreS0 rfl rfl hl.1 rfl (lv_room (Nat.le_of_ble_eq_true rfl)) d_Model_head_65 ⟨Nat.le_of_ble_eq_true rfl, Nat.le_of_ble_eq_true rfl⟩) hP hS (fun H locs hP hS => ?_)
        refine lv_if_eq (tgt := 93) hx hb d_Model_head_68 rfl (fun h => ?_) (fun h => ?_)
        · replace hm := xi_pos h hm
          refine lv_iinc (k := 5) (v := (b7 + (1 : Int32))) (lv' := [(7, .int (b7 + (1 : Int32))), (0, .ref (ad 0)), (2, .int b2), (3, .long b3), (5, .int b5), (6, .int b6)]) hx hb d_Model_head_93 hl rfl rfl (Nat.le_of_ble_eq_true rfl) rfl (fun ls hl => ?_)
          refine lv_goto (tgt := 41) hx hb d_Model_head_96 rfl ?_
          exact hk41 b2 b3 b5 b6 (b7 + (1 : Int32)) _ _ _ (lv_sub hl [1, 2, 3, 4, 5, 0] rfl) hP hS hm
        · replace hm := xi_neg h hm
          refine lv_iload hx hb d_Model_head_71 (lv_at hl 3 rfl) ?_
          refine lv_iload_n hx hb d_Model_head_73 rfl (lv_at hl 1 rfl) ?_
          refine lv_icmp_ne (tgt := 90) hx hb d_Model_head_74 rfl (fun h => ?_) (fun h => ?_)
          · replace hm := xi_neg h hm
            refine lv_iinc (k := 3) (v := (b5 + (1 : Int32))) (lv' := [(5, .int (b5 + (1 : Int32))), (0, .ref (ad 0)), (2, .int b2), (3, .long b3), (6, .int b6), (7, .int b7)]) hx hb d_Model_head_90 hl rfl rfl (Nat.le_of_ble_eq_true rfl) rfl (fun ls hl => ?_)
            refine lv_iinc (k := 5) (v := (b7 + (1 : Int32))) (lv' := [(7, .int (b7 + (1 : Int32))), (5, .int (b5 + (1 : Int32))), (0, .ref (ad 0)), (2, .int b2), (3, .long b3), (6, .int b6)]) hx hb d_Model_head_93 hl rfl rfl (Nat.le_of_ble_eq_true rfl) rfl (fun ls hl => ?_)
            refine lv_goto (tgt := 41) hx hb d_Model_head_96 rfl ?_
            exact hk41 b2 b3 (b5 + (1 : Int32)) b6 (b7 + (1 : Int32)) _ _ _ (lv_sub hl [2, 3, 4, 1, 5, 0] rfl) hP hS hm
          · replace hm := xi_pos h hm
            refine lv_iload hx hb d_Model_head_77 (lv_at hl 4 rfl) ?_
            refine lv_iconst (v := (3 : Int32)) hx hb d_Model_head_79 (by decide) ?_
            refine lv_aload_n hx hb d_Model_head_80 rfl (lv_at hl 0 rfl) ?_
            refine va_get (D := (dC, dI)) (ci := 8) (v := .ref (ad 2)) (C := "EventGraphTextModel") (T := T_Model) (N := 26) hx hb hT hin_Model hown hK hP 0 mW_X rfl 2 (by decide) (hT _ wd_560) (fun _ h9 => h9) rfl d_Model_head_81 ?_
            refine lv_iload hx hb d_Model_head_84 (lv_at hl 5 rfl) ?_
            refine va_iald hx hb hK hP 2 0 mW_X_number rfl g2 d_Model_head_86 ?_
            refine lv_imul hx hb d_Model_head_87 ?_
            refine lv_iadd hx hb d_Model_head_88 ?_
            exact hret hm hS d_Model_head_89
  have hl41 : ∀ (k32 : Int32 → Int64 → Int32 → Int32 → xS → Option Int32) (hk32 : ∀ (b2 : Int32) (b3 : Int64) (b5 : Int32) (b6 : Int32) (H : Heap) (locs : List Loc) (ls : Array Slot), lv_has ls 8 [(0, .ref (ad 0)), (2, .int b2), (3, .long b3), (5, .int b5), (6, .int b6)] → va_P (dC, dI) xCl (mW dT ad u) H → va_S xN s.heap H locs → k32 b2 b3 b5 b6 u = some out → W p l e (xrm 2 47) s m args below meth c H locs 0 0 Q (F0 m 32 ls [])) (fu : Nat), ∀ (b2 : Int32) (b3 : Int64) (b5 : Int32) (b6 : Int32) (b7 : Int32) (H : Heap) (locs : List Loc) (ls : Array Slot), lv_has ls 8 [(0, .ref (ad 0)), (2, .int b2), (3, .long b3), (5, .int b5), (6, .int b6), (7, .int b7)] → va_P (dC, dI) xCl (mW dT ad u) H → va_S xN s.heap H locs → m_Model_head_l41 k32 fu b2 b3 b5 b6 b7 u = some out → W p l e (xrm 2 47) s m args below meth c H locs 0 0 Q (F0 m 41 ls []) := by
    intro k32 hk32 fu
    induction fu with
    | zero => intro b2 b3 b5 b6 b7 H locs ls hl hP hS hm; exact absurd hm (fun z => by cases z)
    | succ n ih => intro b2 b3 b5 b6 b7 H locs ls hl hP hS hm; exact hs41 k32 hk32 (m_Model_head_l41 k32 n) ih b2 b3 b5 b6 b7 H locs ls hl hP hS hm
  have hs32 : ∀ (k32 : Int32 → Int64 → Int32 → Int32 → xS → Option Int32) (hk32 : ∀ (b2 : Int32) (b3 : Int64) (b5 : Int32) (b6 : Int32) (H : Heap) (locs : List Loc) (ls : Array Slot), lv_has ls 8 [(0, .ref (ad 0)), (2, .int b2), (3, .long b3), (5, .int b5), (6, .int b6)] → va_P (dC, dI) xCl (mW dT ad u) H → va_S xN s.heap H locs → k32 b2 b3 b5 b6 u = some out → W p l e (xrm 2 47) s m args below meth c H locs 0 0 Q (F0 m 32 ls [])), ∀ (b2 : Int32) (b3 : Int64) (b5 : Int32) (b6 : Int32) (H : Heap) (locs : List Loc) (ls : Array Slot), lv_has ls 8 [(0, .ref (ad 0)), (2, .int b2), (3, .long b3), (5, .int b5), (6, .int b6)] → va_P (dC, dI) xCl (mW dT ad u) H → va_S xN s.heap H locs → m_Model_head_s32 k32 b2 b3 b5 b6 u = some out → W p l e (xrm 2 47) s m args below meth c H locs 0 0 Q (F0 m 32 ls []) := by
    intro k32 hk32 b2 b3 b5 b6 H locs ls hl hP hS hm
    unfold m_Model_head_s32 at hm
    refine lv_iload hx hb d_Model_head_32 (lv_at hl 4 rfl) ?_
    refine lv_iconst (v := (3 : Int32)) hx hb d_Model_head_34 (by decide) ?_
    refine lv_icmp_ge (tgt := 105) hx hb d_Model_head_35 rfl (fun h => ?_) (fun h => ?_)
    · replace hm := xi_pos h hm
      refine lv_sipush (v := (-1000 : Int32)) hx hb d_Model_head_105 (by decide) ?_
      exact hret hm hS d_Model_head_108
    · replace hm := xi_neg h hm
      refine lv_iconst (v := (0 : Int32)) hx hb d_Model_head_38 (by decide) ?_
      refine lv_istore (lv' := [(7, .int (0 : Int32)), (0, .ref (ad 0)), (2, .int b2), (3, .long b3), (5, .int b5), (6, .int b6)]) hx hb d_Model_head_39 hl (Nat.le_of_ble_eq_true rfl) rfl (fun ls hl => ?_)
      exact hl41 k32 hk32 xFU b2 b3 b5 b6 (0 : Int32) _ _ _ (lv_sub hl [1, 2, 3, 4, 5, 0] rfl) hP hS hm
  have hl32 : ∀ (fu : Nat), ∀ (b2 : Int32) (b3 : Int64) (b5 : Int32) (b6 : Int32) (H : Heap) (locs : List Loc) (ls : Array Slot), lv_has ls 8 [(0, .ref (ad 0)), (2, .int b2), (3, .long b3), (5, .int b5), (6, .int b6)] → va_P (dC, dI) xCl (mW dT ad u) H → va_S xN s.heap H locs → m_Model_head_l32 fu b2 b3 b5 b6 u = some out → W p l e (xrm 2 47) s m args below meth c H locs 0 0 Q (F0 m 32 ls []) := by
    intro fu
    induction fu with
    | zero => intro b2 b3 b5 b6 H locs ls hl hP hS hm; exact absurd hm (fun z => by cases z)
    | succ n ih => intro b2 b3 b5 b6 H locs ls hl hP hS hm; exact hs32 (m_Model_head_l32 n) ih b2 b3 b5 b6 H locs ls hl hP hS hm
  unfold m_Model_head at hm
  refine lv_iload_n hx hb d_Model_head_0 rfl (lv_at hl 1 rfl) ?_
  obtain ⟨r1, h1, hm⟩ := xb1_some hm
  refine xc_i (va_runS (As := [.int a1]) (rest := []) ⟨hx, hb, hml, hown, hts⟩ (c_Model_wrong l a1 r1 h1) (va_cwS 1 hts (xgS wd_641 wd_642 wd_9 wd_643) rfl rfl rfl pd_Model_wrong.2 ⟨Nat.le_of_ble_eq_true rfl, Nat.le_of_ble_eq_true rfl⟩) xpreS0 rfl rfl hl.1 rfl (lv_room (Nat.le_of_ble_eq_true rfl)) d_Model_head_1 ⟨Nat.le_of_ble_eq_true rfl, Nat.le_of_ble_eq_true rfl⟩) hP hS (fun H locs hP hS => ?_)
  refine lv_if_ne (tgt := 11) hx hb d_Model_head_4 rfl (fun h => ?_) (fun h => ?_)
  · replace hm := xi_neg h hm
    refine lv_sipush (v := (-1000 : Int32)) hx hb d_Model_head_11 (by decide) ?_
    exact hret hm hS d_Model_head_14
  · replace hm := xi_pos h hm
    refine lv_iload_n hx hb d_Model_head_7 rfl (lv_at hl 2 rfl) ?_
    refine lv_if_ge (tgt := 15) hx hb d_Model_head_8 rfl (fun h => ?_) (fun h => ?_)
    · replace hm := xi_pos h hm
      refine lv_aload_n hx hb d_Model_head_15 rfl (lv_at hl 0 rfl) ?_
      refine lv_aload_n hx hb d_Model_head_16 rfl (lv_at hl 0 rfl) ?_
      refine va_get (D := (dC, dI)) (ci := 8) (v := .ref (ad 12)) (C := "EventGraphTextModel") (T := T_Model) (N := 26) hx hb hT hin_Model hown hK hP 0 mW_X rfl 13 (by decide) (hT _ wd_571) (fun _ h9 => h9) rfl d_Model_head_17 ?_
      refine lv_iload_n hx hb d_Model_head_20 rfl (lv_at hl 1 rfl) ?_
      obtain ⟨g1, hm⟩ := xg_some hm
      refine va_lald hx hb hK hP 12 1 mW_X_graph rfl g1 d_Model_head_21 ?_
      obtain ⟨r22, h22, hm⟩ := xb1_some hm
      refine xc_l (va_runV (C := "EventGraphTextModel") (As := [.long (xs_L u 2 a1.toNatClampNeg)]) (rest := []) ⟨hx, hb, hml, hown, hts⟩ (c_Model_tips l dC dI dT ad (xs_L u 2 a1.toNatClampNeg) u r22 h22) (cwV 1 hts (xgV wd_674 wd_676 wds_19 wd_9 wd_677) rfl rfl rfl pd_Model_tips ⟨Nat.le_of_ble_eq_true rfl, Nat.le_of_ble_eq_true rfl⟩) (xpreV (C := "EventGraphTextModel") (T := T_Model) (N := 26) hP hK hN rfl mW_X) rfl rfl hl.1 rfl (lv_room (Nat.le_of_ble_eq_true rfl)) d_Model_head_22 ⟨Nat.le_of_ble_eq_true rfl, Nat.le_of_ble_eq_true rfl⟩) hP hS (fun H locs hP hS => ?_)
      refine lv_lstore_n (lv' := [(3, .long r22), (0, .ref (ad 0)), (1, .int a1), (2, .int a2)]) hx hb d_Model_head_25 rfl hl (Nat.le_of_ble_eq_true rfl) rfl (fun ls hl => ?_)
      refine lv_iconst (v := (0 : Int32)) hx hb d_Model_head_26 (by decide) ?_
      refine lv_istore (lv' := [(5, .int (0 : Int32)), (3, .long r22), (0, .ref (ad 0)), (1, .int a1), (2, .int a2)]) hx hb d_Model_head_27 hl (Nat.le_of_ble_eq_true rfl) rfl (fun ls hl => ?_)
      refine lv_iconst (v := (0 : Int32)) hx hb d_Model_head_29 (by decide) ?_
      refine lv_istore (lv' := [(6, .int (0 : Int32)), (5, .int (0 : Int32)), (3, .long r22), (0, .ref (ad 0)), (1, .int a1), (2, .int a2)]) hx hb d_Model_head_30 hl (Nat.le_of_ble_eq_true rfl) rfl (fun ls hl => ?_)
      exact hl32 xFU a2 r22 (0 : Int32) (0 : Int32) _ _ _ (lv_sub hl [3, 5, 2, 1, 0] rfl) hP hS hm
    · replace hm := xi_neg h hm
      refine lv_sipush (v := (-1000 : Int32)) hx hb d_Model_head_11 (by decide) ?_
      exact hret hm hS d_Model_head_14
set_option maxHeartbeats 4000000 in
set_option maxRecDepth 100000 in
theorem c_Model_find (l : Launch) (dC : Nat → ClassId) (dI : Nat → Nat → Nat) (dT : Nat → ClassId) (ad : Nat → Nat) (a1 : Int32) (a2 : Int32) (u : xS) (out : Int32) (hm : m_Model_find a1 a2 u = some out) : Met l y_Model_find (Cond.code y_Model_find b_Model_find 4 (some .int) :: xG) (xrm 0 0) (va_Pc [.ref (ad 0), .int a1, .int a2] (xR (dC, dI) xCl (xT dT) (mW dT ad u))) (va_Qi (fun r9 (_ : Unit) => r9 = out) (fun _ _ => True) xN) 0 0 xN := by
  refine xm_roi (cc := b_Model_find) (maxL := 4) (by decide) rfl (Nat.le_of_ble_eq_true rfl) ?_
  intro p e s m args below meth c Q ls hx hb hml hts hown hK hN hP hl hret
  have hT : ∀ w ∈ xG, w.before args s = true := fun w h => hts w (List.mem_cons_of_mem _ h)
  have hown : s.vm.findClass "EventGraphTextModel" = some m.cls := hown
  have hl : lv_has ls 4 [(0, .ref (ad 0)), (1, .int a1), (2, .int a2)] := hl
  have hS : va_S xN s.heap s.heap [] := va_S.rf
  have hs2 : ∀ (k2 : Int32 → Int32 → Int32 → xS → Option Int32) (hk2 : ∀ (b1 : Int32) (b2 : Int32) (b3 : Int32) (H : Heap) (locs : List Loc) (ls : Array Slot), lv_has ls 4 [(0, .ref (ad 0)), (1, .int b1), (2, .int b2), (3, .int b3)] → va_P (dC, dI) xCl (mW dT ad u) H → va_S xN s.heap H locs → k2 b1 b2 b3 u = some out → W p l e (xrm 0 0) s m args below meth c H locs 0 0 Q (F0 m 2 ls [])), ∀ (b1 : Int32) (b2 : Int32) (b3 : Int32) (H : Heap) (locs : List Loc) (ls : Array Slot), lv_has ls 4 [(0, .ref (ad 0)), (1, .int b1), (2, .int b2), (3, .int b3)] → va_P (dC, dI) xCl (mW dT ad u) H → va_S xN s.heap H locs → m_Model_find_s2 k2 b1 b2 b3 u = some out → W p l e (xrm 0 0) s m args below meth c H locs 0 0 Q (F0 m 2 ls []) := by
    intro k2 hk2 b1 b2 b3 H locs ls hl hP hS hm
    unfold m_Model_find_s2 at hm
    refine lv_iload_n hx hb d_Model_find_2 rfl (lv_at hl 3 rfl) ?_
    refine lv_aload_n hx hb d_Model_find_3 rfl (lv_at hl 0 rfl) ?_
    refine va_get (D := (dC, dI)) (ci := 8) (v := .int (xs_i u 0)) (C := "EventGraphTextModel") (T := T_Model) (N := 26) hx hb hT hin_Model hown hK hP 0 mW_X rfl 0 (by decide) (hT _ wd_558) (fun _ h9 => h9) rfl d_Model_find_4 ?_
    refine lv_icmp_ge (tgt := 38) hx hb d_Model_find_7 rfl (fun h => ?_) (fun h => ?_)
    · replace hm := xi_pos h hm
      refine lv_iconst (v := (-1 : Int32)) hx hb d_Model_find_38 (by decide) ?_
      exact hret hm hS d_Model_find_39
    · replace hm := xi_neg h hm
      refine lv_aload_n hx hb d_Model_find_10 rfl (lv_at hl 0 rfl) ?_
      refine va_get (D := (dC, dI)) (ci := 8) (v := .ref (ad 1)) (C := "EventGraphTextModel") (T := T_Model) (N := 26) hx hb hT hin_Model hown hK hP 0 mW_X rfl 1 (by decide) (hT _ wd_559) (fun _ h9 => h9) rfl d_Model_find_11 ?_
      refine lv_iload_n hx hb d_Model_find_14 rfl (lv_at hl 3 rfl) ?_
      obtain ⟨g1, hm⟩ := xg_some hm
      refine va_iald hx hb hK hP 1 0 mW_X_site rfl g1 d_Model_find_15 ?_
      refine lv_iload_n hx hb d_Model_find_16 rfl (lv_at hl 1 rfl) ?_
      refine lv_icmp_ne (tgt := 32) hx hb d_Model_find_17 rfl (fun h => ?_) (fun h => ?_)
      · replace hm := xi_neg h hm
        refine lv_iinc (k := 3) (v := (b3 + (1 : Int32))) (lv' := [(3, .int (b3 + (1 : Int32))), (0, .ref (ad 0)), (1, .int b1), (2, .int b2)]) hx hb d_Model_find_32 hl rfl rfl (Nat.le_of_ble_eq_true rfl) rfl (fun ls hl => ?_)
        refine lv_goto (tgt := 2) hx hb d_Model_find_35 rfl ?_
        exact hk2 b1 b2 (b3 + (1 : Int32)) _ _ _ (lv_sub hl [1, 2, 3, 0] rfl) hP hS hm
      · replace hm := xi_pos h hm
        refine lv_aload_n hx hb d_Model_find_20 rfl (lv_at hl 0 rfl) ?_
        refine va_get (D := (dC, dI)) (ci := 8) (v := .ref (ad 2)) (C := "EventGraphTextModel") (T := T_Model) (N := 26) hx hb hT hin_Model hown hK hP 0 mW_X rfl 2 (by decide) (hT _ wd_560) (fun _ h9 => h9) rfl d_Model_find_21 ?_
        refine lv_iload_n hx hb d_Model_find_24 rfl (lv_at hl 3 rfl) ?_
        refine va_iald hx hb hK hP 2 0 mW_X_number rfl g1 d_Model_find_25 ?_
        refine lv_iload_n hx hb d_Model_find_26 rfl (lv_at hl 2 rfl) ?_
        refine lv_icmp_ne (tgt := 32) hx hb d_Model_find_27 rfl (fun h => ?_) (fun h => ?_)
        · replace hm := xi_neg h hm
          refine lv_iinc (k := 3) (v := (b3 + (1 : Int32))) (lv' := [(3, .int (b3 + (1 : Int32))), (0, .ref (ad 0)), (1, .int b1), (2, .int b2)]) hx hb d_Model_find_32 hl rfl rfl (Nat.le_of_ble_eq_true rfl) rfl (fun ls hl => ?_)
          refine lv_goto (tgt := 2) hx hb d_Model_find_35 rfl ?_
          exact hk2 b1 b2 (b3 + (1 : Int32)) _ _ _ (lv_sub hl [1, 2, 3, 0] rfl) hP hS hm
        · replace hm := xi_pos h hm
          refine lv_iload_n hx hb d_Model_find_30 rfl (lv_at hl 3 rfl) ?_
          exact hret hm hS d_Model_find_31
  have hl2 : ∀ (fu : Nat), ∀ (b1 : Int32) (b2 : Int32) (b3 : Int32) (H : Heap) (locs : List Loc) (ls : Array Slot), lv_has ls 4 [(0, .ref (ad 0)), (1, .int b1), (2, .int b2), (3, .int b3)] → va_P (dC, dI) xCl (mW dT ad u) H → va_S xN s.heap H locs → m_Model_find_l2 fu b1 b2 b3 u = some out → W p l e (xrm 0 0) s m args below meth c H locs 0 0 Q (F0 m 2 ls []) := by
    intro fu
    induction fu with
    | zero => intro b1 b2 b3 H locs ls hl hP hS hm; exact absurd hm (fun z => by cases z)
    | succ n ih => intro b1 b2 b3 H locs ls hl hP hS hm; exact hs2 (m_Model_find_l2 n) ih b1 b2 b3 H locs ls hl hP hS hm
  unfold m_Model_find at hm
  refine lv_iconst (v := (0 : Int32)) hx hb d_Model_find_0 (by decide) ?_
  refine lv_istore_n (lv' := [(3, .int (0 : Int32)), (0, .ref (ad 0)), (1, .int a1), (2, .int a2)]) hx hb d_Model_find_1 rfl hl (Nat.le_of_ble_eq_true rfl) rfl (fun ls hl => ?_)
  exact hl2 xFU a1 a2 (0 : Int32) _ _ _ (lv_sub hl [1, 2, 3, 0] rfl) hP hS hm
set_option maxHeartbeats 4000000 in
set_option maxRecDepth 100000 in
theorem c_Model_ancestor (l : Launch) (dC : Nat → ClassId) (dI : Nat → Nat → Nat) (dT : Nat → ClassId) (ad : Nat → Nat) (a1 : Int32) (a2 : Int32) (a3 : Int32) (a4 : Int32) (u : xS) (out : Int32) (hm : m_Model_ancestor a1 a2 a3 a4 u = some out) : Met l y_Model_ancestor (Cond.code y_Model_ancestor b_Model_ancestor 7 (some .int) :: xG) (xrm 1 23) (va_Pc [.ref (ad 0), .int a1, .int a2, .int a3, .int a4] (xR (dC, dI) xCl (xT dT) (mW dT ad u))) (va_Qi (fun r9 (_ : Unit) => r9 = out) (fun _ _ => True) xN) 0 0 xN := by
  refine xm_roi (cc := b_Model_ancestor) (maxL := 7) (by decide) rfl (Nat.le_of_ble_eq_true rfl) ?_
  intro p e s m args below meth c Q ls hx hb hml hts hown hK hN hP hl hret
  have hT : ∀ w ∈ xG, w.before args s = true := fun w h => hts w (List.mem_cons_of_mem _ h)
  have hown : s.vm.findClass "EventGraphTextModel" = some m.cls := hown
  have hl : lv_has ls 7 [(0, .ref (ad 0)), (1, .int a1), (2, .int a2), (3, .int a3), (4, .int a4)] := hl
  have hS : va_S xN s.heap s.heap [] := va_S.rf
  unfold m_Model_ancestor at hm
  refine lv_aload_n hx hb d_Model_ancestor_0 rfl (lv_at hl 0 rfl) ?_
  refine lv_iload_n hx hb d_Model_ancestor_1 rfl (lv_at hl 1 rfl) ?_
  refine lv_iload_n hx hb d_Model_ancestor_2 rfl (lv_at hl 2 rfl) ?_
  obtain ⟨r3, h3, hm⟩ := xb1_some hm
  refine xc_i (va_runV (C := "EventGraphTextModel") (As := [.int a1, .int a2]) (rest := []) ⟨hx, hb, hml, hown, hts⟩ (c_Model_find l dC dI dT ad a1 a2 u r3 h3) (cwV 2 hts (xgV wd_807 wd_809 wds_39 wd_9 wd_810) rfl rfl rfl pd_Model_find ⟨Nat.le_of_ble_eq_true rfl, Nat.le_of_ble_eq_true rfl⟩) (xpreV (C := "EventGraphTextModel") (T := T_Model) (N := 26) hP hK hN rfl mW_X) rfl rfl hl.1 rfl (lv_room (Nat.le_of_ble_eq_true rfl)) d_Model_ancestor_3 ⟨Nat.le_of_ble_eq_true rfl, Nat.le_of_ble_eq_true rfl⟩) hP hS (fun H locs hP hS => ?_)
  refine lv_istore (lv' := [(5, .int r3), (0, .ref (ad 0)), (1, .int a1), (2, .int a2), (3, .int a3), (4, .int a4)]) hx hb d_Model_ancestor_6 hl (Nat.le_of_ble_eq_true rfl) rfl (fun ls hl => ?_)
  refine lv_aload_n hx hb d_Model_ancestor_8 rfl (lv_at hl 1 rfl) ?_
  refine lv_iload_n hx hb d_Model_ancestor_9 rfl (lv_at hl 4 rfl) ?_
  refine lv_iload hx hb d_Model_ancestor_10 (lv_at hl 5 rfl) ?_
  obtain ⟨r12, h12, hm⟩ := xb1_some hm
  refine xc_i (va_runV (C := "EventGraphTextModel") (As := [.int a3, .int a4]) (rest := []) ⟨hx, hb, hml, hown, hts⟩ (c_Model_find l dC dI dT ad a3 a4 u r12 h12) (cwV 2 hts (xgV wd_807 wd_809 wds_39 wd_9 wd_810) rfl rfl rfl pd_Model_find ⟨Nat.le_of_ble_eq_true rfl, Nat.le_of_ble_eq_true rfl⟩) (xpreV (C := "EventGraphTextModel") (T := T_Model) (N := 26) hP hK hN rfl mW_X) rfl rfl hl.1 rfl (lv_room (Nat.le_of_ble_eq_true rfl)) d_Model_ancestor_12 ⟨Nat.le_of_ble_eq_true rfl, Nat.le_of_ble_eq_true rfl⟩) hP hS (fun H locs hP hS => ?_)
  refine lv_istore (lv' := [(6, .int r12), (5, .int r3), (0, .ref (ad 0)), (1, .int a1), (2, .int a2), (3, .int a3), (4, .int a4)]) hx hb d_Model_ancestor_15 hl (Nat.le_of_ble_eq_true rfl) rfl (fun ls hl => ?_)
  refine lv_iload hx hb d_Model_ancestor_17 (lv_at hl 1 rfl) ?_
  refine lv_if_lt (tgt := 27) hx hb d_Model_ancestor_19 rfl (fun h => ?_) (fun h => ?_)
  · replace hm := xi_pos h hm
    refine lv_sipush (v := (-1000 : Int32)) hx hb d_Model_ancestor_27 (by decide) ?_
    exact hret hm hS d_Model_ancestor_30
  · replace hm := xi_neg h hm
    refine lv_iload hx hb d_Model_ancestor_22 (lv_at hl 0 rfl) ?_
    refine lv_if_ge (tgt := 31) hx hb d_Model_ancestor_24 rfl (fun h => ?_) (fun h => ?_)
    · replace hm := xi_pos h hm
      refine lv_aload_n hx hb d_Model_ancestor_31 rfl (lv_at hl 2 rfl) ?_
      refine va_get (D := (dC, dI)) (ci := 8) (v := .ref (ad 6)) (C := "EventGraphTextModel") (T := T_Model) (N := 26) hx hb hT hin_Model hown hK hP 0 mW_X rfl 6 (by decide) (hT _ wd_564) (fun _ h9 => h9) rfl d_Model_ancestor_32 ?_
      refine lv_iload hx hb d_Model_ancestor_35 (lv_at hl 0 rfl) ?_
      obtain ⟨g1, hm⟩ := xg_some hm
      refine va_lald hx hb hK hP 6 1 mW_X_earlier rfl g1 d_Model_ancestor_37 ?_
      refine lv_iload hx hb d_Model_ancestor_38 (lv_at hl 1 rfl) ?_
      obtain ⟨r40, h40, hm⟩ := xb1_some hm
      refine xc_i (va_runS (As := [.long (xs_L u 0 r12.toNatClampNeg), .int r3]) (rest := []) ⟨hx, hb, hml, hown, hts⟩ (c_Model_in l (xs_L u 0 r12.toNatClampNeg) r3 r40 h40) (va_cwS 2 hts (xgS wd_656 wd_657 wd_9 wd_658) rfl rfl rfl pd_Model_in.2 ⟨Nat.le_of_ble_eq_true rfl, Nat.le_of_ble_eq_true rfl⟩) xpreS0 rfl rfl hl.1 rfl (lv_room (Nat.le_of_ble_eq_true rfl)) d_Model_ancestor_40 ⟨Nat.le_of_ble_eq_true rfl, Nat.le_of_ble_eq_true rfl⟩) hP hS (fun H locs hP hS => ?_)
      refine lv_if_eq (tgt := 50) hx hb d_Model_ancestor_43 rfl (fun h => ?_) (fun h => ?_)
      · replace hm := xi_pos h hm
        refine lv_iconst (v := (0 : Int32)) hx hb d_Model_ancestor_50 (by decide) ?_
        exact hret hm hS d_Model_ancestor_51
      · replace hm := xi_neg h hm
        refine lv_iconst (v := (1 : Int32)) hx hb d_Model_ancestor_46 (by decide) ?_
        refine lv_goto (tgt := 51) hx hb d_Model_ancestor_47 rfl ?_
        exact hret hm hS d_Model_ancestor_51
    · replace hm := xi_neg h hm
      refine lv_sipush (v := (-1000 : Int32)) hx hb d_Model_ancestor_27 (by decide) ?_
      exact hret hm hS d_Model_ancestor_30
set_option maxHeartbeats 4000000 in
set_option maxRecDepth 100000 in
theorem c_Model_critical (l : Launch) (dC : Nat → ClassId) (dI : Nat → Nat → Nat) (dT : Nat → ClassId) (ad : Nat → Nat) (a1 : Int32) (u : xS) (out : Int32) (hm : m_Model_critical a1 u = some out) : Met l y_Model_critical (Cond.code y_Model_critical b_Model_critical 3 (some .int) :: xG) (xrm 3 72) (va_Pc [.ref (ad 0), .int a1] (xR (dC, dI) xCl (xT dT) (mW dT ad u))) (va_Qi (fun r9 (_ : Unit) => r9 = out) (fun _ _ => True) xN) 0 0 xN := by
  refine xm_roi (cc := b_Model_critical) (maxL := 3) (by decide) rfl (Nat.le_of_ble_eq_true rfl) ?_
  intro p e s m args below meth c Q ls hx hb hml hts hown hK hN hP hl hret
  have hT : ∀ w ∈ xG, w.before args s = true := fun w h => hts w (List.mem_cons_of_mem _ h)
  have hown : s.vm.findClass "EventGraphTextModel" = some m.cls := hown
  have hl : lv_has ls 3 [(0, .ref (ad 0)), (1, .int a1)] := hl
  have hS : va_S xN s.heap s.heap [] := va_S.rf
  unfold m_Model_critical at hm
  refine lv_iload_n hx hb d_Model_critical_0 rfl (lv_at hl 1 rfl) ?_
  obtain ⟨r1, h1, hm⟩ := xb1_some hm
  refine xc_i (va_runS (As := [.int a1]) (rest := []) ⟨hx, hb, hml, hown, hts⟩ (c_Model_wrong l a1 r1 h1) (va_cwS 1 hts (xgS wd_641 wd_642 wd_9 wd_643) rfl rfl rfl pd_Model_wrong.2 ⟨Nat.le_of_ble_eq_true rfl, Nat.le_of_ble_eq_true rfl⟩) xpreS0 rfl rfl hl.1 rfl (lv_room (Nat.le_of_ble_eq_true rfl)) d_Model_critical_1 ⟨Nat.le_of_ble_eq_true rfl, Nat.le_of_ble_eq_true rfl⟩) hP hS (fun H locs hP hS => ?_)
  refine lv_if_eq (tgt := 11) hx hb d_Model_critical_4 rfl (fun h => ?_) (fun h => ?_)
  · replace hm := xi_pos h hm
    refine lv_aload_n hx hb d_Model_critical_11 rfl (lv_at hl 0 rfl) ?_
    refine lv_aload_n hx hb d_Model_critical_12 rfl (lv_at hl 0 rfl) ?_
    refine va_get (D := (dC, dI)) (ci := 8) (v := .ref (ad 12)) (C := "EventGraphTextModel") (T := T_Model) (N := 26) hx hb hT hin_Model hown hK hP 0 mW_X rfl 13 (by decide) (hT _ wd_571) (fun _ h9 => h9) rfl d_Model_critical_13 ?_
    refine lv_iload_n hx hb d_Model_critical_16 rfl (lv_at hl 1 rfl) ?_
    obtain ⟨g1, hm⟩ := xg_some hm
    refine va_lald hx hb hK hP 12 1 mW_X_graph rfl g1 d_Model_critical_17 ?_
    refine lv_aload_n hx hb d_Model_critical_18 rfl (lv_at hl 0 rfl) ?_
    refine va_get (D := (dC, dI)) (ci := 8) (v := .ref (ad 12)) (C := "EventGraphTextModel") (T := T_Model) (N := 26) hx hb hT hin_Model hown hK hP 0 mW_X rfl 13 (by decide) (hT _ wd_571) (fun _ h9 => h9) rfl d_Model_critical_19 ?_
    refine lv_iload_n hx hb d_Model_critical_22 rfl (lv_at hl 1 rfl) ?_
    refine va_lald hx hb hK hP 12 1 mW_X_graph rfl g1 d_Model_critical_23 ?_
    obtain ⟨r24, h24, hm⟩ := xb1_some hm
    refine xc_i (va_runV (C := "EventGraphTextModel") (As := [.long (xs_L u 2 a1.toNatClampNeg), .long (xs_L u 2 a1.toNatClampNeg)]) (rest := []) ⟨hx, hb, hml, hown, hts⟩ (c_Model_top l dC dI dT ad (xs_L u 2 a1.toNatClampNeg) (xs_L u 2 a1.toNatClampNeg) u r24 h24) (cwV 2 hts (xgV wd_739 wd_741 wds_30 wd_9 wd_742) rfl rfl rfl pd_Model_top ⟨Nat.le_of_ble_eq_true rfl, Nat.le_of_ble_eq_true rfl⟩) (xpreV (C := "EventGraphTextModel") (T := T_Model) (N := 26) hP hK hN rfl mW_X) rfl rfl hl.1 rfl (lv_room (Nat.le_of_ble_eq_true rfl)) d_Model_critical_24 ⟨Nat.le_of_ble_eq_true rfl, Nat.le_of_ble_eq_true rfl⟩) hP hS (fun H locs hP hS => ?_)
    refine lv_istore_n (lv' := [(2, .int r24), (0, .ref (ad 0)), (1, .int a1)]) hx hb d_Model_critical_27 rfl hl (Nat.le_of_ble_eq_true rfl) rfl (fun ls hl => ?_)
    refine lv_iload_n hx hb d_Model_critical_28 rfl (lv_at hl 0 rfl) ?_
    refine lv_if_ge (tgt := 36) hx hb d_Model_critical_29 rfl (fun h => ?_) (fun h => ?_)
    · replace hm := xi_pos h hm
      refine lv_iconst (v := (1 : Int32)) hx hb d_Model_critical_36 (by decide) ?_
      refine lv_aload_n hx hb d_Model_critical_37 rfl (lv_at hl 1 rfl) ?_
      refine va_get (D := (dC, dI)) (ci := 8) (v := .ref (ad 6)) (C := "EventGraphTextModel") (T := T_Model) (N := 26) hx hb hT hin_Model hown hK hP 0 mW_X rfl 6 (by decide) (hT _ wd_564) (fun _ h9 => h9) rfl d_Model_critical_38 ?_
      refine lv_iload_n hx hb d_Model_critical_41 rfl (lv_at hl 0 rfl) ?_
      obtain ⟨g2, hm⟩ := xg_some hm
      refine va_lald hx hb hK hP 6 1 mW_X_earlier rfl g2 d_Model_critical_42 ?_
      obtain ⟨r43, h43, hm⟩ := xb1_some hm
      refine xc_i (va_runS (As := [.long (xs_L u 0 r24.toNatClampNeg)]) (rest := [.int (1 : Int32)]) ⟨hx, hb, hml, hown, hts⟩ (c_Model_many l (xs_L u 0 r24.toNatClampNeg) r43 h43) (va_cwS 1 hts (xgS wd_727 wd_728 wd_9 wd_729) rfl rfl rfl pd_Model_many.2 ⟨Nat.le_of_ble_eq_true rfl, Nat.le_of_ble_eq_true rfl⟩) xpreS0 rfl rfl hl.1 rfl (lv_room (Nat.le_of_ble_eq_true rfl)) d_Model_critical_43 ⟨Nat.le_of_ble_eq_true rfl, Nat.le_of_ble_eq_true rfl⟩) hP hS (fun H locs hP hS => ?_)
      refine lv_iadd hx hb d_Model_critical_46 ?_
      exact hret hm hS d_Model_critical_47
    · replace hm := xi_neg h hm
      refine lv_iconst (v := (0 : Int32)) hx hb d_Model_critical_32 (by decide) ?_
      refine lv_goto (tgt := 47) hx hb d_Model_critical_33 rfl ?_
      exact hret hm hS d_Model_critical_47
  · replace hm := xi_neg h hm
    refine lv_sipush (v := (-1000 : Int32)) hx hb d_Model_critical_7 (by decide) ?_
    exact hret hm hS d_Model_critical_10
