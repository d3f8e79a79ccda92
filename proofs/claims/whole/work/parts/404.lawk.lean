def lwF (p : Program) (s : State) (m : MethodId) (c : Code) (b L : Nat) (xs : Nat → Int32) (dC : Nat → ClassId) (dI : Nat → Nat → Nat) (dT : Nat → ClassId) (ad bd : Nat → Nat) : Prop :=
  p.tables.exec = Jvm.exec ∧ c.code = code ∧ c.maxLocals = 4 ∧ s.vm.findClass "EventGraphTextLaw" = some m.cls ∧ (∀ w ∈ xG, w.before #[Value.ref b] s = true) ∧ va_K (dC, dI) xCl (xT dT) s ∧ xNw s ∧ (∀ u, va_D (xA ad 50) (cW dT ad u)) ∧ (∀ u, va_D (xA bd 23) (mW dT bd u)) ∧
  (∀ q, xA ad 50 q → s.heap.size ≤ q) ∧ (∀ q, xA bd 23 q → s.heap.size ≤ q) ∧ (∀ (v : xS) (k : Nat) (q : Nat × va_E), (mW dT bd v)[k]? = some q → ¬ xA ad 50 q.1) ∧ (∀ (u : xS) (k : Nat) (q : Nat × va_E), (cW dT ad u)[k]? = some q → ¬ xA bd 23 q.1) ∧ va_X b L xs s s.heap ∧ b < s.heap.size ∧ L ≤ 2560
set_option maxHeartbeats 4000000 in
set_option maxRecDepth 100000 in
theorem law_k0 {p : Program} {l : Launch} {e : Env} {s : State} {m : MethodId} {below : List Frame} {meth : Method} {c : Code} {Q : State → Prop} {b L : Nat} {xs : Nat → Int32} {dC : Nat → ClassId} {dI : Nat → Nat → Nat} {dT : Nat → ClassId} {ad bd : Nat → Nat} (F : lwF p s m c b L xs dC dI dT ad bd) {i : Nat} (hi : i + 5 ≤ L) {u v : xS} {H : Heap} {locs : List Loc} {ls : Array Slot} (hl : lv_has ls 4 [(3, .int (zi i)), (2, .ref (bd 0)), (1, .ref (ad 0)), (0, .ref b)]) (hPx : va_P (dC, dI) xCl (cW dT ad u) H) (hPm : va_P (dC, dI) xCl (mW dT bd v) H) (hR : zR u v) (hS : va_S (fun q => s.heap.size ≤ q) s.heap H locs)
    (K : ∀ (u v : xS) (H : Heap) (locs : List Loc), va_P (dC, dI) xCl (cW dT ad u) H → va_P (dC, dI) xCl (mW dT bd v) H → zR u v → va_S (fun q => s.heap.size ≤ q) s.heap H locs → W p l e room_1 s m #[Value.ref b] below meth c H locs 600000 7302249 Q (F0 m 691 ls [])) : W p l e room_1 s m #[Value.ref b] below meth c H locs 600000 7302249 Q (F0 m 124 ls []) := by
  obtain ⟨hx, hb, hml, hown, hT, hK, hN, hD, hDm, hAx, hAm, hapm, hapc, hX, hbl, hL⟩ := F
  have hbA : ¬ (fun q => s.heap.size ≤ q) b := fun q => Nat.not_lt.mpr q hbl
  obtain ⟨w, x, y, h1, h2, h3⟩ := r_insert hR (xs (zi i + (1 : Int32)).toNatClampNeg) (xs (zi i + (2 : Int32)).toNatClampNeg) (xs (zi i + (3 : Int32)).toNatClampNeg)
  refine lv_aload_n hx hb d_Law_law_124 rfl (lv_at hl 2 rfl) ?_
  refine lv_aload_n hx hb d_Law_law_125 rfl (lv_at hl 3 rfl) ?_
  refine lv_iload_n hx hb d_Law_law_126 rfl (lv_at hl 0 rfl) ?_
  refine lv_iconst (v := (1 : Int32)) hx hb d_Law_law_127 (by decide) ?_
  refine lv_iadd hx hb d_Law_law_128 ?_
  refine va_sld hx hb hX hbl hbA hS (xin1 hL hi) d_Law_law_129 ?_
  refine lv_aload_n hx hb d_Law_law_130 rfl (lv_at hl 3 rfl) ?_
  refine lv_iload_n hx hb d_Law_law_131 rfl (lv_at hl 0 rfl) ?_
  refine lv_iconst (v := (2 : Int32)) hx hb d_Law_law_132 (by decide) ?_
  refine lv_iadd hx hb d_Law_law_133 ?_
  refine va_sld hx hb hX hbl hbA hS (xin2 hL hi) d_Law_law_134 ?_
  refine lv_aload_n hx hb d_Law_law_135 rfl (lv_at hl 3 rfl) ?_
  refine lv_iload_n hx hb d_Law_law_136 rfl (lv_at hl 0 rfl) ?_
  refine lv_iconst (v := (3 : Int32)) hx hb d_Law_law_137 (by decide) ?_
  refine lv_iadd hx hb d_Law_law_138 ?_
  refine va_sld hx hb hX hbl hbA hS (xin3 hL hi) d_Law_law_139 ?_
  refine xl_iw (Wd := cW dT ad) (va_runV (C := "EventGraphText") (As := [.int (xs (zi i + (1 : Int32)).toNatClampNeg), .int (xs (zi i + (2 : Int32)).toNatClampNeg), .int (xs (zi i + (3 : Int32)).toNatClampNeg)]) (rest := []) ⟨hx, hb, hml, hown, hT⟩ (c_Text_insert l dC dI dT ad hD (xs (zi i + (1 : Int32)).toNatClampNeg) (xs (zi i + (2 : Int32)).toNatClampNeg) (xs (zi i + (3 : Int32)).toNatClampNeg) u w x h1) (cwV 3 hT (xglV wd_200 wd_201 wd_202 wd_1 wd_203) rfl rfl rfl pd_Text_insert ⟨Nat.le_of_ble_eq_true rfl, Nat.le_of_ble_eq_true rfl⟩) (xpreV (C := "EventGraphText") (T := T_Text) (N := 5) hPx hK hN rfl cW_E) rfl rfl hl.1 rfl (lv_room (Nat.le_of_ble_eq_true rfl)) d_Law_law_140 ⟨Nat.le_of_ble_eq_true rfl, Nat.le_of_ble_eq_true rfl⟩) hS hAx hPm (hapm _) (fun H locs hPx hPm hS => ?_)
  refine lv_aload_n hx hb d_Law_law_143 rfl (lv_at hl 1 rfl) ?_
  refine lv_aload_n hx hb d_Law_law_144 rfl (lv_at hl 3 rfl) ?_
  refine lv_iload_n hx hb d_Law_law_145 rfl (lv_at hl 0 rfl) ?_
  refine lv_iconst (v := (1 : Int32)) hx hb d_Law_law_146 (by decide) ?_
  refine lv_iadd hx hb d_Law_law_147 ?_
  refine va_sld hx hb hX hbl hbA hS (xin1 hL hi) d_Law_law_148 ?_
  refine lv_aload_n hx hb d_Law_law_149 rfl (lv_at hl 3 rfl) ?_
  refine lv_iload_n hx hb d_Law_law_150 rfl (lv_at hl 0 rfl) ?_
  refine lv_iconst (v := (2 : Int32)) hx hb d_Law_law_151 (by decide) ?_
  refine lv_iadd hx hb d_Law_law_152 ?_
  refine va_sld hx hb hX hbl hbA hS (xin2 hL hi) d_Law_law_153 ?_
  refine lv_aload_n hx hb d_Law_law_154 rfl (lv_at hl 3 rfl) ?_
  refine lv_iload_n hx hb d_Law_law_155 rfl (lv_at hl 0 rfl) ?_
  refine lv_iconst (v := (3 : Int32)) hx hb d_Law_law_156 (by decide) ?_
  refine lv_iadd hx hb d_Law_law_157 ?_
  refine va_sld hx hb hX hbl hbA hS (xin3 hL hi) d_Law_law_158 ?_
  refine xl_iw (Wd := mW dT bd) (va_runV (C := "EventGraphTextModel") (As := [.int (xs (zi i + (1 : Int32)).toNatClampNeg), .int (xs (zi i + (2 : Int32)).toNatClampNeg), .int (xs (zi i + (3 : Int32)).toNatClampNeg)]) (rest := [.int w]) ⟨hx, hb, hml, hown, hT⟩ (c_Model_insert l dC dI dT bd hDm (xs (zi i + (1 : Int32)).toNatClampNeg) (xs (zi i + (2 : Int32)).toNatClampNeg) (xs (zi i + (3 : Int32)).toNatClampNeg) v w y h2) (cwV 3 hT (xglV wd_637 wd_638 wd_639 wd_9 wd_640) rfl rfl rfl pd_Model_insert ⟨Nat.le_of_ble_eq_true rfl, Nat.le_of_ble_eq_true rfl⟩) (xpreV (C := "EventGraphTextModel") (T := T_Model) (N := 26) hPm hK hN rfl mW_X) rfl rfl hl.1 rfl (lv_room (Nat.le_of_ble_eq_true rfl)) d_Law_law_159 ⟨Nat.le_of_ble_eq_true rfl, Nat.le_of_ble_eq_true rfl⟩) hS hAm hPx (hapc _) (fun H locs hPm hPx hS => ?_)
  refine lv_icmp_eq (tgt := 691) hx hb d_Law_law_162 rfl (fun h => ?_) (fun h => absurd rfl h)
  exact K x y H locs hPx hPm h3 hS
set_option maxHeartbeats 4000000 in
set_option maxRecDepth 100000 in
theorem law_k1 {p : Program} {l : Launch} {e : Env} {s : State} {m : MethodId} {below : List Frame} {meth : Method} {c : Code} {Q : State → Prop} {b L : Nat} {xs : Nat → Int32} {dC : Nat → ClassId} {dI : Nat → Nat → Nat} {dT : Nat → ClassId} {ad bd : Nat → Nat} (F : lwF p s m c b L xs dC dI dT ad bd) {i : Nat} (hi : i + 5 ≤ L) {u v : xS} {H : Heap} {locs : List Loc} {ls : Array Slot} (hl : lv_has ls 4 [(3, .int (zi i)), (2, .ref (bd 0)), (1, .ref (ad 0)), (0, .ref b)]) (hPx : va_P (dC, dI) xCl (cW dT ad u) H) (hPm : va_P (dC, dI) xCl (mW dT bd v) H) (hR : zR u v) (hS : va_S (fun q => s.heap.size ≤ q) s.heap H locs)
    (K : ∀ (u v : xS) (H : Heap) (locs : List Loc), va_P (dC, dI) xCl (cW dT ad u) H → va_P (dC, dI) xCl (mW dT bd v) H → zR u v → va_S (fun q => s.heap.size ≤ q) s.heap H locs → W p l e room_1 s m #[Value.ref b] below meth c H locs 600000 7302249 Q (F0 m 691 ls [])) : W p l e room_1 s m #[Value.ref b] below meth c H locs 600000 7302249 Q (F0 m 167 ls []) := by
  obtain ⟨hx, hb, hml, hown, hT, hK, hN, hD, hDm, hAx, hAm, hapm, hapc, hX, hbl, hL⟩ := F
  have hbA : ¬ (fun q => s.heap.size ≤ q) b := fun q => Nat.not_lt.mpr q hbl
  obtain ⟨w, x, y, h1, h2, h3⟩ := r_delete hR (xs (zi i + (1 : Int32)).toNatClampNeg) (xs (zi i + (2 : Int32)).toNatClampNeg)
  refine lv_aload_n hx hb d_Law_law_167 rfl (lv_at hl 2 rfl) ?_
  refine lv_aload_n hx hb d_Law_law_168 rfl (lv_at hl 3 rfl) ?_
  refine lv_iload_n hx hb d_Law_law_169 rfl (lv_at hl 0 rfl) ?_
  refine lv_iconst (v := (1 : Int32)) hx hb d_Law_law_170 (by decide) ?_
  refine lv_iadd hx hb d_Law_law_171 ?_
  refine va_sld hx hb hX hbl hbA hS (xin1 hL hi) d_Law_law_172 ?_
  refine lv_aload_n hx hb d_Law_law_173 rfl (lv_at hl 3 rfl) ?_
  refine lv_iload_n hx hb d_Law_law_174 rfl (lv_at hl 0 rfl) ?_
  refine lv_iconst (v := (2 : Int32)) hx hb d_Law_law_175 (by decide) ?_
  refine lv_iadd hx hb d_Law_law_176 ?_
  refine va_sld hx hb hX hbl hbA hS (xin2 hL hi) d_Law_law_177 ?_
  refine xl_iw (Wd := cW dT ad) (va_runV (C := "EventGraphText") (As := [.int (xs (zi i + (1 : Int32)).toNatClampNeg), .int (xs (zi i + (2 : Int32)).toNatClampNeg)]) (rest := []) ⟨hx, hb, hml, hown, hT⟩ (c_Text_delete l dC dI dT ad hD (xs (zi i + (1 : Int32)).toNatClampNeg) (xs (zi i + (2 : Int32)).toNatClampNeg) u w x h1) (cwV 2 hT (xglV wd_279 wd_280 wd_281 wd_1 wd_282) rfl rfl rfl pd_Text_delete ⟨Nat.le_of_ble_eq_true rfl, Nat.le_of_ble_eq_true rfl⟩) (xpreV (C := "EventGraphText") (T := T_Text) (N := 5) hPx hK hN rfl cW_E) rfl rfl hl.1 rfl (lv_room (Nat.le_of_ble_eq_true rfl)) d_Law_law_178 ⟨Nat.le_of_ble_eq_true rfl, Nat.le_of_ble_eq_true rfl⟩) hS hAx hPm (hapm _) (fun H locs hPx hPm hS => ?_)
  refine lv_aload_n hx hb d_Law_law_181 rfl (lv_at hl 1 rfl) ?_
  refine lv_aload_n hx hb d_Law_law_182 rfl (lv_at hl 3 rfl) ?_
  refine lv_iload_n hx hb d_Law_law_183 rfl (lv_at hl 0 rfl) ?_
  refine lv_iconst (v := (1 : Int32)) hx hb d_Law_law_184 (by decide) ?_
  refine lv_iadd hx hb d_Law_law_185 ?_
  refine va_sld hx hb hX hbl hbA hS (xin1 hL hi) d_Law_law_186 ?_
  refine lv_aload_n hx hb d_Law_law_187 rfl (lv_at hl 3 rfl) ?_
  refine lv_iload_n hx hb d_Law_law_188 rfl (lv_at hl 0 rfl) ?_
  refine lv_iconst (v := (2 : Int32)) hx hb d_Law_law_189 (by decide) ?_
  refine lv_iadd hx hb d_Law_law_190 ?_
  refine va_sld hx hb hX hbl hbA hS (xin2 hL hi) d_Law_law_191 ?_
  refine xl_iw (Wd := mW dT bd) (va_runV (C := "EventGraphTextModel") (As := [.int (xs (zi i + (1 : Int32)).toNatClampNeg), .int (xs (zi i + (2 : Int32)).toNatClampNeg)]) (rest := [.int w]) ⟨hx, hb, hml, hown, hT⟩ (c_Model_delete l dC dI dT bd hDm (xs (zi i + (1 : Int32)).toNatClampNeg) (xs (zi i + (2 : Int32)).toNatClampNeg) v w y h2) (cwV 2 hT (xglV wd_691 wd_692 wd_693 wd_9 wd_694) rfl rfl rfl pd_Model_delete ⟨Nat.le_of_ble_eq_true rfl, Nat.le_of_ble_eq_true rfl⟩) (xpreV (C := "EventGraphTextModel") (T := T_Model) (N := 26) hPm hK hN rfl mW_X) rfl rfl hl.1 rfl (lv_room (Nat.le_of_ble_eq_true rfl)) d_Law_law_192 ⟨Nat.le_of_ble_eq_true rfl, Nat.le_of_ble_eq_true rfl⟩) hS hAm hPx (hapc _) (fun H locs hPm hPx hS => ?_)
  refine lv_icmp_eq (tgt := 691) hx hb d_Law_law_195 rfl (fun h => ?_) (fun h => absurd rfl h)
  exact K x y H locs hPx hPm h3 hS
set_option maxHeartbeats 4000000 in
set_option maxRecDepth 100000 in
theorem law_k2 {p : Program} {l : Launch} {e : Env} {s : State} {m : MethodId} {below : List Frame} {meth : Method} {c : Code} {Q : State → Prop} {b L : Nat} {xs : Nat → Int32} {dC : Nat → ClassId} {dI : Nat → Nat → Nat} {dT : Nat → ClassId} {ad bd : Nat → Nat} (F : lwF p s m c b L xs dC dI dT ad bd) {i : Nat} (hi : i + 5 ≤ L) {u v : xS} {H : Heap} {locs : List Loc} {ls : Array Slot} (hl : lv_has ls 4 [(3, .int (zi i)), (2, .ref (bd 0)), (1, .ref (ad 0)), (0, .ref b)]) (hPx : va_P (dC, dI) xCl (cW dT ad u) H) (hPm : va_P (dC, dI) xCl (mW dT bd v) H) (hR : zR u v) (hS : va_S (fun q => s.heap.size ≤ q) s.heap H locs)
    (K : ∀ (u v : xS) (H : Heap) (locs : List Loc), va_P (dC, dI) xCl (cW dT ad u) H → va_P (dC, dI) xCl (mW dT bd v) H → zR u v → va_S (fun q => s.heap.size ≤ q) s.heap H locs → W p l e room_1 s m #[Value.ref b] below meth c H locs 600000 7302249 Q (F0 m 691 ls [])) : W p l e room_1 s m #[Value.ref b] below meth c H locs 600000 7302249 Q (F0 m 200 ls []) := by
  obtain ⟨hx, hb, hml, hown, hT, hK, hN, hD, hDm, hAx, hAm, hapm, hapc, hX, hbl, hL⟩ := F
  have hbA : ¬ (fun q => s.heap.size ≤ q) b := fun q => Nat.not_lt.mpr q hbl
  obtain ⟨w, h1, h2⟩ := r_length hR (xs (zi i + (1 : Int32)).toNatClampNeg)
  refine lv_aload_n hx hb d_Law_law_200 rfl (lv_at hl 2 rfl) ?_
  refine lv_aload_n hx hb d_Law_law_201 rfl (lv_at hl 3 rfl) ?_
  refine lv_iload_n hx hb d_Law_law_202 rfl (lv_at hl 0 rfl) ?_
  refine lv_iconst (v := (1 : Int32)) hx hb d_Law_law_203 (by decide) ?_
  refine lv_iadd hx hb d_Law_law_204 ?_
  refine va_sld hx hb hX hbl hbA hS (xin1 hL hi) d_Law_law_205 ?_
  refine xl_i (va_runV (C := "EventGraphText") (As := [.int (xs (zi i + (1 : Int32)).toNatClampNeg)]) (rest := []) ⟨hx, hb, hml, hown, hT⟩ (c_Text_length l dC dI dT ad (xs (zi i + (1 : Int32)).toNatClampNeg) u w h1) (cwV 1 hT (xglV wd_287 wd_288 wd_289 wd_1 wd_290) rfl rfl rfl pd_Text_length ⟨Nat.le_of_ble_eq_true rfl, Nat.le_of_ble_eq_true rfl⟩) (xpreV (C := "EventGraphText") (T := T_Text) (N := 5) hPx hK hN rfl cW_E) rfl rfl hl.1 rfl (lv_room (Nat.le_of_ble_eq_true rfl)) d_Law_law_206 ⟨Nat.le_of_ble_eq_true rfl, Nat.le_of_ble_eq_true rfl⟩) hPx hPm hS (fun H locs hPx hPm hS => ?_)
  refine lv_aload_n hx hb d_Law_law_209 rfl (lv_at hl 1 rfl) ?_
  refine lv_aload_n hx hb d_Law_law_210 rfl (lv_at hl 3 rfl) ?_
  refine lv_iload_n hx hb d_Law_law_211 rfl (lv_at hl 0 rfl) ?_
  refine lv_iconst (v := (1 : Int32)) hx hb d_Law_law_212 (by decide) ?_
  refine lv_iadd hx hb d_Law_law_213 ?_
  refine va_sld hx hb hX hbl hbA hS (xin1 hL hi) d_Law_law_214 ?_
  refine xl_i (va_runV (C := "EventGraphTextModel") (As := [.int (xs (zi i + (1 : Int32)).toNatClampNeg)]) (rest := [.int w]) ⟨hx, hb, hml, hown, hT⟩ (c_Model_length l dC dI dT bd (xs (zi i + (1 : Int32)).toNatClampNeg) v w h2) (cwV 1 hT (xglV wd_695 wd_645 wd_646 wd_9 wd_647) rfl rfl rfl pd_Model_length ⟨Nat.le_of_ble_eq_true rfl, Nat.le_of_ble_eq_true rfl⟩) (xpreV (C := "EventGraphTextModel") (T := T_Model) (N := 26) hPm hK hN rfl mW_X) rfl rfl hl.1 rfl (lv_room (Nat.le_of_ble_eq_true rfl)) d_Law_law_215 ⟨Nat.le_of_ble_eq_true rfl, Nat.le_of_ble_eq_true rfl⟩) hPx hPm hS (fun H locs hPx hPm hS => ?_)
  refine lv_icmp_eq (tgt := 691) hx hb d_Law_law_218 rfl (fun h => ?_) (fun h => absurd rfl h)
  exact K u v H locs hPx hPm hR hS
set_option maxHeartbeats 4000000 in
set_option maxRecDepth 100000 in
theorem law_k3 {p : Program} {l : Launch} {e : Env} {s : State} {m : MethodId} {below : List Frame} {meth : Method} {c : Code} {Q : State → Prop} {b L : Nat} {xs : Nat → Int32} {dC : Nat → ClassId} {dI : Nat → Nat → Nat} {dT : Nat → ClassId} {ad bd : Nat → Nat} (F : lwF p s m c b L xs dC dI dT ad bd) {i : Nat} (hi : i + 5 ≤ L) {u v : xS} {H : Heap} {locs : List Loc} {ls : Array Slot} (hl : lv_has ls 4 [(3, .int (zi i)), (2, .ref (bd 0)), (1, .ref (ad 0)), (0, .ref b)]) (hPx : va_P (dC, dI) xCl (cW dT ad u) H) (hPm : va_P (dC, dI) xCl (mW dT bd v) H) (hR : zR u v) (hS : va_S (fun q => s.heap.size ≤ q) s.heap H locs)
    (K : ∀ (u v : xS) (H : Heap) (locs : List Loc), va_P (dC, dI) xCl (cW dT ad u) H → va_P (dC, dI) xCl (mW dT bd v) H → zR u v → va_S (fun q => s.heap.size ≤ q) s.heap H locs → W p l e room_1 s m #[Value.ref b] below meth c H locs 600000 7302249 Q (F0 m 691 ls [])) : W p l e room_1 s m #[Value.ref b] below meth c H locs 600000 7302249 Q (F0 m 223 ls []) := by
  obtain ⟨hx, hb, hml, hown, hT, hK, hN, hD, hDm, hAx, hAm, hapm, hapc, hX, hbl, hL⟩ := F
  have hbA : ¬ (fun q => s.heap.size ≤ q) b := fun q => Nat.not_lt.mpr q hbl
  obtain ⟨w, h1, h2⟩ := r_at hR (xs (zi i + (1 : Int32)).toNatClampNeg) (xs (zi i + (2 : Int32)).toNatClampNeg)
  refine lv_aload_n hx hb d_Law_law_223 rfl (lv_at hl 2 rfl) ?_
  refine lv_aload_n hx hb d_Law_law_224 rfl (lv_at hl 3 rfl) ?_
  refine lv_iload_n hx hb d_Law_law_225 rfl (lv_at hl 0 rfl) ?_
  refine lv_iconst (v := (1 : Int32)) hx hb d_Law_law_226 (by decide) ?_
  refine lv_iadd hx hb d_Law_law_227 ?_
  refine va_sld hx hb hX hbl hbA hS (xin1 hL hi) d_Law_law_228 ?_
  refine lv_aload_n hx hb d_Law_law_229 rfl (lv_at hl 3 rfl) ?_
  refine lv_iload_n hx hb d_Law_law_230 rfl (lv_at hl 0 rfl) ?_
  refine lv_iconst (v := (2 : Int32)) hx hb d_Law_law_231 (by decide) ?_
  refine lv_iadd hx hb d_Law_law_232 ?_
  refine va_sld hx hb hX hbl hbA hS (xin2 hL hi) d_Law_law_233 ?_
  refine xl_i (va_runV (C := "EventGraphText") (As := [.int (xs (zi i + (1 : Int32)).toNatClampNeg), .int (xs (zi i + (2 : Int32)).toNatClampNeg)]) (rest := []) ⟨hx, hb, hml, hown, hT⟩ (c_Text_at l dC dI dT ad (xs (zi i + (1 : Int32)).toNatClampNeg) (xs (zi i + (2 : Int32)).toNatClampNeg) u w h1) (cwV 2 hT (xglV wd_291 wd_292 wd_293 wd_1 wd_294) rfl rfl rfl pd_Text_at ⟨Nat.le_of_ble_eq_true rfl, Nat.le_of_ble_eq_true rfl⟩) (xpreV (C := "EventGraphText") (T := T_Text) (N := 5) hPx hK hN rfl cW_E) rfl rfl hl.1 rfl (lv_room (Nat.le_of_ble_eq_true rfl)) d_Law_law_234 ⟨Nat.le_of_ble_eq_true rfl, Nat.le_of_ble_eq_true rfl⟩) hPx hPm hS (fun H locs hPx hPm hS => ?_)
  refine lv_aload_n hx hb d_Law_law_237 rfl (lv_at hl 1 rfl) ?_
  refine lv_aload_n hx hb d_Law_law_238 rfl (lv_at hl 3 rfl) ?_
  refine lv_iload_n hx hb d_Law_law_239 rfl (lv_at hl 0 rfl) ?_
  refine lv_iconst (v := (1 : Int32)) hx hb d_Law_law_240 (by decide) ?_
  refine lv_iadd hx hb d_Law_law_241 ?_
  refine va_sld hx hb hX hbl hbA hS (xin1 hL hi) d_Law_law_242 ?_
  refine lv_aload_n hx hb d_Law_law_243 rfl (lv_at hl 3 rfl) ?_
  refine lv_iload_n hx hb d_Law_law_244 rfl (lv_at hl 0 rfl) ?_
  refine lv_iconst (v := (2 : Int32)) hx hb d_Law_law_245 (by decide) ?_
  refine lv_iadd hx hb d_Law_law_246 ?_
  refine va_sld hx hb hX hbl hbA hS (xin2 hL hi) d_Law_law_247 ?_
  refine xl_i (va_runV (C := "EventGraphTextModel") (As := [.int (xs (zi i + (1 : Int32)).toNatClampNeg), .int (xs (zi i + (2 : Int32)).toNatClampNeg)]) (rest := [.int w]) ⟨hx, hb, hml, hown, hT⟩ (c_Model_at l dC dI dT bd (xs (zi i + (1 : Int32)).toNatClampNeg) (xs (zi i + (2 : Int32)).toNatClampNeg) v w h2) (cwV 2 hT (xglV wd_696 wd_697 wd_698 wd_9 wd_699) rfl rfl rfl pd_Model_at ⟨Nat.le_of_ble_eq_true rfl, Nat.le_of_ble_eq_true rfl⟩) (xpreV (C := "EventGraphTextModel") (T := T_Model) (N := 26) hPm hK hN rfl mW_X) rfl rfl hl.1 rfl (lv_room (Nat.le_of_ble_eq_true rfl)) d_Law_law_248 ⟨Nat.le_of_ble_eq_true rfl, Nat.le_of_ble_eq_true rfl⟩) hPx hPm hS (fun H locs hPx hPm hS => ?_)
  refine lv_icmp_eq (tgt := 691) hx hb d_Law_law_251 rfl (fun h => ?_) (fun h => absurd rfl h)
  exact K u v H locs hPx hPm hR hS
set_option maxHeartbeats 4000000 in
set_option maxRecDepth 100000 in
theorem law_k4 {p : Program} {l : Launch} {e : Env} {s : State} {m : MethodId} {below : List Frame} {meth : Method} {c : Code} {Q : State → Prop} {b L : Nat} {xs : Nat → Int32} {dC : Nat → ClassId} {dI : Nat → Nat → Nat} {dT : Nat → ClassId} {ad bd : Nat → Nat} (F : lwF p s m c b L xs dC dI dT ad bd) {i : Nat} (hi : i + 5 ≤ L) {u v : xS} {H : Heap} {locs : List Loc} {ls : Array Slot} (hl : lv_has ls 4 [(3, .int (zi i)), (2, .ref (bd 0)), (1, .ref (ad 0)), (0, .ref b)]) (hPx : va_P (dC, dI) xCl (cW dT ad u) H) (hPm : va_P (dC, dI) xCl (mW dT bd v) H) (hR : zR u v) (hS : va_S (fun q => s.heap.size ≤ q) s.heap H locs)
    (K : ∀ (u v : xS) (H : Heap) (locs : List Loc), va_P (dC, dI) xCl (cW dT ad u) H → va_P (dC, dI) xCl (mW dT bd v) H → zR u v → va_S (fun q => s.heap.size ≤ q) s.heap H locs → W p l e room_1 s m #[Value.ref b] below meth c H locs 600000 7302249 Q (F0 m 691 ls [])) : W p l e room_1 s m #[Value.ref b] below meth c H locs 600000 7302249 Q (F0 m 256 ls []) := by
  obtain ⟨hx, hb, hml, hown, hT, hK, hN, hD, hDm, hAx, hAm, hapm, hapc, hX, hbl, hL⟩ := F
  have hbA : ¬ (fun q => s.heap.size ≤ q) b := fun q => Nat.not_lt.mpr q hbl
  obtain ⟨w, x, y, h1, h2, h3⟩ := r_send hR (xs (zi i + (1 : Int32)).toNatClampNeg) (xs (zi i + (2 : Int32)).toNatClampNeg)
  refine lv_aload_n hx hb d_Law_law_256 rfl (lv_at hl 2 rfl) ?_
  refine lv_aload_n hx hb d_Law_law_257 rfl (lv_at hl 3 rfl) ?_
  refine lv_iload_n hx hb d_Law_law_258 rfl (lv_at hl 0 rfl) ?_
  refine lv_iconst (v := (1 : Int32)) hx hb d_Law_law_259 (by decide) ?_
  refine lv_iadd hx hb d_Law_law_260 ?_
  refine va_sld hx hb hX hbl hbA hS (xin1 hL hi) d_Law_law_261 ?_
  refine lv_aload_n hx hb d_Law_law_262 rfl (lv_at hl 3 rfl) ?_
  refine lv_iload_n hx hb d_Law_law_263 rfl (lv_at hl 0 rfl) ?_
  refine lv_iconst (v := (2 : Int32)) hx hb d_Law_law_264 (by decide) ?_
  refine lv_iadd hx hb d_Law_law_265 ?_
  refine va_sld hx hb hX hbl hbA hS (xin2 hL hi) d_Law_law_266 ?_
  refine xl_iw (Wd := cW dT ad) (va_runV (C := "EventGraphText") (As := [.int (xs (zi i + (1 : Int32)).toNatClampNeg), .int (xs (zi i + (2 : Int32)).toNatClampNeg)]) (rest := []) ⟨hx, hb, hml, hown, hT⟩ (c_Text_send l dC dI dT ad hD (xs (zi i + (1 : Int32)).toNatClampNeg) (xs (zi i + (2 : Int32)).toNatClampNeg) u w x h1) (cwV 2 hT (xglV wd_299 wd_300 wd_301 wd_1 wd_302) rfl rfl rfl pd_Text_send ⟨Nat.le_of_ble_eq_true rfl, Nat.le_of_ble_eq_true rfl⟩) (xpreV (C := "EventGraphText") (T := T_Text) (N := 5) hPx hK hN rfl cW_E) rfl rfl hl.1 rfl (lv_room (Nat.le_of_ble_eq_true rfl)) d_Law_law_267 ⟨Nat.le_of_ble_eq_true rfl, Nat.le_of_ble_eq_true rfl⟩) hS hAx hPm (hapm _) (fun H locs hPx hPm hS => ?_)
  refine lv_aload_n hx hb d_Law_law_270 rfl (lv_at hl 1 rfl) ?_
  refine lv_aload_n hx hb d_Law_law_271 rfl (lv_at hl 3 rfl) ?_
  refine lv_iload_n hx hb d_Law_law_272 rfl (lv_at hl 0 rfl) ?_
  refine lv_iconst (v := (1 : Int32)) hx hb d_Law_law_273 (by decide) ?_
  refine lv_iadd hx hb d_Law_law_274 ?_
  refine va_sld hx hb hX hbl hbA hS (xin1 hL hi) d_Law_law_275 ?_
  refine lv_aload_n hx hb d_Law_law_276 rfl (lv_at hl 3 rfl) ?_
  refine lv_iload_n hx hb d_Law_law_277 rfl (lv_at hl 0 rfl) ?_
  refine lv_iconst (v := (2 : Int32)) hx hb d_Law_law_278 (by decide) ?_
  refine lv_iadd hx hb d_Law_law_279 ?_
  refine va_sld hx hb hX hbl hbA hS (xin2 hL hi) d_Law_law_280 ?_
  refine xl_iw (Wd := mW dT bd) (va_runV (C := "EventGraphTextModel") (As := [.int (xs (zi i + (1 : Int32)).toNatClampNeg), .int (xs (zi i + (2 : Int32)).toNatClampNeg)]) (rest := [.int w]) ⟨hx, hb, hml, hown, hT⟩ (c_Model_send l dC dI dT bd hDm (xs (zi i + (1 : Int32)).toNatClampNeg) (xs (zi i + (2 : Int32)).toNatClampNeg) v w y h2) (cwV 2 hT (xglV wd_700 wd_701 wd_702 wd_9 wd_703) rfl rfl rfl pd_Model_send ⟨Nat.le_of_ble_eq_true rfl, Nat.le_of_ble_eq_true rfl⟩) (xpreV (C := "EventGraphTextModel") (T := T_Model) (N := 26) hPm hK hN rfl mW_X) rfl rfl hl.1 rfl (lv_room (Nat.le_of_ble_eq_true rfl)) d_Law_law_281 ⟨Nat.le_of_ble_eq_true rfl, Nat.le_of_ble_eq_true rfl⟩) hS hAm hPx (hapc _) (fun H locs hPm hPx hS => ?_)
  refine lv_icmp_eq (tgt := 691) hx hb d_Law_law_284 rfl (fun h => ?_) (fun h => absurd rfl h)
  exact K x y H locs hPx hPm h3 hS
set_option maxHeartbeats 4000000 in
set_option maxRecDepth 100000 in
theorem law_k5 {p : Program} {l : Launch} {e : Env} {s : State} {m : MethodId} {below : List Frame} {meth : Method} {c : Code} {Q : State → Prop} {b L : Nat} {xs : Nat → Int32} {dC : Nat → ClassId} {dI : Nat → Nat → Nat} {dT : Nat → ClassId} {ad bd : Nat → Nat} (F : lwF p s m c b L xs dC dI dT ad bd) {i : Nat} (hi : i + 5 ≤ L) {u v : xS} {H : Heap} {locs : List Loc} {ls : Array Slot} (hl : lv_has ls 4 [(3, .int (zi i)), (2, .ref (bd 0)), (1, .ref (ad 0)), (0, .ref b)]) (hPx : va_P (dC, dI) xCl (cW dT ad u) H) (hPm : va_P (dC, dI) xCl (mW dT bd v) H) (hR : zR u v) (hS : va_S (fun q => s.heap.size ≤ q) s.heap H locs)
    (K : ∀ (u v : xS) (H : Heap) (locs : List Loc), va_P (dC, dI) xCl (cW dT ad u) H → va_P (dC, dI) xCl (mW dT bd v) H → zR u v → va_S (fun q => s.heap.size ≤ q) s.heap H locs → W p l e room_1 s m #[Value.ref b] below meth c H locs 600000 7302249 Q (F0 m 691 ls [])) : W p l e room_1 s m #[Value.ref b] below meth c H locs 600000 7302249 Q (F0 m 289 ls []) := by
  obtain ⟨hx, hb, hml, hown, hT, hK, hN, hD, hDm, hAx, hAm, hapm, hapc, hX, hbl, hL⟩ := F
  have hbA : ¬ (fun q => s.heap.size ≤ q) b := fun q => Nat.not_lt.mpr q hbl
  obtain ⟨w, x, y, h1, h2, h3⟩ := r_deliver hR (xs (zi i + (1 : Int32)).toNatClampNeg)
  refine lv_aload_n hx hb d_Law_law_289 rfl (lv_at hl 2 rfl) ?_
  refine lv_aload_n hx hb d_Law_law_290 rfl (lv_at hl 3 rfl) ?_
  refine lv_iload_n hx hb d_Law_law_291 rfl (lv_at hl 0 rfl) ?_
  refine lv_iconst (v := (1 : Int32)) hx hb d_Law_law_292 (by decide) ?_
  refine lv_iadd hx hb d_Law_law_293 ?_
  refine va_sld hx hb hX hbl hbA hS (xin1 hL hi) d_Law_law_294 ?_
  refine xl_iw (Wd := cW dT ad) (va_runV (C := "EventGraphText") (As := [.int (xs (zi i + (1 : Int32)).toNatClampNeg)]) (rest := []) ⟨hx, hb, hml, hown, hT⟩ (c_Text_deliver l dC dI dT ad hD (xs (zi i + (1 : Int32)).toNatClampNeg) u w x h1) (cwV 1 hT (xglV wd_410 wd_411 wd_412 wd_1 wd_413) rfl rfl rfl pd_Text_deliver ⟨Nat.le_of_ble_eq_true rfl, Nat.le_of_ble_eq_true rfl⟩) (xpreV (C := "EventGraphText") (T := T_Text) (N := 5) hPx hK hN rfl cW_E) rfl rfl hl.1 rfl (lv_room (Nat.le_of_ble_eq_true rfl)) d_Law_law_295 ⟨Nat.le_of_ble_eq_true rfl, Nat.le_of_ble_eq_true rfl⟩) hS hAx hPm (hapm _) (fun H locs hPx hPm hS => ?_)
  refine lv_aload_n hx hb d_Law_law_298 rfl (lv_at hl 1 rfl) ?_
  refine lv_aload_n hx hb d_Law_law_299 rfl (lv_at hl 3 rfl) ?_
  refine lv_iload_n hx hb d_Law_law_300 rfl (lv_at hl 0 rfl) ?_
  refine lv_iconst (v := (1 : Int32)) hx hb d_Law_law_301 (by decide) ?_
  refine lv_iadd hx hb d_Law_law_302 ?_
  refine va_sld hx hb hX hbl hbA hS (xin1 hL hi) d_Law_law_303 ?_
  refine xl_iw (Wd := mW dT bd) (va_runV (C := "EventGraphTextModel") (As := [.int (xs (zi i + (1 : Int32)).toNatClampNeg)]) (rest := [.int w]) ⟨hx, hb, hml, hown, hT⟩ (c_Model_deliver l dC dI dT bd hDm (xs (zi i + (1 : Int32)).toNatClampNeg) v w y h2) (cwV 1 hT (xglV wd_731 wd_732 wd_733 wd_9 wd_734) rfl rfl rfl pd_Model_deliver ⟨Nat.le_of_ble_eq_true rfl, Nat.le_of_ble_eq_true rfl⟩) (xpreV (C := "EventGraphTextModel") (T := T_Model) (N := 26) hPm hK hN rfl mW_X) rfl rfl hl.1 rfl (lv_room (Nat.le_of_ble_eq_true rfl)) d_Law_law_304 ⟨Nat.le_of_ble_eq_true rfl, Nat.le_of_ble_eq_true rfl⟩) hS hAm hPx (hapc _) (fun H locs hPm hPx hS => ?_)
  refine lv_icmp_eq (tgt := 691) hx hb d_Law_law_307 rfl (fun h => ?_) (fun h => absurd rfl h)
  exact K x y H locs hPx hPm h3 hS
set_option maxHeartbeats 4000000 in
set_option maxRecDepth 100000 in
theorem law_k6 {p : Program} {l : Launch} {e : Env} {s : State} {m : MethodId} {below : List Frame} {meth : Method} {c : Code} {Q : State → Prop} {b L : Nat} {xs : Nat → Int32} {dC : Nat → ClassId} {dI : Nat → Nat → Nat} {dT : Nat → ClassId} {ad bd : Nat → Nat} (F : lwF p s m c b L xs dC dI dT ad bd) {i : Nat} (hi : i + 5 ≤ L) {u v : xS} {H : Heap} {locs : List Loc} {ls : Array Slot} (hl : lv_has ls 4 [(3, .int (zi i)), (2, .ref (bd 0)), (1, .ref (ad 0)), (0, .ref b)]) (hPx : va_P (dC, dI) xCl (cW dT ad u) H) (hPm : va_P (dC, dI) xCl (mW dT bd v) H) (hR : zR u v) (hS : va_S (fun q => s.heap.size ≤ q) s.heap H locs)
    (K : ∀ (u v : xS) (H : Heap) (locs : List Loc), va_P (dC, dI) xCl (cW dT ad u) H → va_P (dC, dI) xCl (mW dT bd v) H → zR u v → va_S (fun q => s.heap.size ≤ q) s.heap H locs → W p l e room_1 s m #[Value.ref b] below meth c H locs 600000 7302249 Q (F0 m 691 ls [])) : W p l e room_1 s m #[Value.ref b] below meth c H locs 600000 7302249 Q (F0 m 312 ls []) := by
  obtain ⟨hx, hb, hml, hown, hT, hK, hN, hD, hDm, hAx, hAm, hapm, hapc, hX, hbl, hL⟩ := F
  have hbA : ¬ (fun q => s.heap.size ≤ q) b := fun q => Nat.not_lt.mpr q hbl
  obtain ⟨w, x, y, h1, h2, h3⟩ := r_discard hR (xs (zi i + (1 : Int32)).toNatClampNeg)
  refine lv_aload_n hx hb d_Law_law_312 rfl (lv_at hl 2 rfl) ?_
  refine lv_aload_n hx hb d_Law_law_313 rfl (lv_at hl 3 rfl) ?_
  refine lv_iload_n hx hb d_Law_law_314 rfl (lv_at hl 0 rfl) ?_
  refine lv_iconst (v := (1 : Int32)) hx hb d_Law_law_315 (by decide) ?_
  refine lv_iadd hx hb d_Law_law_316 ?_
  refine va_sld hx hb hX hbl hbA hS (xin1 hL hi) d_Law_law_317 ?_
  refine xl_iw (Wd := cW dT ad) (va_runV (C := "EventGraphText") (As := [.int (xs (zi i + (1 : Int32)).toNatClampNeg)]) (rest := []) ⟨hx, hb, hml, hown, hT⟩ (c_Text_discard l dC dI dT ad hD (xs (zi i + (1 : Int32)).toNatClampNeg) u w x h1) (cwV 1 hT (xglV wd_476 wd_477 wd_478 wd_1 wd_479) rfl rfl rfl pd_Text_discard ⟨Nat.le_of_ble_eq_true rfl, Nat.le_of_ble_eq_true rfl⟩) (xpreV (C := "EventGraphText") (T := T_Text) (N := 5) hPx hK hN rfl cW_E) rfl rfl hl.1 rfl (lv_room (Nat.le_of_ble_eq_true rfl)) d_Law_law_318 ⟨Nat.le_of_ble_eq_true rfl, Nat.le_of_ble_eq_true rfl⟩) hS hAx hPm (hapm _) (fun H locs hPx hPm hS => ?_)
  refine lv_aload_n hx hb d_Law_law_321 rfl (lv_at hl 1 rfl) ?_
  refine lv_aload_n hx hb d_Law_law_322 rfl (lv_at hl 3 rfl) ?_
  refine lv_iload_n hx hb d_Law_law_323 rfl (lv_at hl 0 rfl) ?_
  refine lv_iconst (v := (1 : Int32)) hx hb d_Law_law_324 (by decide) ?_
  refine lv_iadd hx hb d_Law_law_325 ?_
  refine va_sld hx hb hX hbl hbA hS (xin1 hL hi) d_Law_law_326 ?_
  refine xl_iw (Wd := mW dT bd) (va_runV (C := "EventGraphTextModel") (As := [.int (xs (zi i + (1 : Int32)).toNatClampNeg)]) (rest := [.int w]) ⟨hx, hb, hml, hown, hT⟩ (c_Model_discard l dC dI dT bd hDm (xs (zi i + (1 : Int32)).toNatClampNeg) v w y h2) (cwV 1 hT (xglV wd_707 wd_708 wd_709 wd_9 wd_710) rfl rfl rfl pd_Model_discard ⟨Nat.le_of_ble_eq_true rfl, Nat.le_of_ble_eq_true rfl⟩) (xpreV (C := "EventGraphTextModel") (T := T_Model) (N := 26) hPm hK hN rfl mW_X) rfl rfl hl.1 rfl (lv_room (Nat.le_of_ble_eq_true rfl)) d_Law_law_327 ⟨Nat.le_of_ble_eq_true rfl, Nat.le_of_ble_eq_true rfl⟩) hS hAm hPx (hapc _) (fun H locs hPm hPx hS => ?_)
  refine lv_icmp_eq (tgt := 691) hx hb d_Law_law_330 rfl (fun h => ?_) (fun h => absurd rfl h)
  exact K x y H locs hPx hPm h3 hS
set_option maxHeartbeats 4000000 in
set_option maxRecDepth 100000 in
theorem law_k7 {p : Program} {l : Launch} {e : Env} {s : State} {m : MethodId} {below : List Frame} {meth : Method} {c : Code} {Q : State → Prop} {b L : Nat} {xs : Nat → Int32} {dC : Nat → ClassId} {dI : Nat → Nat → Nat} {dT : Nat → ClassId} {ad bd : Nat → Nat} (F : lwF p s m c b L xs dC dI dT ad bd) {i : Nat} (hi : i + 5 ≤ L) {u v : xS} {H : Heap} {locs : List Loc} {ls : Array Slot} (hl : lv_has ls 4 [(3, .int (zi i)), (2, .ref (bd 0)), (1, .ref (ad 0)), (0, .ref b)]) (hPx : va_P (dC, dI) xCl (cW dT ad u) H) (hPm : va_P (dC, dI) xCl (mW dT bd v) H) (hR : zR u v) (hS : va_S (fun q => s.heap.size ≤ q) s.heap H locs)
    (K : ∀ (u v : xS) (H : Heap) (locs : List Loc), va_P (dC, dI) xCl (cW dT ad u) H → va_P (dC, dI) xCl (mW dT bd v) H → zR u v → va_S (fun q => s.heap.size ≤ q) s.heap H locs → W p l e room_1 s m #[Value.ref b] below meth c H locs 600000 7302249 Q (F0 m 691 ls [])) : W p l e room_1 s m #[Value.ref b] below meth c H locs 600000 7302249 Q (F0 m 335 ls []) := by
  obtain ⟨hx, hb, hml, hown, hT, hK, hN, hD, hDm, hAx, hAm, hapm, hapc, hX, hbl, hL⟩ := F
  have hbA : ¬ (fun q => s.heap.size ≤ q) b := fun q => Nat.not_lt.mpr q hbl
  obtain ⟨w, x, y, h1, h2, h3⟩ := r_hear hR (xs (zi i + (1 : Int32)).toNatClampNeg) (xs (zi i + (2 : Int32)).toNatClampNeg)
  refine lv_aload_n hx hb d_Law_law_335 rfl (lv_at hl 2 rfl) ?_
  refine lv_aload_n hx hb d_Law_law_336 rfl (lv_at hl 3 rfl) ?_
  refine lv_iload_n hx hb d_Law_law_337 rfl (lv_at hl 0 rfl) ?_
  refine lv_iconst (v := (1 : Int32)) hx hb d_Law_law_338 (by decide) ?_
  refine lv_iadd hx hb d_Law_law_339 ?_
  refine va_sld hx hb hX hbl hbA hS (xin1 hL hi) d_Law_law_340 ?_
  refine lv_aload_n hx hb d_Law_law_341 rfl (lv_at hl 3 rfl) ?_
  refine lv_iload_n hx hb d_Law_law_342 rfl (lv_at hl 0 rfl) ?_
  refine lv_iconst (v := (2 : Int32)) hx hb d_Law_law_343 (by decide) ?_
  refine lv_iadd hx hb d_Law_law_344 ?_
  refine va_sld hx hb hX hbl hbA hS (xin2 hL hi) d_Law_law_345 ?_
  refine xl_iw (Wd := cW dT ad) (va_runV (C := "EventGraphText") (As := [.int (xs (zi i + (1 : Int32)).toNatClampNeg), .int (xs (zi i + (2 : Int32)).toNatClampNeg)]) (rest := []) ⟨hx, hb, hml, hown, hT⟩ (c_Text_hear l dC dI dT ad hD (xs (zi i + (1 : Int32)).toNatClampNeg) (xs (zi i + (2 : Int32)).toNatClampNeg) u w x h1) (cwV 2 hT (xglV wd_480 wd_481 wd_482 wd_1 wd_483) rfl rfl rfl pd_Text_hear ⟨Nat.le_of_ble_eq_true rfl, Nat.le_of_ble_eq_true rfl⟩) (xpreV (C := "EventGraphText") (T := T_Text) (N := 5) hPx hK hN rfl cW_E) rfl rfl hl.1 rfl (lv_room (Nat.le_of_ble_eq_true rfl)) d_Law_law_346 ⟨Nat.le_of_ble_eq_true rfl, Nat.le_of_ble_eq_true rfl⟩) hS hAx hPm (hapm _) (fun H locs hPx hPm hS => ?_)
  refine lv_aload_n hx hb d_Law_law_349 rfl (lv_at hl 1 rfl) ?_
  refine lv_aload_n hx hb d_Law_law_350 rfl (lv_at hl 3 rfl) ?_
  refine lv_iload_n hx hb d_Law_law_351 rfl (lv_at hl 0 rfl) ?_
  refine lv_iconst (v := (1 : Int32)) hx hb d_Law_law_352 (by decide) ?_
  refine lv_iadd hx hb d_Law_law_353 ?_
  refine va_sld hx hb hX hbl hbA hS (xin1 hL hi) d_Law_law_354 ?_
  refine lv_aload_n hx hb d_Law_law_355 rfl (lv_at hl 3 rfl) ?_
  refine lv_iload_n hx hb d_Law_law_356 rfl (lv_at hl 0 rfl) ?_
  refine lv_iconst (v := (2 : Int32)) hx hb d_Law_law_357 (by decide) ?_
  refine lv_iadd hx hb d_Law_law_358 ?_
  refine va_sld hx hb hX hbl hbA hS (xin2 hL hi) d_Law_law_359 ?_
  refine xl_iw (Wd := mW dT bd) (va_runV (C := "EventGraphTextModel") (As := [.int (xs (zi i + (1 : Int32)).toNatClampNeg), .int (xs (zi i + (2 : Int32)).toNatClampNeg)]) (rest := [.int w]) ⟨hx, hb, hml, hown, hT⟩ (c_Model_hear l dC dI dT bd hDm (xs (zi i + (1 : Int32)).toNatClampNeg) (xs (zi i + (2 : Int32)).toNatClampNeg) v w y h2) (cwV 2 hT (xglV wd_715 wd_716 wd_717 wd_9 wd_718) rfl rfl rfl pd_Model_hear ⟨Nat.le_of_ble_eq_true rfl, Nat.le_of_ble_eq_true rfl⟩) (xpreV (C := "EventGraphTextModel") (T := T_Model) (N := 26) hPm hK hN rfl mW_X) rfl rfl hl.1 rfl (lv_room (Nat.le_of_ble_eq_true rfl)) d_Law_law_360 ⟨Nat.le_of_ble_eq_true rfl, Nat.le_of_ble_eq_true rfl⟩) hS hAm hPx (hapc _) (fun H locs hPm hPx hS => ?_)
  refine lv_icmp_eq (tgt := 691) hx hb d_Law_law_363 rfl (fun h => ?_) (fun h => absurd rfl h)
  exact K x y H locs hPx hPm h3 hS
set_option maxHeartbeats 4000000 in
set_option maxRecDepth 100000 in
theorem law_k8 {p : Program} {l : Launch} {e : Env} {s : State} {m : MethodId} {below : List Frame} {meth : Method} {c : Code} {Q : State → Prop} {b L : Nat} {xs : Nat → Int32} {dC : Nat → ClassId} {dI : Nat → Nat → Nat} {dT : Nat → ClassId} {ad bd : Nat → Nat} (F : lwF p s m c b L xs dC dI dT ad bd) {i : Nat} (hi : i + 5 ≤ L) {u v : xS} {H : Heap} {locs : List Loc} {ls : Array Slot} (hl : lv_has ls 4 [(3, .int (zi i)), (2, .ref (bd 0)), (1, .ref (ad 0)), (0, .ref b)]) (hPx : va_P (dC, dI) xCl (cW dT ad u) H) (hPm : va_P (dC, dI) xCl (mW dT bd v) H) (hR : zR u v) (hS : va_S (fun q => s.heap.size ≤ q) s.heap H locs)
    (K : ∀ (u v : xS) (H : Heap) (locs : List Loc), va_P (dC, dI) xCl (cW dT ad u) H → va_P (dC, dI) xCl (mW dT bd v) H → zR u v → va_S (fun q => s.heap.size ≤ q) s.heap H locs → W p l e room_1 s m #[Value.ref b] below meth c H locs 600000 7302249 Q (F0 m 691 ls [])) : W p l e room_1 s m #[Value.ref b] below meth c H locs 600000 7302249 Q (F0 m 368 ls []) := by
  obtain ⟨hx, hb, hml, hown, hT, hK, hN, hD, hDm, hAx, hAm, hapm, hapc, hX, hbl, hL⟩ := F
  have hbA : ¬ (fun q => s.heap.size ≤ q) b := fun q => Nat.not_lt.mpr q hbl
  obtain ⟨w, h1, h2⟩ := r_believed hR (xs (zi i + (1 : Int32)).toNatClampNeg) (xs (zi i + (2 : Int32)).toNatClampNeg)
  refine lv_aload_n hx hb d_Law_law_368 rfl (lv_at hl 2 rfl) ?_
  refine lv_aload_n hx hb d_Law_law_369 rfl (lv_at hl 3 rfl) ?_
  refine lv_iload_n hx hb d_Law_law_370 rfl (lv_at hl 0 rfl) ?_
  refine lv_iconst (v := (1 : Int32)) hx hb d_Law_law_371 (by decide) ?_
  refine lv_iadd hx hb d_Law_law_372 ?_
  refine va_sld hx hb hX hbl hbA hS (xin1 hL hi) d_Law_law_373 ?_
  refine lv_aload_n hx hb d_Law_law_374 rfl (lv_at hl 3 rfl) ?_
  refine lv_iload_n hx hb d_Law_law_375 rfl (lv_at hl 0 rfl) ?_
  refine lv_iconst (v := (2 : Int32)) hx hb d_Law_law_376 (by decide) ?_
  refine lv_iadd hx hb d_Law_law_377 ?_
  refine va_sld hx hb hX hbl hbA hS (xin2 hL hi) d_Law_law_378 ?_
  refine xl_i (va_runV (C := "EventGraphText") (As := [.int (xs (zi i + (1 : Int32)).toNatClampNeg), .int (xs (zi i + (2 : Int32)).toNatClampNeg)]) (rest := []) ⟨hx, hb, hml, hown, hT⟩ (c_Text_believed l dC dI dT ad (xs (zi i + (1 : Int32)).toNatClampNeg) (xs (zi i + (2 : Int32)).toNatClampNeg) u w h1) (cwV 2 hT (xglV wd_485 wd_486 wd_487 wd_1 wd_488) rfl rfl rfl pd_Text_believed ⟨Nat.le_of_ble_eq_true rfl, Nat.le_of_ble_eq_true rfl⟩) (xpreV (C := "EventGraphText") (T := T_Text) (N := 5) hPx hK hN rfl cW_E) rfl rfl hl.1 rfl (lv_room (Nat.le_of_ble_eq_true rfl)) d_Law_law_379 ⟨Nat.le_of_ble_eq_true rfl, Nat.le_of_ble_eq_true rfl⟩) hPx hPm hS (fun H locs hPx hPm hS => ?_)
  refine lv_aload_n hx hb d_Law_law_382 rfl (lv_at hl 1 rfl) ?_
  refine lv_aload_n hx hb d_Law_law_383 rfl (lv_at hl 3 rfl) ?_
  refine lv_iload_n hx hb d_Law_law_384 rfl (lv_at hl 0 rfl) ?_
  refine lv_iconst (v := (1 : Int32)) hx hb d_Law_law_385 (by decide) ?_
  refine lv_iadd hx hb d_Law_law_386 ?_
  refine va_sld hx hb hX hbl hbA hS (xin1 hL hi) d_Law_law_387 ?_
  refine lv_aload_n hx hb d_Law_law_388 rfl (lv_at hl 3 rfl) ?_
  refine lv_iload_n hx hb d_Law_law_389 rfl (lv_at hl 0 rfl) ?_
  refine lv_iconst (v := (2 : Int32)) hx hb d_Law_law_390 (by decide) ?_
  refine lv_iadd hx hb d_Law_law_391 ?_
  refine va_sld hx hb hX hbl hbA hS (xin2 hL hi) d_Law_law_392 ?_
  refine xl_i (va_runV (C := "EventGraphTextModel") (As := [.int (xs (zi i + (1 : Int32)).toNatClampNeg), .int (xs (zi i + (2 : Int32)).toNatClampNeg)]) (rest := [.int w]) ⟨hx, hb, hml, hown, hT⟩ (c_Model_believed l dC dI dT bd (xs (zi i + (1 : Int32)).toNatClampNeg) (xs (zi i + (2 : Int32)).toNatClampNeg) v w h2) (cwV 2 hT (xglV wd_730 wd_724 wd_725 wd_9 wd_726) rfl rfl rfl pd_Model_believed ⟨Nat.le_of_ble_eq_true rfl, Nat.le_of_ble_eq_true rfl⟩) (xpreV (C := "EventGraphTextModel") (T := T_Model) (N := 26) hPm hK hN rfl mW_X) rfl rfl hl.1 rfl (lv_room (Nat.le_of_ble_eq_true rfl)) d_Law_law_393 ⟨Nat.le_of_ble_eq_true rfl, Nat.le_of_ble_eq_true rfl⟩) hPx hPm hS (fun H locs hPx hPm hS => ?_)
  refine lv_icmp_eq (tgt := 691) hx hb d_Law_law_396 rfl (fun h => ?_) (fun h => absurd rfl h)
  exact K u v H locs hPx hPm hR hS
set_option maxHeartbeats 4000000 in
set_option maxRecDepth 100000 in
theorem law_k9 {p : Program} {l : Launch} {e : Env} {s : State} {m : MethodId} {below : List Frame} {meth : Method} {c : Code} {Q : State → Prop} {b L : Nat} {xs : Nat → Int32} {dC : Nat → ClassId} {dI : Nat → Nat → Nat} {dT : Nat → ClassId} {ad bd : Nat → Nat} (F : lwF p s m c b L xs dC dI dT ad bd) {i : Nat} (hi : i + 5 ≤ L) {u v : xS} {H : Heap} {locs : List Loc} {ls : Array Slot} (hl : lv_has ls 4 [(3, .int (zi i)), (2, .ref (bd 0)), (1, .ref (ad 0)), (0, .ref b)]) (hPx : va_P (dC, dI) xCl (cW dT ad u) H) (hPm : va_P (dC, dI) xCl (mW dT bd v) H) (hR : zR u v) (hS : va_S (fun q => s.heap.size ≤ q) s.heap H locs)
    (K : ∀ (u v : xS) (H : Heap) (locs : List Loc), va_P (dC, dI) xCl (cW dT ad u) H → va_P (dC, dI) xCl (mW dT bd v) H → zR u v → va_S (fun q => s.heap.size ≤ q) s.heap H locs → W p l e room_1 s m #[Value.ref b] below meth c H locs 600000 7302249 Q (F0 m 691 ls [])) : W p l e room_1 s m #[Value.ref b] below meth c H locs 600000 7302249 Q (F0 m 401 ls []) := by
  obtain ⟨hx, hb, hml, hown, hT, hK, hN, hD, hDm, hAx, hAm, hapm, hapc, hX, hbl, hL⟩ := F
  have hbA : ¬ (fun q => s.heap.size ≤ q) b := fun q => Nat.not_lt.mpr q hbl
  obtain ⟨w, y, h1, h2, h3⟩ := r_octets hR (xs (zi i + (1 : Int32)).toNatClampNeg)
  refine lv_aload_n hx hb d_Law_law_401 rfl (lv_at hl 2 rfl) ?_
  refine lv_aload_n hx hb d_Law_law_402 rfl (lv_at hl 3 rfl) ?_
  refine lv_iload_n hx hb d_Law_law_403 rfl (lv_at hl 0 rfl) ?_
  refine lv_iconst (v := (1 : Int32)) hx hb d_Law_law_404 (by decide) ?_
  refine lv_iadd hx hb d_Law_law_405 ?_
  refine va_sld hx hb hX hbl hbA hS (xin1 hL hi) d_Law_law_406 ?_
  refine xl_i (va_runV (C := "EventGraphText") (As := [.int (xs (zi i + (1 : Int32)).toNatClampNeg)]) (rest := []) ⟨hx, hb, hml, hown, hT⟩ (c_Text_octets l dC dI dT ad (xs (zi i + (1 : Int32)).toNatClampNeg) u w h1) (cwV 1 hT (xglV wd_489 wd_490 wd_491 wd_1 wd_492) rfl rfl rfl pd_Text_octets ⟨Nat.le_of_ble_eq_true rfl, Nat.le_of_ble_eq_true rfl⟩) (xpreV (C := "EventGraphText") (T := T_Text) (N := 5) hPx hK hN rfl cW_E) rfl rfl hl.1 rfl (lv_room (Nat.le_of_ble_eq_true rfl)) d_Law_law_407 ⟨Nat.le_of_ble_eq_true rfl, Nat.le_of_ble_eq_true rfl⟩) hPx hPm hS (fun H locs hPx hPm hS => ?_)
  refine lv_aload_n hx hb d_Law_law_410 rfl (lv_at hl 1 rfl) ?_
  refine lv_aload_n hx hb d_Law_law_411 rfl (lv_at hl 3 rfl) ?_
  refine lv_iload_n hx hb d_Law_law_412 rfl (lv_at hl 0 rfl) ?_
  refine lv_iconst (v := (1 : Int32)) hx hb d_Law_law_413 (by decide) ?_
  refine lv_iadd hx hb d_Law_law_414 ?_
  refine va_sld hx hb hX hbl hbA hS (xin1 hL hi) d_Law_law_415 ?_
  refine xl_iw (Wd := mW dT bd) (va_runV (C := "EventGraphTextModel") (As := [.int (xs (zi i + (1 : Int32)).toNatClampNeg)]) (rest := [.int w]) ⟨hx, hb, hml, hown, hT⟩ (c_Model_octets l dC dI dT bd hDm (xs (zi i + (1 : Int32)).toNatClampNeg) v w y h2) (cwV 1 hT (xglV wd_763 wd_764 wd_765 wd_9 wd_766) rfl rfl rfl pd_Model_octets ⟨Nat.le_of_ble_eq_true rfl, Nat.le_of_ble_eq_true rfl⟩) (xpreV (C := "EventGraphTextModel") (T := T_Model) (N := 26) hPm hK hN rfl mW_X) rfl rfl hl.1 rfl (lv_room (Nat.le_of_ble_eq_true rfl)) d_Law_law_416 ⟨Nat.le_of_ble_eq_true rfl, Nat.le_of_ble_eq_true rfl⟩) hS hAm hPx (hapc _) (fun H locs hPm hPx hS => ?_)
  refine lv_icmp_eq (tgt := 691) hx hb d_Law_law_419 rfl (fun h => ?_) (fun h => absurd rfl h)
  exact K u y H locs hPx hPm h3 hS
set_option maxHeartbeats 4000000 in
set_option maxRecDepth 100000 in
theorem law_k10 {p : Program} {l : Launch} {e : Env} {s : State} {m : MethodId} {below : List Frame} {meth : Method} {c : Code} {Q : State → Prop} {b L : Nat} {xs : Nat → Int32} {dC : Nat → ClassId} {dI : Nat → Nat → Nat} {dT : Nat → ClassId} {ad bd : Nat → Nat} (F : lwF p s m c b L xs dC dI dT ad bd) {i : Nat} (hi : i + 5 ≤ L) {u v : xS} {H : Heap} {locs : List Loc} {ls : Array Slot} (hl : lv_has ls 4 [(3, .int (zi i)), (2, .ref (bd 0)), (1, .ref (ad 0)), (0, .ref b)]) (hPx : va_P (dC, dI) xCl (cW dT ad u) H) (hPm : va_P (dC, dI) xCl (mW dT bd v) H) (hR : zR u v) (hS : va_S (fun q => s.heap.size ≤ q) s.heap H locs)
    (K : ∀ (u v : xS) (H : Heap) (locs : List Loc), va_P (dC, dI) xCl (cW dT ad u) H → va_P (dC, dI) xCl (mW dT bd v) H → zR u v → va_S (fun q => s.heap.size ≤ q) s.heap H locs → W p l e room_1 s m #[Value.ref b] below meth c H locs 600000 7302249 Q (F0 m 691 ls [])) : W p l e room_1 s m #[Value.ref b] below meth c H locs 600000 7302249 Q (F0 m 424 ls []) := by
  obtain ⟨hx, hb, hml, hown, hT, hK, hN, hD, hDm, hAx, hAm, hapm, hapc, hX, hbl, hL⟩ := F
  have hbA : ¬ (fun q => s.heap.size ≤ q) b := fun q => Nat.not_lt.mpr q hbl
  obtain ⟨w, y, h1, h2, h3⟩ := r_octet hR (xs (zi i + (1 : Int32)).toNatClampNeg) (xs (zi i + (2 : Int32)).toNatClampNeg)
  refine lv_aload_n hx hb d_Law_law_424 rfl (lv_at hl 2 rfl) ?_
  refine lv_aload_n hx hb d_Law_law_425 rfl (lv_at hl 3 rfl) ?_
  refine lv_iload_n hx hb d_Law_law_426 rfl (lv_at hl 0 rfl) ?_
  refine lv_iconst (v := (1 : Int32)) hx hb d_Law_law_427 (by decide) ?_
  refine lv_iadd hx hb d_Law_law_428 ?_
  refine va_sld hx hb hX hbl hbA hS (xin1 hL hi) d_Law_law_429 ?_
  refine lv_aload_n hx hb d_Law_law_430 rfl (lv_at hl 3 rfl) ?_
  refine lv_iload_n hx hb d_Law_law_431 rfl (lv_at hl 0 rfl) ?_
  refine lv_iconst (v := (2 : Int32)) hx hb d_Law_law_432 (by decide) ?_
  refine lv_iadd hx hb d_Law_law_433 ?_
  refine va_sld hx hb hX hbl hbA hS (xin2 hL hi) d_Law_law_434 ?_
  refine xl_i (va_runV (C := "EventGraphText") (As := [.int (xs (zi i + (1 : Int32)).toNatClampNeg), .int (xs (zi i + (2 : Int32)).toNatClampNeg)]) (rest := []) ⟨hx, hb, hml, hown, hT⟩ (c_Text_octet l dC dI dT ad (xs (zi i + (1 : Int32)).toNatClampNeg) (xs (zi i + (2 : Int32)).toNatClampNeg) u w h1) (cwV 2 hT (xglV wd_497 wd_498 wd_499 wd_1 wd_500) rfl rfl rfl pd_Text_octet ⟨Nat.le_of_ble_eq_true rfl, Nat.le_of_ble_eq_true rfl⟩) (xpreV (C := "EventGraphText") (T := T_Text) (N := 5) hPx hK hN rfl cW_E) rfl rfl hl.1 rfl (lv_room (Nat.le_of_ble_eq_true rfl)) d_Law_law_435 ⟨Nat.le_of_ble_eq_true rfl, Nat.le_of_ble_eq_true rfl⟩) hPx hPm hS (fun H locs hPx hPm hS => ?_)
  refine lv_aload_n hx hb d_Law_law_438 rfl (lv_at hl 1 rfl) ?_
  refine lv_aload_n hx hb d_Law_law_439 rfl (lv_at hl 3 rfl) ?_
  refine lv_iload_n hx hb d_Law_law_440 rfl (lv_at hl 0 rfl) ?_
  refine lv_iconst (v := (1 : Int32)) hx hb d_Law_law_441 (by decide) ?_
  refine lv_iadd hx hb d_Law_law_442 ?_
  refine va_sld hx hb hX hbl hbA hS (xin1 hL hi) d_Law_law_443 ?_
  refine lv_aload_n hx hb d_Law_law_444 rfl (lv_at hl 3 rfl) ?_
  refine lv_iload_n hx hb d_Law_law_445 rfl (lv_at hl 0 rfl) ?_
  refine lv_iconst (v := (2 : Int32)) hx hb d_Law_law_446 (by decide) ?_
  refine lv_iadd hx hb d_Law_law_447 ?_
  refine va_sld hx hb hX hbl hbA hS (xin2 hL hi) d_Law_law_448 ?_
  refine xl_iw (Wd := mW dT bd) (va_runV (C := "EventGraphTextModel") (As := [.int (xs (zi i + (1 : Int32)).toNatClampNeg), .int (xs (zi i + (2 : Int32)).toNatClampNeg)]) (rest := [.int w]) ⟨hx, hb, hml, hown, hT⟩ (c_Model_octet l dC dI dT bd hDm (xs (zi i + (1 : Int32)).toNatClampNeg) (xs (zi i + (2 : Int32)).toNatClampNeg) v w y h2) (cwV 2 hT (xglV wd_787 wd_788 wd_789 wd_9 wd_790) rfl rfl rfl pd_Model_octet ⟨Nat.le_of_ble_eq_true rfl, Nat.le_of_ble_eq_true rfl⟩) (xpreV (C := "EventGraphTextModel") (T := T_Model) (N := 26) hPm hK hN rfl mW_X) rfl rfl hl.1 rfl (lv_room (Nat.le_of_ble_eq_true rfl)) d_Law_law_449 ⟨Nat.le_of_ble_eq_true rfl, Nat.le_of_ble_eq_true rfl⟩) hS hAm hPx (hapc _) (fun H locs hPm hPx hS => ?_)
  refine lv_icmp_eq (tgt := 691) hx hb d_Law_law_452 rfl (fun h => ?_) (fun h => absurd rfl h)
  exact K u y H locs hPx hPm h3 hS
set_option maxHeartbeats 4000000 in
set_option maxRecDepth 100000 in
theorem law_k11 {p : Program} {l : Launch} {e : Env} {s : State} {m : MethodId} {below : List Frame} {meth : Method} {c : Code} {Q : State → Prop} {b L : Nat} {xs : Nat → Int32} {dC : Nat → ClassId} {dI : Nat → Nat → Nat} {dT : Nat → ClassId} {ad bd : Nat → Nat} (F : lwF p s m c b L xs dC dI dT ad bd) {i : Nat} (hi : i + 5 ≤ L) {u v : xS} {H : Heap} {locs : List Loc} {ls : Array Slot} (hl : lv_has ls 4 [(3, .int (zi i)), (2, .ref (bd 0)), (1, .ref (ad 0)), (0, .ref b)]) (hPx : va_P (dC, dI) xCl (cW dT ad u) H) (hPm : va_P (dC, dI) xCl (mW dT bd v) H) (hR : zR u v) (hS : va_S (fun q => s.heap.size ≤ q) s.heap H locs)
    (K : ∀ (u v : xS) (H : Heap) (locs : List Loc), va_P (dC, dI) xCl (cW dT ad u) H → va_P (dC, dI) xCl (mW dT bd v) H → zR u v → va_S (fun q => s.heap.size ≤ q) s.heap H locs → W p l e room_1 s m #[Value.ref b] below meth c H locs 600000 7302249 Q (F0 m 691 ls [])) : W p l e room_1 s m #[Value.ref b] below meth c H locs 600000 7302249 Q (F0 m 457 ls []) := by
  obtain ⟨hx, hb, hml, hown, hT, hK, hN, hD, hDm, hAx, hAm, hapm, hapc, hX, hbl, hL⟩ := F
  have hbA : ¬ (fun q => s.heap.size ≤ q) b := fun q => Nat.not_lt.mpr q hbl
  obtain ⟨w, h1, h2⟩ := r_events hR (xs (zi i + (1 : Int32)).toNatClampNeg)
  refine lv_aload_n hx hb d_Law_law_457 rfl (lv_at hl 2 rfl) ?_
  refine lv_aload_n hx hb d_Law_law_458 rfl (lv_at hl 3 rfl) ?_
  refine lv_iload_n hx hb d_Law_law_459 rfl (lv_at hl 0 rfl) ?_
  refine lv_iconst (v := (1 : Int32)) hx hb d_Law_law_460 (by decide) ?_
  refine lv_iadd hx hb d_Law_law_461 ?_
  refine va_sld hx hb hX hbl hbA hS (xin1 hL hi) d_Law_law_462 ?_
  refine xl_i (va_runV (C := "EventGraphText") (As := [.int (xs (zi i + (1 : Int32)).toNatClampNeg)]) (rest := []) ⟨hx, hb, hml, hown, hT⟩ (c_Text_events l dC dI dT ad (xs (zi i + (1 : Int32)).toNatClampNeg) u w h1) (cwV 1 hT (xglV wd_505 wd_506 wd_507 wd_1 wd_508) rfl rfl rfl pd_Text_events ⟨Nat.le_of_ble_eq_true rfl, Nat.le_of_ble_eq_true rfl⟩) (xpreV (C := "EventGraphText") (T := T_Text) (N := 5) hPx hK hN rfl cW_E) rfl rfl hl.1 rfl (lv_room (Nat.le_of_ble_eq_true rfl)) d_Law_law_463 ⟨Nat.le_of_ble_eq_true rfl, Nat.le_of_ble_eq_true rfl⟩) hPx hPm hS (fun H locs hPx hPm hS => ?_)
  refine lv_aload_n hx hb d_Law_law_466 rfl (lv_at hl 1 rfl) ?_
  refine lv_aload_n hx hb d_Law_law_467 rfl (lv_at hl 3 rfl) ?_
  refine lv_iload_n hx hb d_Law_law_468 rfl (lv_at hl 0 rfl) ?_
  refine lv_iconst (v := (1 : Int32)) hx hb d_Law_law_469 (by decide) ?_
  refine lv_iadd hx hb d_Law_law_470 ?_
  refine va_sld hx hb hX hbl hbA hS (xin1 hL hi) d_Law_law_471 ?_
  refine xl_i (va_runV (C := "EventGraphTextModel") (As := [.int (xs (zi i + (1 : Int32)).toNatClampNeg)]) (rest := [.int w]) ⟨hx, hb, hml, hown, hT⟩ (c_Model_events l dC dI dT bd (xs (zi i + (1 : Int32)).toNatClampNeg) v w h2) (cwV 1 hT (xglV wd_791 wd_792 wd_793 wd_9 wd_794) rfl rfl rfl pd_Model_events ⟨Nat.le_of_ble_eq_true rfl, Nat.le_of_ble_eq_true rfl⟩) (xpreV (C := "EventGraphTextModel") (T := T_Model) (N := 26) hPm hK hN rfl mW_X) rfl rfl hl.1 rfl (lv_room (Nat.le_of_ble_eq_true rfl)) d_Law_law_472 ⟨Nat.le_of_ble_eq_true rfl, Nat.le_of_ble_eq_true rfl⟩) hPx hPm hS (fun H locs hPx hPm hS => ?_)
  refine lv_icmp_eq (tgt := 691) hx hb d_Law_law_475 rfl (fun h => ?_) (fun h => absurd rfl h)
  exact K u v H locs hPx hPm hR hS
set_option maxHeartbeats 4000000 in
set_option maxRecDepth 100000 in
theorem law_k12 {p : Program} {l : Launch} {e : Env} {s : State} {m : MethodId} {below : List Frame} {meth : Method} {c : Code} {Q : State → Prop} {b L : Nat} {xs : Nat → Int32} {dC : Nat → ClassId} {dI : Nat → Nat → Nat} {dT : Nat → ClassId} {ad bd : Nat → Nat} (F : lwF p s m c b L xs dC dI dT ad bd) {i : Nat} (hi : i + 5 ≤ L) {u v : xS} {H : Heap} {locs : List Loc} {ls : Array Slot} (hl : lv_has ls 4 [(3, .int (zi i)), (2, .ref (bd 0)), (1, .ref (ad 0)), (0, .ref b)]) (hPx : va_P (dC, dI) xCl (cW dT ad u) H) (hPm : va_P (dC, dI) xCl (mW dT bd v) H) (hR : zR u v) (hS : va_S (fun q => s.heap.size ≤ q) s.heap H locs)
    (K : ∀ (u v : xS) (H : Heap) (locs : List Loc), va_P (dC, dI) xCl (cW dT ad u) H → va_P (dC, dI) xCl (mW dT bd v) H → zR u v → va_S (fun q => s.heap.size ≤ q) s.heap H locs → W p l e room_1 s m #[Value.ref b] below meth c H locs 600000 7302249 Q (F0 m 691 ls [])) : W p l e room_1 s m #[Value.ref b] below meth c H locs 600000 7302249 Q (F0 m 480 ls []) := by
  obtain ⟨hx, hb, hml, hown, hT, hK, hN, hD, hDm, hAx, hAm, hapm, hapc, hX, hbl, hL⟩ := F
  have hbA : ¬ (fun q => s.heap.size ≤ q) b := fun q => Nat.not_lt.mpr q hbl
  obtain ⟨w, h1, h2⟩ := r_heads hR (xs (zi i + (1 : Int32)).toNatClampNeg)
  refine lv_aload_n hx hb d_Law_law_480 rfl (lv_at hl 2 rfl) ?_
  refine lv_aload_n hx hb d_Law_law_481 rfl (lv_at hl 3 rfl) ?_
  refine lv_iload_n hx hb d_Law_law_482 rfl (lv_at hl 0 rfl) ?_
  refine lv_iconst (v := (1 : Int32)) hx hb d_Law_law_483 (by decide) ?_
  refine lv_iadd hx hb d_Law_law_484 ?_
  refine va_sld hx hb hX hbl hbA hS (xin1 hL hi) d_Law_law_485 ?_
  refine xl_i (va_runV (C := "EventGraphText") (As := [.int (xs (zi i + (1 : Int32)).toNatClampNeg)]) (rest := []) ⟨hx, hb, hml, hown, hT⟩ (c_Text_heads l dC dI dT ad (xs (zi i + (1 : Int32)).toNatClampNeg) u w h1) (cwV 1 hT (xglV wd_509 wd_510 wd_511 wd_1 wd_512) rfl rfl rfl pd_Text_heads ⟨Nat.le_of_ble_eq_true rfl, Nat.le_of_ble_eq_true rfl⟩) (xpreV (C := "EventGraphText") (T := T_Text) (N := 5) hPx hK hN rfl cW_E) rfl rfl hl.1 rfl (lv_room (Nat.le_of_ble_eq_true rfl)) d_Law_law_486 ⟨Nat.le_of_ble_eq_true rfl, Nat.le_of_ble_eq_true rfl⟩) hPx hPm hS (fun H locs hPx hPm hS => ?_)
  refine lv_aload_n hx hb d_Law_law_489 rfl (lv_at hl 1 rfl) ?_
  refine lv_aload_n hx hb d_Law_law_490 rfl (lv_at hl 3 rfl) ?_
  refine lv_iload_n hx hb d_Law_law_491 rfl (lv_at hl 0 rfl) ?_
  refine lv_iconst (v := (1 : Int32)) hx hb d_Law_law_492 (by decide) ?_
  refine lv_iadd hx hb d_Law_law_493 ?_
  refine va_sld hx hb hX hbl hbA hS (xin1 hL hi) d_Law_law_494 ?_
  refine xl_i (va_runV (C := "EventGraphTextModel") (As := [.int (xs (zi i + (1 : Int32)).toNatClampNeg)]) (rest := [.int w]) ⟨hx, hb, hml, hown, hT⟩ (c_Model_heads l dC dI dT bd (xs (zi i + (1 : Int32)).toNatClampNeg) v w h2) (cwV 1 hT (xglV wd_795 wd_796 wd_797 wd_9 wd_798) rfl rfl rfl pd_Model_heads ⟨Nat.le_of_ble_eq_true rfl, Nat.le_of_ble_eq_true rfl⟩) (xpreV (C := "EventGraphTextModel") (T := T_Model) (N := 26) hPm hK hN rfl mW_X) rfl rfl hl.1 rfl (lv_room (Nat.le_of_ble_eq_true rfl)) d_Law_law_495 ⟨Nat.le_of_ble_eq_true rfl, Nat.le_of_ble_eq_true rfl⟩) hPx hPm hS (fun H locs hPx hPm hS => ?_)
  refine lv_icmp_eq (tgt := 691) hx hb d_Law_law_498 rfl (fun h => ?_) (fun h => absurd rfl h)
  exact K u v H locs hPx hPm hR hS
set_option maxHeartbeats 4000000 in
set_option maxRecDepth 100000 in
theorem law_k13 {p : Program} {l : Launch} {e : Env} {s : State} {m : MethodId} {below : List Frame} {meth : Method} {c : Code} {Q : State → Prop} {b L : Nat} {xs : Nat → Int32} {dC : Nat → ClassId} {dI : Nat → Nat → Nat} {dT : Nat → ClassId} {ad bd : Nat → Nat} (F : lwF p s m c b L xs dC dI dT ad bd) {i : Nat} (hi : i + 5 ≤ L) {u v : xS} {H : Heap} {locs : List Loc} {ls : Array Slot} (hl : lv_has ls 4 [(3, .int (zi i)), (2, .ref (bd 0)), (1, .ref (ad 0)), (0, .ref b)]) (hPx : va_P (dC, dI) xCl (cW dT ad u) H) (hPm : va_P (dC, dI) xCl (mW dT bd v) H) (hR : zR u v) (hS : va_S (fun q => s.heap.size ≤ q) s.heap H locs)
    (K : ∀ (u v : xS) (H : Heap) (locs : List Loc), va_P (dC, dI) xCl (cW dT ad u) H → va_P (dC, dI) xCl (mW dT bd v) H → zR u v → va_S (fun q => s.heap.size ≤ q) s.heap H locs → W p l e room_1 s m #[Value.ref b] below meth c H locs 600000 7302249 Q (F0 m 691 ls [])) : W p l e room_1 s m #[Value.ref b] below meth c H locs 600000 7302249 Q (F0 m 503 ls []) := by
  obtain ⟨hx, hb, hml, hown, hT, hK, hN, hD, hDm, hAx, hAm, hapm, hapc, hX, hbl, hL⟩ := F
  have hbA : ¬ (fun q => s.heap.size ≤ q) b := fun q => Nat.not_lt.mpr q hbl
  obtain ⟨w, h1, h2⟩ := r_head hR (xs (zi i + (1 : Int32)).toNatClampNeg) (xs (zi i + (2 : Int32)).toNatClampNeg)
  refine lv_aload_n hx hb d_Law_law_503 rfl (lv_at hl 2 rfl) ?_
  refine lv_aload_n hx hb d_Law_law_504 rfl (lv_at hl 3 rfl) ?_
  refine lv_iload_n hx hb d_Law_law_505 rfl (lv_at hl 0 rfl) ?_
  refine lv_iconst (v := (1 : Int32)) hx hb d_Law_law_506 (by decide) ?_
  refine lv_iadd hx hb d_Law_law_507 ?_
  refine va_sld hx hb hX hbl hbA hS (xin1 hL hi) d_Law_law_508 ?_
  refine lv_aload_n hx hb d_Law_law_509 rfl (lv_at hl 3 rfl) ?_
  refine lv_iload_n hx hb d_Law_law_510 rfl (lv_at hl 0 rfl) ?_
  refine lv_iconst (v := (2 : Int32)) hx hb d_Law_law_511 (by decide) ?_
  refine lv_iadd hx hb d_Law_law_512 ?_
  refine va_sld hx hb hX hbl hbA hS (xin2 hL hi) d_Law_law_513 ?_
  refine xl_i (va_runV (C := "EventGraphText") (As := [.int (xs (zi i + (1 : Int32)).toNatClampNeg), .int (xs (zi i + (2 : Int32)).toNatClampNeg)]) (rest := []) ⟨hx, hb, hml, hown, hT⟩ (c_Text_head l dC dI dT ad (xs (zi i + (1 : Int32)).toNatClampNeg) (xs (zi i + (2 : Int32)).toNatClampNeg) u w h1) (cwV 2 hT (xglV wd_513 wd_514 wd_515 wd_1 wd_516) rfl rfl rfl pd_Text_head ⟨Nat.le_of_ble_eq_true rfl, Nat.le_of_ble_eq_true rfl⟩) (xpreV (C := "EventGraphText") (T := T_Text) (N := 5) hPx hK hN rfl cW_E) rfl rfl hl.1 rfl (lv_room (Nat.le_of_ble_eq_true rfl)) d_Law_law_514 ⟨Nat.le_of_ble_eq_true rfl, Nat.le_of_ble_eq_true rfl⟩) hPx hPm hS (fun H locs hPx hPm hS => ?_)
  refine lv_aload_n hx hb d_Law_law_517 rfl (lv_at hl 1 rfl) ?_
  refine lv_aload_n hx hb d_Law_law_518 rfl (lv_at hl 3 rfl) ?_
  refine lv_iload_n hx hb d_Law_law_519 rfl (lv_at hl 0 rfl) ?_
  refine lv_iconst (v := (1 : Int32)) hx hb d_Law_law_520 (by decide) ?_
  refine lv_iadd hx hb d_Law_law_521 ?_
  refine va_sld hx hb hX hbl hbA hS (xin1 hL hi) d_Law_law_522 ?_
  refine lv_aload_n hx hb d_Law_law_523 rfl (lv_at hl 3 rfl) ?_
  refine lv_iload_n hx hb d_Law_law_524 rfl (lv_at hl 0 rfl) ?_
  refine lv_iconst (v := (2 : Int32)) hx hb d_Law_law_525 (by decide) ?_
  refine lv_iadd hx hb d_Law_law_526 ?_
  refine va_sld hx hb hX hbl hbA hS (xin2 hL hi) d_Law_law_527 ?_
  refine xl_i (va_runV (C := "EventGraphTextModel") (As := [.int (xs (zi i + (1 : Int32)).toNatClampNeg), .int (xs (zi i + (2 : Int32)).toNatClampNeg)]) (rest := [.int w]) ⟨hx, hb, hml, hown, hT⟩ (c_Model_head l dC dI dT bd (xs (zi i + (1 : Int32)).toNatClampNeg) (xs (zi i + (2 : Int32)).toNatClampNeg) v w h2) (cwV 2 hT (xglV wd_799 wd_800 wd_801 wd_9 wd_802) rfl rfl rfl pd_Model_head ⟨Nat.le_of_ble_eq_true rfl, Nat.le_of_ble_eq_true rfl⟩) (xpreV (C := "EventGraphTextModel") (T := T_Model) (N := 26) hPm hK hN rfl mW_X) rfl rfl hl.1 rfl (lv_room (Nat.le_of_ble_eq_true rfl)) d_Law_law_528 ⟨Nat.le_of_ble_eq_true rfl, Nat.le_of_ble_eq_true rfl⟩) hPx hPm hS (fun H locs hPx hPm hS => ?_)
  refine lv_icmp_eq (tgt := 691) hx hb d_Law_law_531 rfl (fun h => ?_) (fun h => absurd rfl h)
  exact K u v H locs hPx hPm hR hS
set_option maxHeartbeats 4000000 in
set_option maxRecDepth 100000 in
theorem law_k14 {p : Program} {l : Launch} {e : Env} {s : State} {m : MethodId} {below : List Frame} {meth : Method} {c : Code} {Q : State → Prop} {b L : Nat} {xs : Nat → Int32} {dC : Nat → ClassId} {dI : Nat → Nat → Nat} {dT : Nat → ClassId} {ad bd : Nat → Nat} (F : lwF p s m c b L xs dC dI dT ad bd) {i : Nat} (hi : i + 5 ≤ L) {u v : xS} {H : Heap} {locs : List Loc} {ls : Array Slot} (hl : lv_has ls 4 [(3, .int (zi i)), (2, .ref (bd 0)), (1, .ref (ad 0)), (0, .ref b)]) (hPx : va_P (dC, dI) xCl (cW dT ad u) H) (hPm : va_P (dC, dI) xCl (mW dT bd v) H) (hR : zR u v) (hS : va_S (fun q => s.heap.size ≤ q) s.heap H locs)
    (K : ∀ (u v : xS) (H : Heap) (locs : List Loc), va_P (dC, dI) xCl (cW dT ad u) H → va_P (dC, dI) xCl (mW dT bd v) H → zR u v → va_S (fun q => s.heap.size ≤ q) s.heap H locs → W p l e room_1 s m #[Value.ref b] below meth c H locs 600000 7302249 Q (F0 m 691 ls [])) : W p l e room_1 s m #[Value.ref b] below meth c H locs 600000 7302249 Q (F0 m 536 ls []) := by
  obtain ⟨hx, hb, hml, hown, hT, hK, hN, hD, hDm, hAx, hAm, hapm, hapc, hX, hbl, hL⟩ := F
  have hbA : ¬ (fun q => s.heap.size ≤ q) b := fun q => Nat.not_lt.mpr q hbl
  obtain ⟨w, h1, h2⟩ := r_ancestor hR (xs (zi i + (1 : Int32)).toNatClampNeg) (xs (zi i + (2 : Int32)).toNatClampNeg) (xs (zi i + (3 : Int32)).toNatClampNeg) (xs (zi i + (4 : Int32)).toNatClampNeg)
  refine lv_aload_n hx hb d_Law_law_536 rfl (lv_at hl 2 rfl) ?_
  refine lv_aload_n hx hb d_Law_law_537 rfl (lv_at hl 3 rfl) ?_
  refine lv_iload_n hx hb d_Law_law_538 rfl (lv_at hl 0 rfl) ?_
  refine lv_iconst (v := (1 : Int32)) hx hb d_Law_law_539 (by decide) ?_
  refine lv_iadd hx hb d_Law_law_540 ?_
  refine va_sld hx hb hX hbl hbA hS (xin1 hL hi) d_Law_law_541 ?_
  refine lv_aload_n hx hb d_Law_law_542 rfl (lv_at hl 3 rfl) ?_
  refine lv_iload_n hx hb d_Law_law_543 rfl (lv_at hl 0 rfl) ?_
  refine lv_iconst (v := (2 : Int32)) hx hb d_Law_law_544 (by decide) ?_
  refine lv_iadd hx hb d_Law_law_545 ?_
  refine va_sld hx hb hX hbl hbA hS (xin2 hL hi) d_Law_law_546 ?_
  refine lv_aload_n hx hb d_Law_law_547 rfl (lv_at hl 3 rfl) ?_
  refine lv_iload_n hx hb d_Law_law_548 rfl (lv_at hl 0 rfl) ?_
  refine lv_iconst (v := (3 : Int32)) hx hb d_Law_law_549 (by decide) ?_
  refine lv_iadd hx hb d_Law_law_550 ?_
  refine va_sld hx hb hX hbl hbA hS (xin3 hL hi) d_Law_law_551 ?_
  refine lv_aload_n hx hb d_Law_law_552 rfl (lv_at hl 3 rfl) ?_
  refine lv_iload_n hx hb d_Law_law_553 rfl (lv_at hl 0 rfl) ?_
  refine lv_iconst (v := (4 : Int32)) hx hb d_Law_law_554 (by decide) ?_
  refine lv_iadd hx hb d_Law_law_555 ?_
  refine va_sld hx hb hX hbl hbA hS (xin4 hL hi) d_Law_law_556 ?_
  refine xl_i (va_runV (C := "EventGraphText") (As := [.int (xs (zi i + (1 : Int32)).toNatClampNeg), .int (xs (zi i + (2 : Int32)).toNatClampNeg), .int (xs (zi i + (3 : Int32)).toNatClampNeg), .int (xs (zi i + (4 : Int32)).toNatClampNeg)]) (rest := []) ⟨hx, hb, hml, hown, hT⟩ (c_Text_ancestor l dC dI dT ad (xs (zi i + (1 : Int32)).toNatClampNeg) (xs (zi i + (2 : Int32)).toNatClampNeg) (xs (zi i + (3 : Int32)).toNatClampNeg) (xs (zi i + (4 : Int32)).toNatClampNeg) u w h1) (cwV 4 hT (xglV wd_519 wd_520 wd_521 wd_1 wd_522) rfl rfl rfl pd_Text_ancestor ⟨Nat.le_of_ble_eq_true rfl, Nat.le_of_ble_eq_true rfl⟩) (xpreV (C := "EventGraphText") (T := T_Text) (N := 5) hPx hK hN rfl cW_E) rfl rfl hl.1 rfl (lv_room (Nat.le_of_ble_eq_true rfl)) d_Law_law_557 ⟨Nat.le_of_ble_eq_true rfl, Nat.le_of_ble_eq_true rfl⟩) hPx hPm hS (fun H locs hPx hPm hS => ?_)
  refine lv_aload_n hx hb d_Law_law_560 rfl (lv_at hl 1 rfl) ?_
  refine lv_aload_n hx hb d_Law_law_561 rfl (lv_at hl 3 rfl) ?_
  refine lv_iload_n hx hb d_Law_law_562 rfl (lv_at hl 0 rfl) ?_
  refine lv_iconst (v := (1 : Int32)) hx hb d_Law_law_563 (by decide) ?_
  refine lv_iadd hx hb d_Law_law_564 ?_
  refine va_sld hx hb hX hbl hbA hS (xin1 hL hi) d_Law_law_565 ?_
  refine lv_aload_n hx hb d_Law_law_566 rfl (lv_at hl 3 rfl) ?_
  refine lv_iload_n hx hb d_Law_law_567 rfl (lv_at hl 0 rfl) ?_
  refine lv_iconst (v := (2 : Int32)) hx hb d_Law_law_568 (by decide) ?_
  refine lv_iadd hx hb d_Law_law_569 ?_
  refine va_sld hx hb hX hbl hbA hS (xin2 hL hi) d_Law_law_570 ?_
  refine lv_aload_n hx hb d_Law_law_571 rfl (lv_at hl 3 rfl) ?_
  refine lv_iload_n hx hb d_Law_law_572 rfl (lv_at hl 0 rfl) ?_
  refine lv_iconst (v := (3 : Int32)) hx hb d_Law_law_573 (by decide) ?_
  refine lv_iadd hx hb d_Law_law_574 ?_
  refine va_sld hx hb hX hbl hbA hS (xin3 hL hi) d_Law_law_575 ?_
  refine lv_aload_n hx hb d_Law_law_576 rfl (lv_at hl 3 rfl) ?_
  refine lv_iload_n hx hb d_Law_law_577 rfl (lv_at hl 0 rfl) ?_
  refine lv_iconst (v := (4 : Int32)) hx hb d_Law_law_578 (by decide) ?_
  refine lv_iadd hx hb d_Law_law_579 ?_
  refine va_sld hx hb hX hbl hbA hS (xin4 hL hi) d_Law_law_580 ?_
  refine xl_i (va_runV (C := "EventGraphTextModel") (As := [.int (xs (zi i + (1 : Int32)).toNatClampNeg), .int (xs (zi i + (2 : Int32)).toNatClampNeg), .int (xs (zi i + (3 : Int32)).toNatClampNeg), .int (xs (zi i + (4 : Int32)).toNatClampNeg)]) (rest := [.int w]) ⟨hx, hb, hml, hown, hT⟩ (c_Model_ancestor l dC dI dT bd (xs (zi i + (1 : Int32)).toNatClampNeg) (xs (zi i + (2 : Int32)).toNatClampNeg) (xs (zi i + (3 : Int32)).toNatClampNeg) (xs (zi i + (4 : Int32)).toNatClampNeg) v w h2) (cwV 4 hT (xglV wd_803 wd_804 wd_805 wd_9 wd_806) rfl rfl rfl pd_Model_ancestor ⟨Nat.le_of_ble_eq_true rfl, Nat.le_of_ble_eq_true rfl⟩) (xpreV (C := "EventGraphTextModel") (T := T_Model) (N := 26) hPm hK hN rfl mW_X) rfl rfl hl.1 rfl (lv_room (Nat.le_of_ble_eq_true rfl)) d_Law_law_581 ⟨Nat.le_of_ble_eq_true rfl, Nat.le_of_ble_eq_true rfl⟩) hPx hPm hS (fun H locs hPx hPm hS => ?_)
  refine lv_icmp_eq (tgt := 691) hx hb d_Law_law_584 rfl (fun h => ?_) (fun h => absurd rfl h)
  exact K u v H locs hPx hPm hR hS
set_option maxHeartbeats 4000000 in
set_option maxRecDepth 100000 in
theorem law_k15 {p : Program} {l : Launch} {e : Env} {s : State} {m : MethodId} {below : List Frame} {meth : Method} {c : Code} {Q : State → Prop} {b L : Nat} {xs : Nat → Int32} {dC : Nat → ClassId} {dI : Nat → Nat → Nat} {dT : Nat → ClassId} {ad bd : Nat → Nat} (F : lwF p s m c b L xs dC dI dT ad bd) {i : Nat} (hi : i + 5 ≤ L) {u v : xS} {H : Heap} {locs : List Loc} {ls : Array Slot} (hl : lv_has ls 4 [(3, .int (zi i)), (2, .ref (bd 0)), (1, .ref (ad 0)), (0, .ref b)]) (hPx : va_P (dC, dI) xCl (cW dT ad u) H) (hPm : va_P (dC, dI) xCl (mW dT bd v) H) (hR : zR u v) (hS : va_S (fun q => s.heap.size ≤ q) s.heap H locs)
    (K : ∀ (u v : xS) (H : Heap) (locs : List Loc), va_P (dC, dI) xCl (cW dT ad u) H → va_P (dC, dI) xCl (mW dT bd v) H → zR u v → va_S (fun q => s.heap.size ≤ q) s.heap H locs → W p l e room_1 s m #[Value.ref b] below meth c H locs 600000 7302249 Q (F0 m 691 ls [])) : W p l e room_1 s m #[Value.ref b] below meth c H locs 600000 7302249 Q (F0 m 589 ls []) := by
  obtain ⟨hx, hb, hml, hown, hT, hK, hN, hD, hDm, hAx, hAm, hapm, hapc, hX, hbl, hL⟩ := F
  have hbA : ¬ (fun q => s.heap.size ≤ q) b := fun q => Nat.not_lt.mpr q hbl
  obtain ⟨w, h1, h2⟩ := r_critical hR (xs (zi i + (1 : Int32)).toNatClampNeg)
  refine lv_aload_n hx hb d_Law_law_589 rfl (lv_at hl 2 rfl) ?_
  refine lv_aload_n hx hb d_Law_law_590 rfl (lv_at hl 3 rfl) ?_
  refine lv_iload_n hx hb d_Law_law_591 rfl (lv_at hl 0 rfl) ?_
  refine lv_iconst (v := (1 : Int32)) hx hb d_Law_law_592 (by decide) ?_
  refine lv_iadd hx hb d_Law_law_593 ?_
  refine va_sld hx hb hX hbl hbA hS (xin1 hL hi) d_Law_law_594 ?_
  refine xl_i (va_runV (C := "EventGraphText") (As := [.int (xs (zi i + (1 : Int32)).toNatClampNeg)]) (rest := []) ⟨hx, hb, hml, hown, hT⟩ (c_Text_critical l dC dI dT ad (xs (zi i + (1 : Int32)).toNatClampNeg) u w h1) (cwV 1 hT (xglV wd_534 wd_535 wd_536 wd_1 wd_537) rfl rfl rfl pd_Text_critical ⟨Nat.le_of_ble_eq_true rfl, Nat.le_of_ble_eq_true rfl⟩) (xpreV (C := "EventGraphText") (T := T_Text) (N := 5) hPx hK hN rfl cW_E) rfl rfl hl.1 rfl (lv_room (Nat.le_of_ble_eq_true rfl)) d_Law_law_595 ⟨Nat.le_of_ble_eq_true rfl, Nat.le_of_ble_eq_true rfl⟩) hPx hPm hS (fun H locs hPx hPm hS => ?_)
  refine lv_aload_n hx hb d_Law_law_598 rfl (lv_at hl 1 rfl) ?_
  refine lv_aload_n hx hb d_Law_law_599 rfl (lv_at hl 3 rfl) ?_
  refine lv_iload_n hx hb d_Law_law_600 rfl (lv_at hl 0 rfl) ?_
  refine lv_iconst (v := (1 : Int32)) hx hb d_Law_law_601 (by decide) ?_
  refine lv_iadd hx hb d_Law_law_602 ?_
  refine va_sld hx hb hX hbl hbA hS (xin1 hL hi) d_Law_law_603 ?_
  refine xl_i (va_runV (C := "EventGraphTextModel") (As := [.int (xs (zi i + (1 : Int32)).toNatClampNeg)]) (rest := [.int w]) ⟨hx, hb, hml, hown, hT⟩ (c_Model_critical l dC dI dT bd (xs (zi i + (1 : Int32)).toNatClampNeg) v w h2) (cwV 1 hT (xglV wd_811 wd_812 wd_813 wd_9 wd_814) rfl rfl rfl pd_Model_critical ⟨Nat.le_of_ble_eq_true rfl, Nat.le_of_ble_eq_true rfl⟩) (xpreV (C := "EventGraphTextModel") (T := T_Model) (N := 26) hPm hK hN rfl mW_X) rfl rfl hl.1 rfl (lv_room (Nat.le_of_ble_eq_true rfl)) d_Law_law_604 ⟨Nat.le_of_ble_eq_true rfl, Nat.le_of_ble_eq_true rfl⟩) hPx hPm hS (fun H locs hPx hPm hS => ?_)
  refine lv_icmp_eq (tgt := 691) hx hb d_Law_law_607 rfl (fun h => ?_) (fun h => absurd rfl h)
  exact K u v H locs hPx hPm hR hS
set_option maxHeartbeats 4000000 in
set_option maxRecDepth 100000 in
theorem law_k16 {p : Program} {l : Launch} {e : Env} {s : State} {m : MethodId} {below : List Frame} {meth : Method} {c : Code} {Q : State → Prop} {b L : Nat} {xs : Nat → Int32} {dC : Nat → ClassId} {dI : Nat → Nat → Nat} {dT : Nat → ClassId} {ad bd : Nat → Nat} (F : lwF p s m c b L xs dC dI dT ad bd) {i : Nat} (hi : i + 5 ≤ L) {u v : xS} {H : Heap} {locs : List Loc} {ls : Array Slot} (hl : lv_has ls 4 [(3, .int (zi i)), (2, .ref (bd 0)), (1, .ref (ad 0)), (0, .ref b)]) (hPx : va_P (dC, dI) xCl (cW dT ad u) H) (hPm : va_P (dC, dI) xCl (mW dT bd v) H) (hR : zR u v) (hS : va_S (fun q => s.heap.size ≤ q) s.heap H locs)
    (K : ∀ (u v : xS) (H : Heap) (locs : List Loc), va_P (dC, dI) xCl (cW dT ad u) H → va_P (dC, dI) xCl (mW dT bd v) H → zR u v → va_S (fun q => s.heap.size ≤ q) s.heap H locs → W p l e room_1 s m #[Value.ref b] below meth c H locs 600000 7302249 Q (F0 m 691 ls [])) : W p l e room_1 s m #[Value.ref b] below meth c H locs 600000 7302249 Q (F0 m 612 ls []) := by
  obtain ⟨hx, hb, hml, hown, hT, hK, hN, hD, hDm, hAx, hAm, hapm, hapc, hX, hbl, hL⟩ := F
  have hbA : ¬ (fun q => s.heap.size ≤ q) b := fun q => Nat.not_lt.mpr q hbl
  obtain ⟨w, h1, h2⟩ := r_replayed hR (xs (zi i + (1 : Int32)).toNatClampNeg)
  refine lv_aload_n hx hb d_Law_law_612 rfl (lv_at hl 2 rfl) ?_
  refine lv_aload_n hx hb d_Law_law_613 rfl (lv_at hl 3 rfl) ?_
  refine lv_iload_n hx hb d_Law_law_614 rfl (lv_at hl 0 rfl) ?_
  refine lv_iconst (v := (1 : Int32)) hx hb d_Law_law_615 (by decide) ?_
  refine lv_iadd hx hb d_Law_law_616 ?_
  refine va_sld hx hb hX hbl hbA hS (xin1 hL hi) d_Law_law_617 ?_
  refine xl_i (va_runV (C := "EventGraphText") (As := [.int (xs (zi i + (1 : Int32)).toNatClampNeg)]) (rest := []) ⟨hx, hb, hml, hown, hT⟩ (c_Text_replayed l dC dI dT ad (xs (zi i + (1 : Int32)).toNatClampNeg) u w h1) (cwV 1 hT (xglV wd_540 wd_541 wd_542 wd_1 wd_543) rfl rfl rfl pd_Text_replayed ⟨Nat.le_of_ble_eq_true rfl, Nat.le_of_ble_eq_true rfl⟩) (xpreV (C := "EventGraphText") (T := T_Text) (N := 5) hPx hK hN rfl cW_E) rfl rfl hl.1 rfl (lv_room (Nat.le_of_ble_eq_true rfl)) d_Law_law_618 ⟨Nat.le_of_ble_eq_true rfl, Nat.le_of_ble_eq_true rfl⟩) hPx hPm hS (fun H locs hPx hPm hS => ?_)
  refine lv_aload_n hx hb d_Law_law_621 rfl (lv_at hl 1 rfl) ?_
  refine lv_aload_n hx hb d_Law_law_622 rfl (lv_at hl 3 rfl) ?_
  refine lv_iload_n hx hb d_Law_law_623 rfl (lv_at hl 0 rfl) ?_
  refine lv_iconst (v := (1 : Int32)) hx hb d_Law_law_624 (by decide) ?_
  refine lv_iadd hx hb d_Law_law_625 ?_
  refine va_sld hx hb hX hbl hbA hS (xin1 hL hi) d_Law_law_626 ?_
  refine xl_i (va_runV (C := "EventGraphTextModel") (As := [.int (xs (zi i + (1 : Int32)).toNatClampNeg)]) (rest := [.int w]) ⟨hx, hb, hml, hown, hT⟩ (c_Model_replayed l dC dI dT bd (xs (zi i + (1 : Int32)).toNatClampNeg) v w h2) (cwV 1 hT (xglV wd_815 wd_816 wd_817 wd_9 wd_818) rfl rfl rfl pd_Model_replayed ⟨Nat.le_of_ble_eq_true rfl, Nat.le_of_ble_eq_true rfl⟩) (xpreV (C := "EventGraphTextModel") (T := T_Model) (N := 26) hPm hK hN rfl mW_X) rfl rfl hl.1 rfl (lv_room (Nat.le_of_ble_eq_true rfl)) d_Law_law_627 ⟨Nat.le_of_ble_eq_true rfl, Nat.le_of_ble_eq_true rfl⟩) hPx hPm hS (fun H locs hPx hPm hS => ?_)
  refine lv_icmp_eq (tgt := 691) hx hb d_Law_law_630 rfl (fun h => ?_) (fun h => absurd rfl h)
  exact K u v H locs hPx hPm hR hS
set_option maxHeartbeats 4000000 in
set_option maxRecDepth 100000 in
theorem law_k17 {p : Program} {l : Launch} {e : Env} {s : State} {m : MethodId} {below : List Frame} {meth : Method} {c : Code} {Q : State → Prop} {b L : Nat} {xs : Nat → Int32} {dC : Nat → ClassId} {dI : Nat → Nat → Nat} {dT : Nat → ClassId} {ad bd : Nat → Nat} (F : lwF p s m c b L xs dC dI dT ad bd) {i : Nat} (hi : i + 5 ≤ L) {u v : xS} {H : Heap} {locs : List Loc} {ls : Array Slot} (hl : lv_has ls 4 [(3, .int (zi i)), (2, .ref (bd 0)), (1, .ref (ad 0)), (0, .ref b)]) (hPx : va_P (dC, dI) xCl (cW dT ad u) H) (hPm : va_P (dC, dI) xCl (mW dT bd v) H) (hR : zR u v) (hS : va_S (fun q => s.heap.size ≤ q) s.heap H locs)
    (K : ∀ (u v : xS) (H : Heap) (locs : List Loc), va_P (dC, dI) xCl (cW dT ad u) H → va_P (dC, dI) xCl (mW dT bd v) H → zR u v → va_S (fun q => s.heap.size ≤ q) s.heap H locs → W p l e room_1 s m #[Value.ref b] below meth c H locs 600000 7302249 Q (F0 m 691 ls [])) : W p l e room_1 s m #[Value.ref b] below meth c H locs 600000 7302249 Q (F0 m 635 ls []) := by
  obtain ⟨hx, hb, hml, hown, hT, hK, hN, hD, hDm, hAx, hAm, hapm, hapc, hX, hbl, hL⟩ := F
  have hbA : ¬ (fun q => s.heap.size ≤ q) b := fun q => Nat.not_lt.mpr q hbl
  obtain ⟨w, h1, h2⟩ := r_moves hR (xs (zi i + (1 : Int32)).toNatClampNeg)
  refine lv_aload_n hx hb d_Law_law_635 rfl (lv_at hl 2 rfl) ?_
  refine lv_aload_n hx hb d_Law_law_636 rfl (lv_at hl 3 rfl) ?_
  refine lv_iload_n hx hb d_Law_law_637 rfl (lv_at hl 0 rfl) ?_
  refine lv_iconst (v := (1 : Int32)) hx hb d_Law_law_638 (by decide) ?_
  refine lv_iadd hx hb d_Law_law_639 ?_
  refine va_sld hx hb hX hbl hbA hS (xin1 hL hi) d_Law_law_640 ?_
  refine xl_i (va_runV (C := "EventGraphText") (As := [.int (xs (zi i + (1 : Int32)).toNatClampNeg)]) (rest := []) ⟨hx, hb, hml, hown, hT⟩ (c_Text_moves l dC dI dT ad (xs (zi i + (1 : Int32)).toNatClampNeg) u w h1) (cwV 1 hT (xglV wd_544 wd_545 wd_546 wd_1 wd_547) rfl rfl rfl pd_Text_moves ⟨Nat.le_of_ble_eq_true rfl, Nat.le_of_ble_eq_true rfl⟩) (xpreV (C := "EventGraphText") (T := T_Text) (N := 5) hPx hK hN rfl cW_E) rfl rfl hl.1 rfl (lv_room (Nat.le_of_ble_eq_true rfl)) d_Law_law_641 ⟨Nat.le_of_ble_eq_true rfl, Nat.le_of_ble_eq_true rfl⟩) hPx hPm hS (fun H locs hPx hPm hS => ?_)
  refine lv_aload_n hx hb d_Law_law_644 rfl (lv_at hl 1 rfl) ?_
  refine lv_aload_n hx hb d_Law_law_645 rfl (lv_at hl 3 rfl) ?_
  refine lv_iload_n hx hb d_Law_law_646 rfl (lv_at hl 0 rfl) ?_
  refine lv_iconst (v := (1 : Int32)) hx hb d_Law_law_647 (by decide) ?_
  refine lv_iadd hx hb d_Law_law_648 ?_
  refine va_sld hx hb hX hbl hbA hS (xin1 hL hi) d_Law_law_649 ?_
  refine xl_i (va_runV (C := "EventGraphTextModel") (As := [.int (xs (zi i + (1 : Int32)).toNatClampNeg)]) (rest := [.int w]) ⟨hx, hb, hml, hown, hT⟩ (c_Model_moves l dC dI dT bd (xs (zi i + (1 : Int32)).toNatClampNeg) v w h2) (cwV 1 hT (xglV wd_819 wd_820 wd_821 wd_9 wd_822) rfl rfl rfl pd_Model_moves ⟨Nat.le_of_ble_eq_true rfl, Nat.le_of_ble_eq_true rfl⟩) (xpreV (C := "EventGraphTextModel") (T := T_Model) (N := 26) hPm hK hN rfl mW_X) rfl rfl hl.1 rfl (lv_room (Nat.le_of_ble_eq_true rfl)) d_Law_law_650 ⟨Nat.le_of_ble_eq_true rfl, Nat.le_of_ble_eq_true rfl⟩) hPx hPm hS (fun H locs hPx hPm hS => ?_)
  refine lv_icmp_eq (tgt := 691) hx hb d_Law_law_653 rfl (fun h => ?_) (fun h => absurd rfl h)
  exact K u v H locs hPx hPm hR hS
set_option maxHeartbeats 4000000 in
set_option maxRecDepth 100000 in
theorem law_k18 {p : Program} {l : Launch} {e : Env} {s : State} {m : MethodId} {below : List Frame} {meth : Method} {c : Code} {Q : State → Prop} {b L : Nat} {xs : Nat → Int32} {dC : Nat → ClassId} {dI : Nat → Nat → Nat} {dT : Nat → ClassId} {ad bd : Nat → Nat} (F : lwF p s m c b L xs dC dI dT ad bd) {i : Nat} (hi : i + 5 ≤ L) {u v : xS} {H : Heap} {locs : List Loc} {ls : Array Slot} (hl : lv_has ls 4 [(3, .int (zi i)), (2, .ref (bd 0)), (1, .ref (ad 0)), (0, .ref b)]) (hPx : va_P (dC, dI) xCl (cW dT ad u) H) (hPm : va_P (dC, dI) xCl (mW dT bd v) H) (hR : zR u v) (hS : va_S (fun q => s.heap.size ≤ q) s.heap H locs)
    (K : ∀ (u v : xS) (H : Heap) (locs : List Loc), va_P (dC, dI) xCl (cW dT ad u) H → va_P (dC, dI) xCl (mW dT bd v) H → zR u v → va_S (fun q => s.heap.size ≤ q) s.heap H locs → W p l e room_1 s m #[Value.ref b] below meth c H locs 600000 7302249 Q (F0 m 691 ls [])) : W p l e room_1 s m #[Value.ref b] below meth c H locs 600000 7302249 Q (F0 m 658 ls []) := by
  obtain ⟨hx, hb, hml, hown, hT, hK, hN, hD, hDm, hAx, hAm, hapm, hapc, hX, hbl, hL⟩ := F
  have hbA : ¬ (fun q => s.heap.size ≤ q) b := fun q => Nat.not_lt.mpr q hbl
  obtain ⟨w, h1, h2⟩ := r_operation hR (xs (zi i + (1 : Int32)).toNatClampNeg) (xs (zi i + (2 : Int32)).toNatClampNeg)
  refine lv_aload_n hx hb d_Law_law_658 rfl (lv_at hl 2 rfl) ?_
  refine lv_aload_n hx hb d_Law_law_659 rfl (lv_at hl 3 rfl) ?_
  refine lv_iload_n hx hb d_Law_law_660 rfl (lv_at hl 0 rfl) ?_
  refine lv_iconst (v := (1 : Int32)) hx hb d_Law_law_661 (by decide) ?_
  refine lv_iadd hx hb d_Law_law_662 ?_
  refine va_sld hx hb hX hbl hbA hS (xin1 hL hi) d_Law_law_663 ?_
  refine lv_aload_n hx hb d_Law_law_664 rfl (lv_at hl 3 rfl) ?_
  refine lv_iload_n hx hb d_Law_law_665 rfl (lv_at hl 0 rfl) ?_
  refine lv_iconst (v := (2 : Int32)) hx hb d_Law_law_666 (by decide) ?_
  refine lv_iadd hx hb d_Law_law_667 ?_
  refine va_sld hx hb hX hbl hbA hS (xin2 hL hi) d_Law_law_668 ?_
  refine xl_i (va_runV (C := "EventGraphText") (As := [.int (xs (zi i + (1 : Int32)).toNatClampNeg), .int (xs (zi i + (2 : Int32)).toNatClampNeg)]) (rest := []) ⟨hx, hb, hml, hown, hT⟩ (c_Text_operation l dC dI dT ad (xs (zi i + (1 : Int32)).toNatClampNeg) (xs (zi i + (2 : Int32)).toNatClampNeg) u w h1) (cwV 2 hT (xglV wd_548 wd_549 wd_550 wd_1 wd_551) rfl rfl rfl pd_Text_operation ⟨Nat.le_of_ble_eq_true rfl, Nat.le_of_ble_eq_true rfl⟩) (xpreV (C := "EventGraphText") (T := T_Text) (N := 5) hPx hK hN rfl cW_E) rfl rfl hl.1 rfl (lv_room (Nat.le_of_ble_eq_true rfl)) d_Law_law_669 ⟨Nat.le_of_ble_eq_true rfl, Nat.le_of_ble_eq_true rfl⟩) hPx hPm hS (fun H locs hPx hPm hS => ?_)
  refine lv_aload_n hx hb d_Law_law_672 rfl (lv_at hl 1 rfl) ?_
  refine lv_aload_n hx hb d_Law_law_673 rfl (lv_at hl 3 rfl) ?_
  refine lv_iload_n hx hb d_Law_law_674 rfl (lv_at hl 0 rfl) ?_
  refine lv_iconst (v := (1 : Int32)) hx hb d_Law_law_675 (by decide) ?_
  refine lv_iadd hx hb d_Law_law_676 ?_
  refine va_sld hx hb hX hbl hbA hS (xin1 hL hi) d_Law_law_677 ?_
  refine lv_aload_n hx hb d_Law_law_678 rfl (lv_at hl 3 rfl) ?_
  refine lv_iload_n hx hb d_Law_law_679 rfl (lv_at hl 0 rfl) ?_
  refine lv_iconst (v := (2 : Int32)) hx hb d_Law_law_680 (by decide) ?_
  refine lv_iadd hx hb d_Law_law_681 ?_
  refine va_sld hx hb hX hbl hbA hS (xin2 hL hi) d_Law_law_682 ?_
  refine xl_i (va_runV (C := "EventGraphTextModel") (As := [.int (xs (zi i + (1 : Int32)).toNatClampNeg), .int (xs (zi i + (2 : Int32)).toNatClampNeg)]) (rest := [.int w]) ⟨hx, hb, hml, hown, hT⟩ (c_Model_operation l dC dI dT bd (xs (zi i + (1 : Int32)).toNatClampNeg) (xs (zi i + (2 : Int32)).toNatClampNeg) v w h2) (cwV 2 hT (xglV wd_823 wd_824 wd_825 wd_9 wd_826) rfl rfl rfl pd_Model_operation ⟨Nat.le_of_ble_eq_true rfl, Nat.le_of_ble_eq_true rfl⟩) (xpreV (C := "EventGraphTextModel") (T := T_Model) (N := 26) hPm hK hN rfl mW_X) rfl rfl hl.1 rfl (lv_room (Nat.le_of_ble_eq_true rfl)) d_Law_law_683 ⟨Nat.le_of_ble_eq_true rfl, Nat.le_of_ble_eq_true rfl⟩) hPx hPm hS (fun H locs hPx hPm hS => ?_)
  refine lv_icmp_eq (tgt := 691) hx hb d_Law_law_686 rfl (fun h => ?_) (fun h => absurd rfl h)
  exact K u v H locs hPx hPm hR hS
