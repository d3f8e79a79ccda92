set_option maxHeartbeats 4000000 in
set_option maxRecDepth 100000 in
theorem law_loop {p : Program} {l : Launch} {e : Env} {s : State} {m : MethodId} {below : List Frame} {meth : Method} {c : Code} {Q : State → Prop} {b L : Nat} {xs : Nat → Int32} {dC : Nat → ClassId} {dI : Nat → Nat → Nat} {dT : Nat → ClassId} {ad bd : Nat → Nat} (F : lwF p s m c b L xs dC dI dT ad bd) (E : ∀ (H : Heap) (locs : List Loc) (ls : Array Slot), va_S (fun q => s.heap.size ≤ q) s.heap H locs → W p l e room_1 s m #[Value.ref b] below meth c H locs 600000 7302249 Q (F0 m 697 ls [])) : ∀ (n i : Nat) (u v : xS) (H : Heap) (locs : List Loc) (ls : Array Slot), L ≤ i + n → i ≤ 2560 → lv_has ls 4 [(3, .int (zi i)), (2, .ref (bd 0)), (1, .ref (ad 0)), (0, .ref b)] → va_P (dC, dI) xCl (cW dT ad u) H → va_P (dC, dI) xCl (mW dT bd v) H → zR u v → va_S (fun q => s.heap.size ≤ q) s.heap H locs → W p l e room_1 s m #[Value.ref b] below meth c H locs 600000 7302249 Q (F0 m 18 ls []) := by
  have FF := F
  obtain ⟨hx, hb, hml, hown, hT, hK, hN, hD, hDm, hAx, hAm, hapm, hapc, hX, hbl, hL⟩ := F
  have hbA : ¬ (fun q => s.heap.size ≤ q) b := fun q => Nat.not_lt.mpr q hbl
  intro n
  induction n with
  | zero =>
    intro i u v H locs ls hn hi0 hl hPx hPm hR hS
    refine lv_iload_n hx hb d_Law_law_18 rfl (lv_at hl 0 rfl) ?_
    refine lv_aload_n hx hb d_Law_law_19 rfl (lv_at hl 3 rfl) ?_
    refine va_slen hx hb hX hbl hbA hS d_Law_law_20 ?_
    refine lv_iconst (v := (5 : Int32)) hx hb d_Law_law_21 (by decide) ?_
    refine lv_isub hx hb d_Law_law_22 ?_
    refine lv_icmp_gt (tgt := 697) hx hb d_Law_law_23 rfl (fun h => ?_) (fun h => ?_)
    · exact E H locs ls hS
    · exact absurd ((xlt5 hL (by omega)).mpr (by omega)) h
  | succ n ih =>
    intro i u v H locs ls hn hi0 hl hPx hPm hR hS
    refine lv_iload_n hx hb d_Law_law_18 rfl (lv_at hl 0 rfl) ?_
    refine lv_aload_n hx hb d_Law_law_19 rfl (lv_at hl 3 rfl) ?_
    refine va_slen hx hb hX hbl hbA hS d_Law_law_20 ?_
    refine lv_iconst (v := (5 : Int32)) hx hb d_Law_law_21 (by decide) ?_
    refine lv_isub hx hb d_Law_law_22 ?_
    refine lv_icmp_gt (tgt := 697) hx hb d_Law_law_23 rfl (fun h => ?_) (fun h => ?_)
    · exact E H locs ls hS
    · have hi : i + 5 ≤ L := by
        have := (not_congr (xlt5 hL (show i ≤ 2565 by omega))).mp h
        omega
      have K : ∀ (u v : xS) (H : Heap) (locs : List Loc), va_P (dC, dI) xCl (cW dT ad u) H → va_P (dC, dI) xCl (mW dT bd v) H → zR u v → va_S (fun q => s.heap.size ≤ q) s.heap H locs → W p l e room_1 s m #[Value.ref b] below meth c H locs 600000 7302249 Q (F0 m 691 ls []) := by
        intro u v H locs hPx hPm hR hS
        refine lv_iinc (k := 0) (v := (zi i + (5 : Int32))) (lv' := [(3, .int (zi i + (5 : Int32))), (2, .ref (bd 0)), (1, .ref (ad 0)), (0, .ref b)]) hx hb d_Law_law_691 hl rfl rfl (Nat.le_of_ble_eq_true rfl) rfl (fun ls hl => ?_)
        refine lv_goto (tgt := 18) hx hb d_Law_law_694 rfl ?_
        rw [show zi i + (5 : Int32) = zi (i + 5) from zadd i 5] at hl
        exact ih (i + 5) u v H locs ls (by omega) (by omega) hl hPx hPm hR hS
      refine lv_aload_n hx hb d_Law_law_26 rfl (lv_at hl 3 rfl) ?_
      refine lv_iload_n hx hb d_Law_law_27 rfl (lv_at hl 0 rfl) ?_
      refine va_sld hx hb hX hbl hbA hS (xini hL hi) d_Law_law_28 ?_
      refine lv_bipush (v := (31 : Int32)) hx hb d_Law_law_29 (by decide) ?_
      refine lv_iand hx hb d_Law_law_31 ?_
      refine lv_topi (fun z hz => ?_)
      clear hz
      rcases xsw z with rfl | rfl | rfl | rfl | rfl | rfl | rfl | rfl | rfl | rfl | rfl | rfl | rfl | rfl | rfl | rfl | rfl | rfl | rfl | hz
      · refine lv_tableIn (off := 92) (tgt := 124) hx hb d_Law_law_32 (by decide) (by decide) rfl rfl ?_
        exact law_k0 FF hi hl hPx hPm hR hS K
      · refine lv_tableIn (off := 135) (tgt := 167) hx hb d_Law_law_32 (by decide) (by decide) rfl rfl ?_
        exact law_k1 FF hi hl hPx hPm hR hS K
      · refine lv_tableIn (off := 168) (tgt := 200) hx hb d_Law_law_32 (by decide) (by decide) rfl rfl ?_
        exact law_k2 FF hi hl hPx hPm hR hS K
      · refine lv_tableIn (off := 191) (tgt := 223) hx hb d_Law_law_32 (by decide) (by decide) rfl rfl ?_
        exact law_k3 FF hi hl hPx hPm hR hS K
      · refine lv_tableIn (off := 224) (tgt := 256) hx hb d_Law_law_32 (by decide) (by decide) rfl rfl ?_
        exact law_k4 FF hi hl hPx hPm hR hS K
      · refine lv_tableIn (off := 257) (tgt := 289) hx hb d_Law_law_32 (by decide) (by decide) rfl rfl ?_
        exact law_k5 FF hi hl hPx hPm hR hS K
      · refine lv_tableIn (off := 280) (tgt := 312) hx hb d_Law_law_32 (by decide) (by decide) rfl rfl ?_
        exact law_k6 FF hi hl hPx hPm hR hS K
      · refine lv_tableIn (off := 303) (tgt := 335) hx hb d_Law_law_32 (by decide) (by decide) rfl rfl ?_
        exact law_k7 FF hi hl hPx hPm hR hS K
      · refine lv_tableIn (off := 336) (tgt := 368) hx hb d_Law_law_32 (by decide) (by decide) rfl rfl ?_
        exact law_k8 FF hi hl hPx hPm hR hS K
      · refine lv_tableIn (off := 369) (tgt := 401) hx hb d_Law_law_32 (by decide) (by decide) rfl rfl ?_
        exact law_k9 FF hi hl hPx hPm hR hS K
      · refine lv_tableIn (off := 392) (tgt := 424) hx hb d_Law_law_32 (by decide) (by decide) rfl rfl ?_
        exact law_k10 FF hi hl hPx hPm hR hS K
      · refine lv_tableIn (off := 425) (tgt := 457) hx hb d_Law_law_32 (by decide) (by decide) rfl rfl ?_
        exact law_k11 FF hi hl hPx hPm hR hS K
      · refine lv_tableIn (off := 448) (tgt := 480) hx hb d_Law_law_32 (by decide) (by decide) rfl rfl ?_
        exact law_k12 FF hi hl hPx hPm hR hS K
      · refine lv_tableIn (off := 471) (tgt := 503) hx hb d_Law_law_32 (by decide) (by decide) rfl rfl ?_
        exact law_k13 FF hi hl hPx hPm hR hS K
      · refine lv_tableIn (off := 504) (tgt := 536) hx hb d_Law_law_32 (by decide) (by decide) rfl rfl ?_
        exact law_k14 FF hi hl hPx hPm hR hS K
      · refine lv_tableIn (off := 557) (tgt := 589) hx hb d_Law_law_32 (by decide) (by decide) rfl rfl ?_
        exact law_k15 FF hi hl hPx hPm hR hS K
      · refine lv_tableIn (off := 580) (tgt := 612) hx hb d_Law_law_32 (by decide) (by decide) rfl rfl ?_
        exact law_k16 FF hi hl hPx hPm hR hS K
      · refine lv_tableIn (off := 603) (tgt := 635) hx hb d_Law_law_32 (by decide) (by decide) rfl rfl ?_
        exact law_k17 FF hi hl hPx hPm hR hS K
      · refine lv_tableIn (off := 626) (tgt := 658) hx hb d_Law_law_32 (by decide) (by decide) rfl rfl ?_
        exact law_k18 FF hi hl hPx hPm hR hS K
      · refine lv_tableOut (tgt := 691) hx hb d_Law_law_32 hz rfl ?_
        exact K u v H locs hPx hPm hR hS
