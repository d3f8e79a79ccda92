theorem xnF_in : ∀ q ∈ xnF, Cond.fieldLinkNest q.1 q.2.1 q.2.2.1 q.2.2.2.1 q.2.2.2.2.1 q.2.2.2.2.2 ∈ lw_tbl := by decide +kernel
theorem xnM_in : ∀ q ∈ xnM, Cond.methodLinkNest q.1 q.2.1 q.2.2.1 q.2.2.2 ∈ lw_tbl := by decide +kernel
theorem xAO_S : Cond.arrayOver (.object "EventGraphText$Site") ∈ lw_tbl := by decide +kernel
theorem xAO_M : Cond.arrayOver (.object "EventGraphText$Message") ∈ lw_tbl := by decide +kernel
theorem xprim {s : State} {A : Array Value} {ty : FieldType} (h : (Cond.arrayClass ty).before A s = true) (hra : ∀ c, s.vm.findClass ("[" ++ ty.toString) = some c → va_RA s c ty) : ∃ cA : ClassId, ArrOfT s cA ty ∧ va_RA s cA ty := by
  obtain ⟨cA, kA, comp, h1, h2, h3⟩ := Cond.arrayClass_spec h
  exact ⟨cA, fun n z => ⟨fun k h => (by cases h), kA, h2, comp, h3⟩, hra cA h1⟩
theorem xrefs {s : State} {C : String} (h : va_AO C s) : ∃ cA : ClassId, ArrOfT s cA (.object C) ∧ va_RA s cA (.object C) := by
  obtain ⟨comp, c, k, h1, h2, h3, h4, h5⟩ := Cond.arrayOver_spec h
  exact ⟨c, fun n z => ⟨fun k h => (by cases h), k, h3, comp, h4⟩, k, comp, h3, h4, h1, h5⟩
set_option maxHeartbeats 4000000 in
set_option maxRecDepth 100000 in
theorem whole_start {p : Program} {e : Env} {s : State} {m : MethodId} {below : List Frame} {meth : Method} {c : Code} (l : Launch) {b L : Nat} {xs : Nat → Int32} (hL : L ≤ 2560) (C0 : lw_At p s m meth c b L xs) : W p l e room_1 s m #[Value.ref b] below meth c s.heap [] 0 0 (lw_Z below #[Value.ref b] s) (entryFrame m ([Value.ref b] : List Value).toArray 4) := by
  obtain ⟨hx, hb, hret, hml, hown, htb, hX, hbl, hlocks, hgv⟩ := C0
  have hown : s.vm.findClass "EventGraphTextLaw" = some m.cls := hown
  have hT : ∀ w ∈ xG, w.before #[Value.ref b] s = true := fun w h => htb w (List.mem_filter.mp h).1
  have hN : xNw s := ⟨fun q hq => va_Nw.of rfl (htb _ (xnF_in q hq)), fun q hq => va_Nw.of rfl (htb _ (xnM_in q hq))⟩
  have hAO : xAO s := ⟨va_AO.of (htb _ xAO_S), va_AO.of (htb _ xAO_M)⟩
  obtain ⟨c0, i0, k0⟩ := u_known (C := "EventGraphText$CharacterList") (T := T_CharacterList) (N := 8) hT hin_CharacterList (hT _ wd_56)
  obtain ⟨c1, i1, k1⟩ := u_known (C := "EventGraphText$History") (T := T_History) (N := 9) hT hin_History (hT _ wd_20)
  obtain ⟨c2, i2, k2⟩ := u_known (C := "EventGraphText$Line") (T := T_Line) (N := 2) hT hin_Line (hT _ wd_88)
  obtain ⟨c3, i3, k3⟩ := u_known (C := "EventGraphText$Merge") (T := T_Merge) (N := 4) hT hin_Merge (hT _ wd_108)
  obtain ⟨c4, i4, k4⟩ := u_known (C := "EventGraphText$Message") (T := T_Message) (N := 5) hT hin_Message (hT _ wd_145)
  obtain ⟨c5, i5, k5⟩ := u_known (C := "EventGraphText$OctetRow") (T := T_OctetRow) (N := 2) hT hin_OctetRow (hT _ wd_151)
  obtain ⟨c6, i6, k6⟩ := u_known (C := "EventGraphText$Site") (T := T_Site) (N := 3) hT hin_Site (hT _ wd_102)
  obtain ⟨c7, i7, k7⟩ := u_known (C := "EventGraphText") (T := T_Text) (N := 5) hT hin_Text (hT _ wd_12)
  obtain ⟨c8, i8, k8⟩ := u_known (C := "EventGraphTextModel") (T := T_Model) (N := 26) hT hin_Model (hT _ wd_553)
  obtain ⟨t0, a0, b0⟩ := xprim (hT _ wd_53) (fun _ h => h)
  obtain ⟨t1, a1, b1⟩ := xprim (hT _ wd_54) (fun _ h => h)
  obtain ⟨t2, a2, b2⟩ := xprim (hT _ wd_86) (fun _ h => h)
  obtain ⟨t3, a3, b3⟩ := xrefs hAO.1
  obtain ⟨t4, a4, b4⟩ := xrefs hAO.2
  obtain ⟨dC, hdC⟩ : ∃ f : Nat → ClassId, f 0 = c0 ∧ f 1 = c1 ∧ f 2 = c2 ∧ f 3 = c3 ∧ f 4 = c4 ∧ f 5 = c5 ∧ f 6 = c6 ∧ f 7 = c7 ∧ f 8 = c8 := ⟨fun k => match k with | 0 => c0 | 1 => c1 | 2 => c2 | 3 => c3 | 4 => c4 | 5 => c5 | 6 => c6 | 7 => c7 | 8 => c8 | _ => c0, rfl, rfl, rfl, rfl, rfl, rfl, rfl, rfl, rfl⟩
  obtain ⟨dI, hdI⟩ : ∃ f : Nat → Nat → Nat, f 0 = i0 ∧ f 1 = i1 ∧ f 2 = i2 ∧ f 3 = i3 ∧ f 4 = i4 ∧ f 5 = i5 ∧ f 6 = i6 ∧ f 7 = i7 ∧ f 8 = i8 := ⟨fun k => match k with | 0 => i0 | 1 => i1 | 2 => i2 | 3 => i3 | 4 => i4 | 5 => i5 | 6 => i6 | 7 => i7 | 8 => i8 | _ => i0, rfl, rfl, rfl, rfl, rfl, rfl, rfl, rfl, rfl⟩
  obtain ⟨dT, hdT⟩ : ∃ f : Nat → ClassId, f 0 = t0 ∧ f 1 = t1 ∧ f 2 = t2 ∧ f 3 = t3 ∧ f 4 = t4 := ⟨fun k => match k with | 0 => t0 | 1 => t1 | 2 => t2 | 3 => t3 | 4 => t4 | _ => t0, rfl, rfl, rfl, rfl, rfl⟩
  obtain ⟨e0, e1, e2, e3, e4, e5, e6, e7, e8⟩ := hdC
  obtain ⟨f0, f1, f2, f3, f4, f5, f6, f7, f8⟩ := hdI
  obtain ⟨g0, g1, g2, g3, g4⟩ := hdT
  rw [← e0, ← f0] at k0
  rw [← e1, ← f1] at k1
  rw [← e2, ← f2] at k2
  rw [← e3, ← f3] at k3
  rw [← e4, ← f4] at k4
  rw [← e5, ← f5] at k5
  rw [← e6, ← f6] at k6
  rw [← e7, ← f7] at k7
  rw [← e8, ← f8] at k8
  rw [← g0] at a0 b0
  rw [← g1] at a1 b1
  rw [← g2] at a2 b2
  rw [← g3] at a3 b3
  rw [← g4] at a4 b4
  have hK : va_K (dC, dI) xCl (xT dT) s := by
    refine ⟨fun k q hq => ?_, fun k q hq => ?_⟩
    · match k, hq with
      | 0, hq => cases hq; exact k0
      | 1, hq => cases hq; exact k1
      | 2, hq => cases hq; exact k2
      | 3, hq => cases hq; exact k3
      | 4, hq => cases hq; exact k4
      | 5, hq => cases hq; exact k5
      | 6, hq => cases hq; exact k6
      | 7, hq => cases hq; exact k7
      | 8, hq => cases hq; exact k8
      | k + 9, hq => cases hq
    · match k, hq with
      | 0, hq => cases hq; exact ⟨a0, b0⟩
      | 1, hq => cases hq; exact ⟨a1, b1⟩
      | 2, hq => cases hq; exact ⟨a2, b2⟩
      | 3, hq => cases hq; exact ⟨a3, b3⟩
      | 4, hq => cases hq; exact ⟨a4, b4⟩
      | k + 5, hq => cases hq
  clear k0 k1 k2 k3 k4 k5 k6 k7 k8 a0 a1 a2 a3 a4 b0 b1 b2 b3 b4
  have hbA : ¬ (fun q => s.heap.size ≤ q) b := fun q => Nat.not_lt.mpr q hbl
  have hA : ∀ q : Nat, s.heap.size ≤ q → (fun q => s.heap.size ≤ q) q := fun q h => h
  have hS : va_S (fun q => s.heap.size ≤ q) s.heap s.heap [] := va_S.rf
  have hP : va_P (dC, dI) xCl [] s.heap := fun k q hq => by cases hq
  have hD : va_D (fun q => s.heap.size ≤ q) [] := ⟨fun i j p q hi => (by cases hi), fun k q hq => (by cases hq)⟩
  have hl := lv_entry ([.ref b]) (n := 4) (Nat.le_of_ble_eq_true rfl)
  rw [lg_entry_eq]
  generalize (lg_sl ([.ref b]) ++ List.replicate (4 - (lg_sl ([.ref b])).length) Slot.unset).toArray = ls at hl ⊢
  have hl : lv_has ls 4 [(0, .ref b)] := hl
  refine va_new (ci := 7) (fs := [.null, .null, .null, .null, .null]) (C := "EventGraphText") (T := T_Text) (N := 5) hx hb hT hin_Text ty_Text tyok_Text hown (hT _ wd_11) (hT _ wd_12) (hT _ wd_1) hK hP hD hS hA rfl xfs_Text (Nat.le_of_ble_eq_true rfl) (Nat.le_of_ble_eq_true rfl) d_Law_law_0 (fun qA H hP hD hS => ?_)
  refine W.widen (k := 1) (n := 5) (Nat.le_of_ble_eq_true rfl) (Nat.le_of_ble_eq_true rfl) ?_
  have hP : va_P (dC, dI) xCl [(qA, .inr (7, [.null, .null, .null, .null, .null]))] H := hP
  have hD : va_D (fun q => s.heap.size ≤ q) [(qA, .inr (7, [.null, .null, .null, .null, .null]))] := hD
  refine lv_dup hx hb d_Law_law_3 rfl ?_
  have hPc := hP.sub (ws' := [(qA, .inr (7, [.null, .null, .null, .null, .null]))]) [0] rfl
  have hDc := hD.sub (ws' := [(qA, .inr (7, [.null, .null, .null, .null, .null]))]) [0] (by decide) rfl
  have hFc := va_free (wc := [(qA, .inr (7, [.null, .null, .null, .null, .null]))]) hD hS hA [0] rfl
  refine va_callv (va_runI (As := []) (rest := [.ref qA]) ⟨hx, hb, hml, hown, hT⟩ (c_Text_init l dC dI dT qA H.size) (cwI 0 hT (xgl0 wd_15) rfl rfl rfl (hT _ wd_1) (hT _ wd_13) (hT _ wd_14) rfl pd_Text_init.2 ⟨Nat.le_of_ble_eq_true rfl, Nat.le_of_ble_eq_true rfl⟩) (xpreI hPc hDc hK hN hAO) rfl rfl hl.1 rfl (lv_room (Nat.le_of_ble_eq_true rfl)) d_Law_law_4 ⟨Nat.le_of_ble_eq_true rfl, Nat.le_of_ble_eq_true rfl⟩) hS (fun q _ h => hFc q h) hFc (fun ad t H1 locs ht hvm h5 hB hz1 hk1 hS => ?_)
  obtain ⟨hP1, hD1⟩ := hB
  rw [ht] at hP1
  subst h5
  obtain ⟨hP, hD⟩ := va_join (wr := []) (w1 := cW dT ad zs0) hP hD [0] [] rfl rfl (by decide) (by decide) hk1 hFc hP1 hD1
  generalize H1 = H at hP hS ⊢
  have hP : va_P (dC, dI) xCl (cW dT ad zs0) H := hP
  have hD : va_D (fun q => s.heap.size ≤ q) (cW dT ad zs0) := hD
  refine W.widen (k := 50) (n := 3480) (Nat.le_of_ble_eq_true rfl) (Nat.le_of_ble_eq_true rfl) ?_
  refine lv_astore_n (lv' := [(1, .ref (ad 0)), (0, .ref b)]) hx hb d_Law_law_7 rfl hl (Nat.le_of_ble_eq_true rfl) rfl (fun ls hl => ?_)
  refine va_new (ci := 8) (fs := [.int 0, .null, .null, .null, .null, .null, .null, .null, .null, .null, .null, .null, .int 0, .null, .null, .null, .null, .null, .null, .null, .null, .null, .null, .int 0, .null, .int 0]) (C := "EventGraphTextModel") (T := T_Model) (N := 26) hx hb hT hin_Model ty_Model tyok_Model hown (hT _ wd_552) (hT _ wd_553) (hT _ wd_9) hK hP hD hS hA rfl xfs_Model (Nat.le_of_ble_eq_true rfl) (Nat.le_of_ble_eq_true rfl) d_Law_law_8 (fun qB H hP hD hS => ?_)
  refine W.widen (k := 51) (n := 3506) (Nat.le_of_ble_eq_true rfl) (Nat.le_of_ble_eq_true rfl) ?_
  refine lv_dup hx hb d_Law_law_11 rfl ?_
  have hPc := hP.sub (ws' := [(qB, .inr (8, [.int 0, .null, .null, .null, .null, .null, .null, .null, .null, .null, .null, .null, .int 0, .null, .null, .null, .null, .null, .null, .null, .null, .null, .null, .int 0, .null, .int 0]))]) [50] rfl
  have hDc := hD.sub (ws' := [(qB, .inr (8, [.int 0, .null, .null, .null, .null, .null, .null, .null, .null, .null, .null, .null, .int 0, .null, .null, .null, .null, .null, .null, .null, .null, .null, .null, .int 0, .null, .int 0]))]) [50] (by decide) rfl
  have hFc := va_free (wc := [(qB, .inr (8, [.int 0, .null, .null, .null, .null, .null, .null, .null, .null, .null, .null, .null, .int 0, .null, .null, .null, .null, .null, .null, .null, .null, .null, .null, .int 0, .null, .int 0]))]) hD hS hA [50] rfl
  refine va_callv (va_runI (As := []) (rest := [.ref qB]) ⟨hx, hb, hml, hown, hT⟩ (c_Model_init l dC dI dT qB H.size) (cwI 0 hT (xgl0 wd_556) rfl rfl rfl (hT _ wd_9) (hT _ wd_554) (hT _ wd_555) rfl pd_Model_init.2 ⟨Nat.le_of_ble_eq_true rfl, Nat.le_of_ble_eq_true rfl⟩) (xpreI hPc hDc hK hN hAO) rfl rfl hl.1 rfl (lv_room (Nat.le_of_ble_eq_true rfl)) d_Law_law_12 ⟨Nat.le_of_ble_eq_true rfl, Nat.le_of_ble_eq_true rfl⟩) hS (fun q _ h => hFc q h) hFc (fun bd t H1 locs ht hvm h5 hB hz1 hk1 hS => ?_)
  obtain ⟨hP1, hD1⟩ := hB
  rw [ht] at hP1
  subst h5
  obtain ⟨hP, hD⟩ := va_join (wr := cW dT ad zs0) (w1 := mW dT bd zs0) hP hD [50] [0, 1, 2, 3, 4, 5, 6, 7, 8, 9, 10, 11, 12, 13, 14, 15, 16, 17, 18, 19, 20, 21, 22, 23, 24, 25, 26, 27, 28, 29, 30, 31, 32, 33, 34, 35, 36, 37, 38, 39, 40, 41, 42, 43, 44, 45, 46, 47, 48, 49] rfl rfl (by decide) (by decide) hk1 hFc hP1 hD1
  generalize H1 = H at hP hS ⊢
  refine W.widen (k := 600000) (n := 7302249) (Nat.le_of_ble_eq_true rfl) (Nat.le_of_ble_eq_true rfl) ?_
  refine lv_astore_n (lv' := [(2, .ref (bd 0)), (1, .ref (ad 0)), (0, .ref b)]) hx hb d_Law_law_15 rfl hl (Nat.le_of_ble_eq_true rfl) rfl (fun ls hl => ?_)
  refine lv_iconst (v := (0 : Int32)) hx hb d_Law_law_16 (by decide) ?_
  refine lv_istore_n (lv' := [(3, .int (0 : Int32)), (2, .ref (bd 0)), (1, .ref (ad 0)), (0, .ref b)]) hx hb d_Law_law_17 rfl hl (Nat.le_of_ble_eq_true rfl) rfl (fun ls hl => ?_)
  have hPx := xP_l hP
  have hPm := xP_r hP
  have F : lwF p s m c b L xs dC dI dT ad bd := by
    refine ⟨hx, hb, hml, hown, hT, hK, hN, fun u => xD_in (xD_l hD) cW_ad cW_ad, fun u => xD_in (xD_r hD) mW_ad mW_ad, ?_, ?_, ?_, ?_, hX, hbl, hL⟩
    · rintro q ⟨k, hk, rfl⟩
      obtain ⟨z, hz⟩ : ∃ z, (cW dT ad zs0)[k]? = some z := ⟨_, List.getElem?_eq_getElem (show k < (cW dT ad zs0).length from hk)⟩
      rw [← (xad cW_ad hz).2]; exact (xD_l hD).2 k z hz
    · rintro q ⟨k, hk, rfl⟩
      obtain ⟨z, hz⟩ : ∃ z, (mW dT bd zs0)[k]? = some z := ⟨_, List.getElem?_eq_getElem (show k < (mW dT bd zs0).length from hk)⟩
      rw [← (xad mW_ad hz).2]; exact (xD_r hD).2 k z hz
    · rintro v k q hq ⟨j, hj, he⟩
      obtain ⟨hk, hq1⟩ := xad mW_ad hq
      obtain ⟨z, hz⟩ : ∃ z, (cW dT ad zs0)[j]? = some z := ⟨_, List.getElem?_eq_getElem (show j < (cW dT ad zs0).length from hj)⟩
      obtain ⟨y, hy⟩ : ∃ z, (mW dT bd zs0)[k]? = some z := ⟨_, List.getElem?_eq_getElem (show k < (mW dT bd zs0).length from hk)⟩
      exact xD_ap hD hz hy (by rw [(xad cW_ad hz).2, (xad mW_ad hy).2, ← hq1, he])
    · rintro u k q hq ⟨j, hj, he⟩
      obtain ⟨hk, hq1⟩ := xad cW_ad hq
      obtain ⟨z, hz⟩ : ∃ z, (cW dT ad zs0)[k]? = some z := ⟨_, List.getElem?_eq_getElem (show k < (cW dT ad zs0).length from hk)⟩
      obtain ⟨y, hy⟩ : ∃ z, (mW dT bd zs0)[j]? = some z := ⟨_, List.getElem?_eq_getElem (show j < (mW dT bd zs0).length from hj)⟩
      exact xD_ap hD hz hy (by rw [(xad cW_ad hz).2, (xad mW_ad hy).2, ← hq1, he])
  refine law_loop F ?_ L 0 zs0 zs0 H locs ls (by omega) (by omega) hl hPx hPm zR_0 hS
  intro H locs ls hS
  refine lv_iconst (v := (1 : Int32)) hx hb d_Law_law_697 (by decide) ?_
  refine va_forget (fun q hq => hS.2.2 q hq) ?_
  exact lw_ret hx hb hret hlocks d_Law_law_698
