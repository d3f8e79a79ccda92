def cW (dT : Nat → ClassId) (ad : Nat → Nat) (u : xS) : va_W := [
  (ad 0, .inr (7, [.ref (ad 1), .ref (ad 10), .ref (ad 16), .ref (ad 18), .ref (ad 31)])),
  (ad 1, .inr (1, [.ref (ad 2), .ref (ad 3), .ref (ad 4), .ref (ad 5), .ref (ad 6), .ref (ad 7), .ref (ad 8), .ref (ad 9), .int (xs_i u 0)])),
  (ad 2, .inl (dT 0, 40, .inl (xs_I u 0))),
  (ad 3, .inl (dT 0, 40, .inl (xs_I u 1))),
  (ad 4, .inl (dT 0, 40, .inl (xs_I u 2))),
  (ad 5, .inl (dT 0, 40, .inl (xs_I u 3))),
  (ad 6, .inl (dT 1, 40, .inr (.inl (xs_L u 0)))),
  (ad 7, .inl (dT 1, 40, .inr (.inl (xs_L u 1)))),
  (ad 8, .inl (dT 0, 120, .inl (xs_I u 4))),
  (ad 9, .inl (dT 0, 3, .inl (xs_I u 5))),
  (ad 10, .inr (0, [.ref (ad 11), .ref (ad 12), .ref (ad 13), .ref (ad 14), .ref (ad 15), .long (xs_l u 0), .long (xs_l u 1), .int (xs_i u 1)])),
  (ad 11, .inl (dT 0, 40, .inl (xs_I u 6))),
  (ad 12, .inl (dT 0, 40, .inl (xs_I u 7))),
  (ad 13, .inl (dT 2, 40, .inl (xs_I u 8))),
  (ad 14, .inl (dT 1, 40, .inr (.inl (xs_L u 2)))),
  (ad 15, .inl (dT 0, 40, .inl (xs_I u 9))),
  (ad 16, .inr (2, [.ref (ad 17), .int (xs_i u 2)])),
  (ad 17, .inl (dT 0, 40, .inl (xs_I u 10))),
  (ad 18, .inl (dT 3, 3, .inr (.inr (.inr (.inr (fun k => some (ad (19 + 4 * k)))))))),
  (ad 19, .inr (6, [.ref (ad 20), .ref (ad 21), .long (xs_l u 2)])),
  (ad 20, .inl (dT 1, 3, .inr (.inl (xs_L u 3)))),
  (ad 21, .inr (3, [.ref (ad 22), .int (xs_i u 3), .int (xs_i u 6), .int (xs_i u 9)])),
  (ad 22, .inl (dT 0, 40, .inl (xs_I u 11))),
  (ad 23, .inr (6, [.ref (ad 24), .ref (ad 25), .long (xs_l u 3)])),
  (ad 24, .inl (dT 1, 3, .inr (.inl (xs_L u 4)))),
  (ad 25, .inr (3, [.ref (ad 26), .int (xs_i u 4), .int (xs_i u 7), .int (xs_i u 10)])),
  (ad 26, .inl (dT 0, 40, .inl (xs_I u 12))),
  (ad 27, .inr (6, [.ref (ad 28), .ref (ad 29), .long (xs_l u 4)])),
  (ad 28, .inl (dT 1, 3, .inr (.inl (xs_L u 5)))),
  (ad 29, .inr (3, [.ref (ad 30), .int (xs_i u 5), .int (xs_i u 8), .int (xs_i u 11)])),
  (ad 30, .inl (dT 0, 40, .inl (xs_I u 13))),
  (ad 31, .inl (dT 4, 6, .inr (.inr (.inr (.inr (fun k => some (ad (32 + 3 * k)))))))),
  (ad 32, .inr (4, [.ref (ad 33), .int (xs_i u 12), .int (xs_i u 18), .int (xs_i u 24), .long (xs_l u 5)])),
  (ad 33, .inr (5, [.ref (ad 34), .int (xs_i u 30)])),
  (ad 34, .inl (dT 0, 442, .inl (xs_I u 14))),
  (ad 35, .inr (4, [.ref (ad 36), .int (xs_i u 13), .int (xs_i u 19), .int (xs_i u 25), .long (xs_l u 6)])),
  (ad 36, .inr (5, [.ref (ad 37), .int (xs_i u 31)])),
  (ad 37, .inl (dT 0, 442, .inl (xs_I u 15))),
  (ad 38, .inr (4, [.ref (ad 39), .int (xs_i u 14), .int (xs_i u 20), .int (xs_i u 26), .long (xs_l u 7)])),
  (ad 39, .inr (5, [.ref (ad 40), .int (xs_i u 32)])),
  (ad 40, .inl (dT 0, 442, .inl (xs_I u 16))),
  (ad 41, .inr (4, [.ref (ad 42), .int (xs_i u 15), .int (xs_i u 21), .int (xs_i u 27), .long (xs_l u 8)])),
  (ad 42, .inr (5, [.ref (ad 43), .int (xs_i u 33)])),
  (ad 43, .inl (dT 0, 442, .inl (xs_I u 17))),
  (ad 44, .inr (4, [.ref (ad 45), .int (xs_i u 16), .int (xs_i u 22), .int (xs_i u 28), .long (xs_l u 9)])),
  (ad 45, .inr (5, [.ref (ad 46), .int (xs_i u 34)])),
  (ad 46, .inl (dT 0, 442, .inl (xs_I u 18))),
  (ad 47, .inr (4, [.ref (ad 48), .int (xs_i u 17), .int (xs_i u 23), .int (xs_i u 29), .long (xs_l u 10)])),
  (ad 48, .inr (5, [.ref (ad 49), .int (xs_i u 35)])),
  (ad 49, .inl (dT 0, 442, .inl (xs_I u 19)))]
theorem cW_E {dT : Nat → ClassId} {ad : Nat → Nat} {u : xS} : (cW dT ad u)[0]? = some (ad 0, .inr (7, [.ref (ad 1), .ref (ad 10), .ref (ad 16), .ref (ad 18), .ref (ad 31)])) := rfl
theorem cW_H {dT : Nat → ClassId} {ad : Nat → Nat} {u : xS} : (cW dT ad u)[1]? = some (ad 1, .inr (1, [.ref (ad 2), .ref (ad 3), .ref (ad 4), .ref (ad 5), .ref (ad 6), .ref (ad 7), .ref (ad 8), .ref (ad 9), .int (xs_i u 0)])) := rfl
theorem cW_f_H_count {dT : Nat → ClassId} {ad : Nat → Nat} {u : xS} {v : Int32} : (cW dT ad u).set 1 (ad 1, .inr (1, [.ref (ad 2), .ref (ad 3), .ref (ad 4), .ref (ad 5), .ref (ad 6), .ref (ad 7), .ref (ad 8), .ref (ad 9), .int v])) = cW dT ad (xs_si u 0 v) := rfl
theorem cW_H_sites {dT : Nat → ClassId} {ad : Nat → Nat} {u : xS} : (cW dT ad u)[2]? = some (ad 2, .inl (dT 0, 40, .inl (xs_I u 0))) := rfl
theorem cW_s_H_sites {dT : Nat → ClassId} {ad : Nat → Nat} {u : xS} {q : Nat} {v : Int32} : (cW dT ad u).set 2 (ad 2, .inl (dT 0, 40, .inl (upd (xs_I u 0) q v))) = cW dT ad (xs_sI u 0 q v) := rfl
theorem cW_H_numbers {dT : Nat → ClassId} {ad : Nat → Nat} {u : xS} : (cW dT ad u)[3]? = some (ad 3, .inl (dT 0, 40, .inl (xs_I u 1))) := rfl
theorem cW_s_H_numbers {dT : Nat → ClassId} {ad : Nat → Nat} {u : xS} {q : Nat} {v : Int32} : (cW dT ad u).set 3 (ad 3, .inl (dT 0, 40, .inl (upd (xs_I u 1) q v))) = cW dT ad (xs_sI u 1 q v) := rfl
theorem cW_H_indices {dT : Nat → ClassId} {ad : Nat → Nat} {u : xS} : (cW dT ad u)[4]? = some (ad 4, .inl (dT 0, 40, .inl (xs_I u 2))) := rfl
theorem cW_s_H_indices {dT : Nat → ClassId} {ad : Nat → Nat} {u : xS} {q : Nat} {v : Int32} : (cW dT ad u).set 4 (ad 4, .inl (dT 0, 40, .inl (upd (xs_I u 2) q v))) = cW dT ad (xs_sI u 2 q v) := rfl
theorem cW_H_characters {dT : Nat → ClassId} {ad : Nat → Nat} {u : xS} : (cW dT ad u)[5]? = some (ad 5, .inl (dT 0, 40, .inl (xs_I u 3))) := rfl
theorem cW_s_H_characters {dT : Nat → ClassId} {ad : Nat → Nat} {u : xS} {q : Nat} {v : Int32} : (cW dT ad u).set 5 (ad 5, .inl (dT 0, 40, .inl (upd (xs_I u 3) q v))) = cW dT ad (xs_sI u 3 q v) := rfl
theorem cW_H_parents {dT : Nat → ClassId} {ad : Nat → Nat} {u : xS} : (cW dT ad u)[6]? = some (ad 6, .inl (dT 1, 40, .inr (.inl (xs_L u 0)))) := rfl
theorem cW_s_H_parents {dT : Nat → ClassId} {ad : Nat → Nat} {u : xS} {q : Nat} {v : Int64} : (cW dT ad u).set 6 (ad 6, .inl (dT 1, 40, .inr (.inl (vp_updL (xs_L u 0) q v)))) = cW dT ad (xs_sL u 0 q v) := rfl
theorem cW_H_ancestors {dT : Nat → ClassId} {ad : Nat → Nat} {u : xS} : (cW dT ad u)[7]? = some (ad 7, .inl (dT 1, 40, .inr (.inl (xs_L u 1)))) := rfl
theorem cW_s_H_ancestors {dT : Nat → ClassId} {ad : Nat → Nat} {u : xS} {q : Nat} {v : Int64} : (cW dT ad u).set 7 (ad 7, .inl (dT 1, 40, .inr (.inl (vp_updL (xs_L u 1) q v)))) = cW dT ad (xs_sL u 1 q v) := rfl
theorem cW_H_slots {dT : Nat → ClassId} {ad : Nat → Nat} {u : xS} : (cW dT ad u)[8]? = some (ad 8, .inl (dT 0, 120, .inl (xs_I u 4))) := rfl
theorem cW_s_H_slots {dT : Nat → ClassId} {ad : Nat → Nat} {u : xS} {q : Nat} {v : Int32} : (cW dT ad u).set 8 (ad 8, .inl (dT 0, 120, .inl (upd (xs_I u 4) q v))) = cW dT ad (xs_sI u 4 q v) := rfl
theorem cW_H_made {dT : Nat → ClassId} {ad : Nat → Nat} {u : xS} : (cW dT ad u)[9]? = some (ad 9, .inl (dT 0, 3, .inl (xs_I u 5))) := rfl
theorem cW_s_H_made {dT : Nat → ClassId} {ad : Nat → Nat} {u : xS} {q : Nat} {v : Int32} : (cW dT ad u).set 9 (ad 9, .inl (dT 0, 3, .inl (upd (xs_I u 5) q v))) = cW dT ad (xs_sI u 5 q v) := rfl
theorem cW_L {dT : Nat → ClassId} {ad : Nat → Nat} {u : xS} : (cW dT ad u)[10]? = some (ad 10, .inr (0, [.ref (ad 11), .ref (ad 12), .ref (ad 13), .ref (ad 14), .ref (ad 15), .long (xs_l u 0), .long (xs_l u 1), .int (xs_i u 1)])) := rfl
theorem cW_f_L_deletes {dT : Nat → ClassId} {ad : Nat → Nat} {u : xS} {v : Int64} : (cW dT ad u).set 10 (ad 10, .inr (0, [.ref (ad 11), .ref (ad 12), .ref (ad 13), .ref (ad 14), .ref (ad 15), .long v, .long (xs_l u 1), .int (xs_i u 1)])) = cW dT ad (xs_sl u 0 v) := rfl
theorem cW_f_L_inserts {dT : Nat → ClassId} {ad : Nat → Nat} {u : xS} {v : Int64} : (cW dT ad u).set 10 (ad 10, .inr (0, [.ref (ad 11), .ref (ad 12), .ref (ad 13), .ref (ad 14), .ref (ad 15), .long (xs_l u 0), .long v, .int (xs_i u 1)])) = cW dT ad (xs_sl u 1 v) := rfl
theorem cW_f_L_count {dT : Nat → ClassId} {ad : Nat → Nat} {u : xS} {v : Int32} : (cW dT ad u).set 10 (ad 10, .inr (0, [.ref (ad 11), .ref (ad 12), .ref (ad 13), .ref (ad 14), .ref (ad 15), .long (xs_l u 0), .long (xs_l u 1), .int v])) = cW dT ad (xs_si u 1 v) := rfl
theorem cW_L_order {dT : Nat → ClassId} {ad : Nat → Nat} {u : xS} : (cW dT ad u)[11]? = some (ad 11, .inl (dT 0, 40, .inl (xs_I u 6))) := rfl
theorem cW_s_L_order {dT : Nat → ClassId} {ad : Nat → Nat} {u : xS} {q : Nat} {v : Int32} : (cW dT ad u).set 11 (ad 11, .inl (dT 0, 40, .inl (upd (xs_I u 6) q v))) = cW dT ad (xs_sI u 6 q v) := rfl
theorem cW_L_holders {dT : Nat → ClassId} {ad : Nat → Nat} {u : xS} : (cW dT ad u)[12]? = some (ad 12, .inl (dT 0, 40, .inl (xs_I u 7))) := rfl
theorem cW_s_L_holders {dT : Nat → ClassId} {ad : Nat → Nat} {u : xS} {q : Nat} {v : Int32} : (cW dT ad u).set 12 (ad 12, .inl (dT 0, 40, .inl (upd (xs_I u 7) q v))) = cW dT ad (xs_sI u 7 q v) := rfl
theorem cW_L_onTheRight {dT : Nat → ClassId} {ad : Nat → Nat} {u : xS} : (cW dT ad u)[13]? = some (ad 13, .inl (dT 2, 40, .inl (xs_I u 8))) := rfl
theorem cW_s_L_onTheRight {dT : Nat → ClassId} {ad : Nat → Nat} {u : xS} {q : Nat} {v : Int32} : (cW dT ad u).set 13 (ad 13, .inl (dT 2, 40, .inl (upd (xs_I u 8) q v))) = cW dT ad (xs_sI u 8 q v) := rfl
theorem cW_L_chains {dT : Nat → ClassId} {ad : Nat → Nat} {u : xS} : (cW dT ad u)[14]? = some (ad 14, .inl (dT 1, 40, .inr (.inl (xs_L u 2)))) := rfl
theorem cW_s_L_chains {dT : Nat → ClassId} {ad : Nat → Nat} {u : xS} {q : Nat} {v : Int64} : (cW dT ad u).set 14 (ad 14, .inl (dT 1, 40, .inr (.inl (vp_updL (xs_L u 2) q v)))) = cW dT ad (xs_sL u 2 q v) := rfl
theorem cW_L_taken {dT : Nat → ClassId} {ad : Nat → Nat} {u : xS} : (cW dT ad u)[15]? = some (ad 15, .inl (dT 0, 40, .inl (xs_I u 9))) := rfl
theorem cW_s_L_taken {dT : Nat → ClassId} {ad : Nat → Nat} {u : xS} {q : Nat} {v : Int32} : (cW dT ad u).set 15 (ad 15, .inl (dT 0, 40, .inl (upd (xs_I u 9) q v))) = cW dT ad (xs_sI u 9 q v) := rfl
theorem cW_N {dT : Nat → ClassId} {ad : Nat → Nat} {u : xS} : (cW dT ad u)[16]? = some (ad 16, .inr (2, [.ref (ad 17), .int (xs_i u 2)])) := rfl
theorem cW_f_N_count {dT : Nat → ClassId} {ad : Nat → Nat} {u : xS} {v : Int32} : (cW dT ad u).set 16 (ad 16, .inr (2, [.ref (ad 17), .int v])) = cW dT ad (xs_si u 2 v) := rfl
theorem cW_N_slots {dT : Nat → ClassId} {ad : Nat → Nat} {u : xS} : (cW dT ad u)[17]? = some (ad 17, .inl (dT 0, 40, .inl (xs_I u 10))) := rfl
theorem cW_s_N_slots {dT : Nat → ClassId} {ad : Nat → Nat} {u : xS} {q : Nat} {v : Int32} : (cW dT ad u).set 17 (ad 17, .inl (dT 0, 40, .inl (upd (xs_I u 10) q v))) = cW dT ad (xs_sI u 10 q v) := rfl
theorem cW_Ss {dT : Nat → ClassId} {ad : Nat → Nat} {u : xS} : (cW dT ad u)[18]? = some (ad 18, .inl (dT 3, 3, .inr (.inr (.inr (.inr (fun k => some (ad (19 + 4 * k)))))))) := rfl
theorem cW_S {dT : Nat → ClassId} {ad : Nat → Nat} {u : xS} {j : Nat} (hj : j < 3) : (cW dT ad u)[(19 + 4 * j)]? = some (ad (19 + 4 * j), .inr (6, [.ref (ad (20 + 4 * j)), .ref (ad (21 + 4 * j)), .long (xs_l u (2 + j))])) := by
  match j, hj with
  | 0, _ => rfl
  | 1, _ => rfl
  | 2, _ => rfl
  | j + 3, h => exact absurd h (by omega)
theorem cW_f_S_graph {dT : Nat → ClassId} {ad : Nat → Nat} {u : xS} {j : Nat} (hj : j < 3) {v : Int64} : (cW dT ad u).set (19 + 4 * j) (ad (19 + 4 * j), .inr (6, [.ref (ad (20 + 4 * j)), .ref (ad (21 + 4 * j)), .long v])) = cW dT ad (xs_sl u (2 + j) v) := by
  match j, hj with
  | 0, _ => rfl
  | 1, _ => rfl
  | 2, _ => rfl
  | j + 3, h => exact absurd h (by omega)
theorem cW_S_beliefs {dT : Nat → ClassId} {ad : Nat → Nat} {u : xS} {j : Nat} (hj : j < 3) : (cW dT ad u)[(20 + 4 * j)]? = some (ad (20 + 4 * j), .inl (dT 1, 3, .inr (.inl (xs_L u (3 + j))))) := by
  match j, hj with
  | 0, _ => rfl
  | 1, _ => rfl
  | 2, _ => rfl
  | j + 3, h => exact absurd h (by omega)
theorem cW_s_S_beliefs {dT : Nat → ClassId} {ad : Nat → Nat} {u : xS} {j : Nat} (hj : j < 3) {q : Nat} {v : Int64} : (cW dT ad u).set (20 + 4 * j) (ad (20 + 4 * j), .inl (dT 1, 3, .inr (.inl (vp_updL (xs_L u (3 + j)) q v)))) = cW dT ad (xs_sL u (3 + j) q v) := by
  match j, hj with
  | 0, _ => rfl
  | 1, _ => rfl
  | 2, _ => rfl
  | j + 3, h => exact absurd h (by omega)
theorem cW_G {dT : Nat → ClassId} {ad : Nat → Nat} {u : xS} {j : Nat} (hj : j < 3) : (cW dT ad u)[(21 + 4 * j)]? = some (ad (21 + 4 * j), .inr (3, [.ref (ad (22 + 4 * j)), .int (xs_i u (3 + j)), .int (xs_i u (6 + j)), .int (xs_i u (9 + j))])) := by
  match j, hj with
  | 0, _ => rfl
  | 1, _ => rfl
  | 2, _ => rfl
  | j + 3, h => exact absurd h (by omega)
theorem cW_f_G_applied {dT : Nat → ClassId} {ad : Nat → Nat} {u : xS} {j : Nat} (hj : j < 3) {v : Int32} : (cW dT ad u).set (21 + 4 * j) (ad (21 + 4 * j), .inr (3, [.ref (ad (22 + 4 * j)), .int v, .int (xs_i u (6 + j)), .int (xs_i u (9 + j))])) = cW dT ad (xs_si u (3 + j) v) := by
  match j, hj with
  | 0, _ => rfl
  | 1, _ => rfl
  | 2, _ => rfl
  | j + 3, h => exact absurd h (by omega)
theorem cW_f_G_replayed {dT : Nat → ClassId} {ad : Nat → Nat} {u : xS} {j : Nat} (hj : j < 3) {v : Int32} : (cW dT ad u).set (21 + 4 * j) (ad (21 + 4 * j), .inr (3, [.ref (ad (22 + 4 * j)), .int (xs_i u (3 + j)), .int v, .int (xs_i u (9 + j))])) = cW dT ad (xs_si u (6 + j) v) := by
  match j, hj with
  | 0, _ => rfl
  | 1, _ => rfl
  | 2, _ => rfl
  | j + 3, h => exact absurd h (by omega)
theorem cW_f_G_moves {dT : Nat → ClassId} {ad : Nat → Nat} {u : xS} {j : Nat} (hj : j < 3) {v : Int32} : (cW dT ad u).set (21 + 4 * j) (ad (21 + 4 * j), .inr (3, [.ref (ad (22 + 4 * j)), .int (xs_i u (3 + j)), .int (xs_i u (6 + j)), .int v])) = cW dT ad (xs_si u (9 + j) v) := by
  match j, hj with
  | 0, _ => rfl
  | 1, _ => rfl
  | 2, _ => rfl
  | j + 3, h => exact absurd h (by omega)
theorem cW_G_operations {dT : Nat → ClassId} {ad : Nat → Nat} {u : xS} {j : Nat} (hj : j < 3) : (cW dT ad u)[(22 + 4 * j)]? = some (ad (22 + 4 * j), .inl (dT 0, 40, .inl (xs_I u (11 + j)))) := by
  match j, hj with
  | 0, _ => rfl
  | 1, _ => rfl
  | 2, _ => rfl
  | j + 3, h => exact absurd h (by omega)
theorem cW_s_G_operations {dT : Nat → ClassId} {ad : Nat → Nat} {u : xS} {j : Nat} (hj : j < 3) {q : Nat} {v : Int32} : (cW dT ad u).set (22 + 4 * j) (ad (22 + 4 * j), .inl (dT 0, 40, .inl (upd (xs_I u (11 + j)) q v))) = cW dT ad (xs_sI u (11 + j) q v) := by
  match j, hj with
  | 0, _ => rfl
  | 1, _ => rfl
  | 2, _ => rfl
  | j + 3, h => exact absurd h (by omega)
theorem cW_Ms {dT : Nat → ClassId} {ad : Nat → Nat} {u : xS} : (cW dT ad u)[31]? = some (ad 31, .inl (dT 4, 6, .inr (.inr (.inr (.inr (fun k => some (ad (32 + 3 * k)))))))) := rfl
theorem cW_M {dT : Nat → ClassId} {ad : Nat → Nat} {u : xS} {j : Nat} (hj : j < 6) : (cW dT ad u)[(32 + 3 * j)]? = some (ad (32 + 3 * j), .inr (4, [.ref (ad (33 + 3 * j)), .int (xs_i u (12 + j)), .int (xs_i u (18 + j)), .int (xs_i u (24 + j)), .long (xs_l u (5 + j))])) := by
  match j, hj with
  | 0, _ => rfl
  | 1, _ => rfl
  | 2, _ => rfl
  | 3, _ => rfl
  | 4, _ => rfl
  | 5, _ => rfl
  | j + 6, h => exact absurd h (by omega)
theorem cW_f_M_underWay {dT : Nat → ClassId} {ad : Nat → Nat} {u : xS} {j : Nat} (hj : j < 6) {v : Int32} : (cW dT ad u).set (32 + 3 * j) (ad (32 + 3 * j), .inr (4, [.ref (ad (33 + 3 * j)), .int v, .int (xs_i u (18 + j)), .int (xs_i u (24 + j)), .long (xs_l u (5 + j))])) = cW dT ad (xs_si u (12 + j) v) := by
  match j, hj with
  | 0, _ => rfl
  | 1, _ => rfl
  | 2, _ => rfl
  | 3, _ => rfl
  | 4, _ => rfl
  | 5, _ => rfl
  | j + 6, h => exact absurd h (by omega)
theorem cW_f_M_carried {dT : Nat → ClassId} {ad : Nat → Nat} {u : xS} {j : Nat} (hj : j < 6) {v : Int64} : (cW dT ad u).set (32 + 3 * j) (ad (32 + 3 * j), .inr (4, [.ref (ad (33 + 3 * j)), .int (xs_i u (12 + j)), .int (xs_i u (18 + j)), .int (xs_i u (24 + j)), .long v])) = cW dT ad (xs_sl u (5 + j) v) := by
  match j, hj with
  | 0, _ => rfl
  | 1, _ => rfl
  | 2, _ => rfl
  | 3, _ => rfl
  | 4, _ => rfl
  | 5, _ => rfl
  | j + 6, h => exact absurd h (by omega)
theorem cW_f_M_from {dT : Nat → ClassId} {ad : Nat → Nat} {u : xS} {j : Nat} (hj : j < 6) {v : Int32} : (cW dT ad u).set (32 + 3 * j) (ad (32 + 3 * j), .inr (4, [.ref (ad (33 + 3 * j)), .int (xs_i u (12 + j)), .int v, .int (xs_i u (24 + j)), .long (xs_l u (5 + j))])) = cW dT ad (xs_si u (18 + j) v) := by
  match j, hj with
  | 0, _ => rfl
  | 1, _ => rfl
  | 2, _ => rfl
  | 3, _ => rfl
  | 4, _ => rfl
  | 5, _ => rfl
  | j + 6, h => exact absurd h (by omega)
theorem cW_f_M_to {dT : Nat → ClassId} {ad : Nat → Nat} {u : xS} {j : Nat} (hj : j < 6) {v : Int32} : (cW dT ad u).set (32 + 3 * j) (ad (32 + 3 * j), .inr (4, [.ref (ad (33 + 3 * j)), .int (xs_i u (12 + j)), .int (xs_i u (18 + j)), .int v, .long (xs_l u (5 + j))])) = cW dT ad (xs_si u (24 + j) v) := by
  match j, hj with
  | 0, _ => rfl
  | 1, _ => rfl
  | 2, _ => rfl
  | 3, _ => rfl
  | 4, _ => rfl
  | 5, _ => rfl
  | j + 6, h => exact absurd h (by omega)
theorem cW_O {dT : Nat → ClassId} {ad : Nat → Nat} {u : xS} {j : Nat} (hj : j < 6) : (cW dT ad u)[(33 + 3 * j)]? = some (ad (33 + 3 * j), .inr (5, [.ref (ad (34 + 3 * j)), .int (xs_i u (30 + j))])) := by
  match j, hj with
  | 0, _ => rfl
  | 1, _ => rfl
  | 2, _ => rfl
  | 3, _ => rfl
  | 4, _ => rfl
  | 5, _ => rfl
  | j + 6, h => exact absurd h (by omega)
theorem cW_f_O_count {dT : Nat → ClassId} {ad : Nat → Nat} {u : xS} {j : Nat} (hj : j < 6) {v : Int32} : (cW dT ad u).set (33 + 3 * j) (ad (33 + 3 * j), .inr (5, [.ref (ad (34 + 3 * j)), .int v])) = cW dT ad (xs_si u (30 + j) v) := by
  match j, hj with
  | 0, _ => rfl
  | 1, _ => rfl
  | 2, _ => rfl
  | 3, _ => rfl
  | 4, _ => rfl
  | 5, _ => rfl
  | j + 6, h => exact absurd h (by omega)
theorem cW_O_row {dT : Nat → ClassId} {ad : Nat → Nat} {u : xS} {j : Nat} (hj : j < 6) : (cW dT ad u)[(34 + 3 * j)]? = some (ad (34 + 3 * j), .inl (dT 0, 442, .inl (xs_I u (14 + j)))) := by
  match j, hj with
  | 0, _ => rfl
  | 1, _ => rfl
  | 2, _ => rfl
  | 3, _ => rfl
  | 4, _ => rfl
  | 5, _ => rfl
  | j + 6, h => exact absurd h (by omega)
theorem cW_s_O_row {dT : Nat → ClassId} {ad : Nat → Nat} {u : xS} {j : Nat} (hj : j < 6) {q : Nat} {v : Int32} : (cW dT ad u).set (34 + 3 * j) (ad (34 + 3 * j), .inl (dT 0, 442, .inl (upd (xs_I u (14 + j)) q v))) = cW dT ad (xs_sI u (14 + j) q v) := by
  match j, hj with
  | 0, _ => rfl
  | 1, _ => rfl
  | 2, _ => rfl
  | 3, _ => rfl
  | 4, _ => rfl
  | 5, _ => rfl
  | j + 6, h => exact absurd h (by omega)
def mW (dT : Nat → ClassId) (ad : Nat → Nat) (u : xS) : va_W := [
  (ad 0, .inr (8, [.int (xs_i u 0), .ref (ad 1), .ref (ad 2), .ref (ad 3), .ref (ad 4), .ref (ad 5), .ref (ad 6), .ref (ad 7), .ref (ad 8), .ref (ad 9), .ref (ad 10), .ref (ad 11), .int (xs_i u 1), .ref (ad 12), .ref (ad 13), .ref (ad 14), .ref (ad 15), .ref (ad 16), .ref (ad 17), .ref (ad 18), .ref (ad 19), .ref (ad 20), .ref (ad 21), .int (xs_i u 2), .ref (ad 22), .int (xs_i u 3)])),
  (ad 1, .inl (dT 0, 40, .inl (xs_I u 0))),
  (ad 2, .inl (dT 0, 40, .inl (xs_I u 1))),
  (ad 3, .inl (dT 2, 40, .inl (xs_I u 2))),
  (ad 4, .inl (dT 0, 40, .inl (xs_I u 3))),
  (ad 5, .inl (dT 0, 40, .inl (xs_I u 4))),
  (ad 6, .inl (dT 1, 40, .inr (.inl (xs_L u 0)))),
  (ad 7, .inl (dT 1, 40, .inr (.inl (xs_L u 1)))),
  (ad 8, .inl (dT 0, 41, .inl (xs_I u 5))),
  (ad 9, .inl (dT 2, 41, .inl (xs_I u 6))),
  (ad 10, .inl (dT 0, 41, .inl (xs_I u 7))),
  (ad 11, .inl (dT 0, 40, .inl (xs_I u 8))),
  (ad 12, .inl (dT 1, 3, .inr (.inl (xs_L u 2)))),
  (ad 13, .inl (dT 1, 9, .inr (.inl (xs_L u 3)))),
  (ad 14, .inl (dT 1, 6, .inr (.inl (xs_L u 4)))),
  (ad 15, .inl (dT 0, 6, .inl (xs_I u 9))),
  (ad 16, .inl (dT 0, 6, .inl (xs_I u 10))),
  (ad 17, .inl (dT 0, 3, .inl (xs_I u 11))),
  (ad 18, .inl (dT 0, 3, .inl (xs_I u 12))),
  (ad 19, .inl (dT 0, 3, .inl (xs_I u 13))),
  (ad 20, .inl (dT 0, 120, .inl (xs_I u 14))),
  (ad 21, .inl (dT 0, 40, .inl (xs_I u 15))),
  (ad 22, .inl (dT 0, 460, .inl (xs_I u 16)))]
theorem mW_X {dT : Nat → ClassId} {ad : Nat → Nat} {u : xS} : (mW dT ad u)[0]? = some (ad 0, .inr (8, [.int (xs_i u 0), .ref (ad 1), .ref (ad 2), .ref (ad 3), .ref (ad 4), .ref (ad 5), .ref (ad 6), .ref (ad 7), .ref (ad 8), .ref (ad 9), .ref (ad 10), .ref (ad 11), .int (xs_i u 1), .ref (ad 12), .ref (ad 13), .ref (ad 14), .ref (ad 15), .ref (ad 16), .ref (ad 17), .ref (ad 18), .ref (ad 19), .ref (ad 20), .ref (ad 21), .int (xs_i u 2), .ref (ad 22), .int (xs_i u 3)])) := rfl
theorem mW_f_X_made {dT : Nat → ClassId} {ad : Nat → Nat} {u : xS} {v : Int32} : (mW dT ad u).set 0 (ad 0, .inr (8, [.int v, .ref (ad 1), .ref (ad 2), .ref (ad 3), .ref (ad 4), .ref (ad 5), .ref (ad 6), .ref (ad 7), .ref (ad 8), .ref (ad 9), .ref (ad 10), .ref (ad 11), .int (xs_i u 1), .ref (ad 12), .ref (ad 13), .ref (ad 14), .ref (ad 15), .ref (ad 16), .ref (ad 17), .ref (ad 18), .ref (ad 19), .ref (ad 20), .ref (ad 21), .int (xs_i u 2), .ref (ad 22), .int (xs_i u 3)])) = mW dT ad (xs_si u 0 v) := rfl
theorem mW_f_X_chars {dT : Nat → ClassId} {ad : Nat → Nat} {u : xS} {v : Int32} : (mW dT ad u).set 0 (ad 0, .inr (8, [.int (xs_i u 0), .ref (ad 1), .ref (ad 2), .ref (ad 3), .ref (ad 4), .ref (ad 5), .ref (ad 6), .ref (ad 7), .ref (ad 8), .ref (ad 9), .ref (ad 10), .ref (ad 11), .int v, .ref (ad 12), .ref (ad 13), .ref (ad 14), .ref (ad 15), .ref (ad 16), .ref (ad 17), .ref (ad 18), .ref (ad 19), .ref (ad 20), .ref (ad 21), .int (xs_i u 2), .ref (ad 22), .int (xs_i u 3)])) = mW dT ad (xs_si u 1 v) := rfl
theorem mW_f_X_turns {dT : Nat → ClassId} {ad : Nat → Nat} {u : xS} {v : Int32} : (mW dT ad u).set 0 (ad 0, .inr (8, [.int (xs_i u 0), .ref (ad 1), .ref (ad 2), .ref (ad 3), .ref (ad 4), .ref (ad 5), .ref (ad 6), .ref (ad 7), .ref (ad 8), .ref (ad 9), .ref (ad 10), .ref (ad 11), .int (xs_i u 1), .ref (ad 12), .ref (ad 13), .ref (ad 14), .ref (ad 15), .ref (ad 16), .ref (ad 17), .ref (ad 18), .ref (ad 19), .ref (ad 20), .ref (ad 21), .int v, .ref (ad 22), .int (xs_i u 3)])) = mW dT ad (xs_si u 2 v) := rfl
theorem mW_f_X_size {dT : Nat → ClassId} {ad : Nat → Nat} {u : xS} {v : Int32} : (mW dT ad u).set 0 (ad 0, .inr (8, [.int (xs_i u 0), .ref (ad 1), .ref (ad 2), .ref (ad 3), .ref (ad 4), .ref (ad 5), .ref (ad 6), .ref (ad 7), .ref (ad 8), .ref (ad 9), .ref (ad 10), .ref (ad 11), .int (xs_i u 1), .ref (ad 12), .ref (ad 13), .ref (ad 14), .ref (ad 15), .ref (ad 16), .ref (ad 17), .ref (ad 18), .ref (ad 19), .ref (ad 20), .ref (ad 21), .int (xs_i u 2), .ref (ad 22), .int v])) = mW dT ad (xs_si u 3 v) := rfl
theorem mW_X_site {dT : Nat → ClassId} {ad : Nat → Nat} {u : xS} : (mW dT ad u)[1]? = some (ad 1, .inl (dT 0, 40, .inl (xs_I u 0))) := rfl
theorem mW_s_X_site {dT : Nat → ClassId} {ad : Nat → Nat} {u : xS} {q : Nat} {v : Int32} : (mW dT ad u).set 1 (ad 1, .inl (dT 0, 40, .inl (upd (xs_I u 0) q v))) = mW dT ad (xs_sI u 0 q v) := rfl
theorem mW_X_number {dT : Nat → ClassId} {ad : Nat → Nat} {u : xS} : (mW dT ad u)[2]? = some (ad 2, .inl (dT 0, 40, .inl (xs_I u 1))) := rfl
theorem mW_s_X_number {dT : Nat → ClassId} {ad : Nat → Nat} {u : xS} {q : Nat} {v : Int32} : (mW dT ad u).set 2 (ad 2, .inl (dT 0, 40, .inl (upd (xs_I u 1) q v))) = mW dT ad (xs_sI u 1 q v) := rfl
theorem mW_X_inserts {dT : Nat → ClassId} {ad : Nat → Nat} {u : xS} : (mW dT ad u)[3]? = some (ad 3, .inl (dT 2, 40, .inl (xs_I u 2))) := rfl
theorem mW_s_X_inserts {dT : Nat → ClassId} {ad : Nat → Nat} {u : xS} {q : Nat} {v : Int32} : (mW dT ad u).set 3 (ad 3, .inl (dT 2, 40, .inl (upd (xs_I u 2) q v))) = mW dT ad (xs_sI u 2 q v) := rfl
theorem mW_X_index {dT : Nat → ClassId} {ad : Nat → Nat} {u : xS} : (mW dT ad u)[4]? = some (ad 4, .inl (dT 0, 40, .inl (xs_I u 3))) := rfl
theorem mW_s_X_index {dT : Nat → ClassId} {ad : Nat → Nat} {u : xS} {q : Nat} {v : Int32} : (mW dT ad u).set 4 (ad 4, .inl (dT 0, 40, .inl (upd (xs_I u 3) q v))) = mW dT ad (xs_sI u 3 q v) := rfl
theorem mW_X_letter {dT : Nat → ClassId} {ad : Nat → Nat} {u : xS} : (mW dT ad u)[5]? = some (ad 5, .inl (dT 0, 40, .inl (xs_I u 4))) := rfl
theorem mW_s_X_letter {dT : Nat → ClassId} {ad : Nat → Nat} {u : xS} {q : Nat} {v : Int32} : (mW dT ad u).set 5 (ad 5, .inl (dT 0, 40, .inl (upd (xs_I u 4) q v))) = mW dT ad (xs_sI u 4 q v) := rfl
theorem mW_X_earlier {dT : Nat → ClassId} {ad : Nat → Nat} {u : xS} : (mW dT ad u)[6]? = some (ad 6, .inl (dT 1, 40, .inr (.inl (xs_L u 0)))) := rfl
theorem mW_s_X_earlier {dT : Nat → ClassId} {ad : Nat → Nat} {u : xS} {q : Nat} {v : Int64} : (mW dT ad u).set 6 (ad 6, .inl (dT 1, 40, .inr (.inl (vp_updL (xs_L u 0) q v)))) = mW dT ad (xs_sL u 0 q v) := rfl
theorem mW_X_parents {dT : Nat → ClassId} {ad : Nat → Nat} {u : xS} : (mW dT ad u)[7]? = some (ad 7, .inl (dT 1, 40, .inr (.inl (xs_L u 1)))) := rfl
theorem mW_s_X_parents {dT : Nat → ClassId} {ad : Nat → Nat} {u : xS} {q : Nat} {v : Int64} : (mW dT ad u).set 7 (ad 7, .inl (dT 1, 40, .inr (.inl (vp_updL (xs_L u 1) q v)))) = mW dT ad (xs_sL u 1 q v) := rfl
theorem mW_X_place {dT : Nat → ClassId} {ad : Nat → Nat} {u : xS} : (mW dT ad u)[8]? = some (ad 8, .inl (dT 0, 41, .inl (xs_I u 5))) := rfl
theorem mW_s_X_place {dT : Nat → ClassId} {ad : Nat → Nat} {u : xS} {q : Nat} {v : Int32} : (mW dT ad u).set 8 (ad 8, .inl (dT 0, 41, .inl (upd (xs_I u 5) q v))) = mW dT ad (xs_sI u 5 q v) := rfl
theorem mW_X_right {dT : Nat → ClassId} {ad : Nat → Nat} {u : xS} : (mW dT ad u)[9]? = some (ad 9, .inl (dT 2, 41, .inl (xs_I u 6))) := rfl
theorem mW_s_X_right {dT : Nat → ClassId} {ad : Nat → Nat} {u : xS} {q : Nat} {v : Int32} : (mW dT ad u).set 9 (ad 9, .inl (dT 2, 41, .inl (upd (xs_I u 6) q v))) = mW dT ad (xs_sI u 6 q v) := rfl
theorem mW_X_depth {dT : Nat → ClassId} {ad : Nat → Nat} {u : xS} : (mW dT ad u)[10]? = some (ad 10, .inl (dT 0, 41, .inl (xs_I u 7))) := rfl
theorem mW_s_X_depth {dT : Nat → ClassId} {ad : Nat → Nat} {u : xS} {q : Nat} {v : Int32} : (mW dT ad u).set 10 (ad 10, .inl (dT 0, 41, .inl (upd (xs_I u 7) q v))) = mW dT ad (xs_sI u 7 q v) := rfl
theorem mW_X_row {dT : Nat → ClassId} {ad : Nat → Nat} {u : xS} : (mW dT ad u)[11]? = some (ad 11, .inl (dT 0, 40, .inl (xs_I u 8))) := rfl
theorem mW_s_X_row {dT : Nat → ClassId} {ad : Nat → Nat} {u : xS} {q : Nat} {v : Int32} : (mW dT ad u).set 11 (ad 11, .inl (dT 0, 40, .inl (upd (xs_I u 8) q v))) = mW dT ad (xs_sI u 8 q v) := rfl
theorem mW_X_graph {dT : Nat → ClassId} {ad : Nat → Nat} {u : xS} : (mW dT ad u)[12]? = some (ad 12, .inl (dT 1, 3, .inr (.inl (xs_L u 2)))) := rfl
theorem mW_s_X_graph {dT : Nat → ClassId} {ad : Nat → Nat} {u : xS} {q : Nat} {v : Int64} : (mW dT ad u).set 12 (ad 12, .inl (dT 1, 3, .inr (.inl (vp_updL (xs_L u 2) q v)))) = mW dT ad (xs_sL u 2 q v) := rfl
theorem mW_X_thought {dT : Nat → ClassId} {ad : Nat → Nat} {u : xS} : (mW dT ad u)[13]? = some (ad 13, .inl (dT 1, 9, .inr (.inl (xs_L u 3)))) := rfl
theorem mW_s_X_thought {dT : Nat → ClassId} {ad : Nat → Nat} {u : xS} {q : Nat} {v : Int64} : (mW dT ad u).set 13 (ad 13, .inl (dT 1, 9, .inr (.inl (vp_updL (xs_L u 3) q v)))) = mW dT ad (xs_sL u 3 q v) := rfl
theorem mW_X_load {dT : Nat → ClassId} {ad : Nat → Nat} {u : xS} : (mW dT ad u)[14]? = some (ad 14, .inl (dT 1, 6, .inr (.inl (xs_L u 4)))) := rfl
theorem mW_s_X_load {dT : Nat → ClassId} {ad : Nat → Nat} {u : xS} {q : Nat} {v : Int64} : (mW dT ad u).set 14 (ad 14, .inl (dT 1, 6, .inr (.inl (vp_updL (xs_L u 4) q v)))) = mW dT ad (xs_sL u 4 q v) := rfl
theorem mW_X_sender {dT : Nat → ClassId} {ad : Nat → Nat} {u : xS} : (mW dT ad u)[15]? = some (ad 15, .inl (dT 0, 6, .inl (xs_I u 9))) := rfl
theorem mW_s_X_sender {dT : Nat → ClassId} {ad : Nat → Nat} {u : xS} {q : Nat} {v : Int32} : (mW dT ad u).set 15 (ad 15, .inl (dT 0, 6, .inl (upd (xs_I u 9) q v))) = mW dT ad (xs_sI u 9 q v) := rfl
theorem mW_X_receiver {dT : Nat → ClassId} {ad : Nat → Nat} {u : xS} : (mW dT ad u)[16]? = some (ad 16, .inl (dT 0, 6, .inl (xs_I u 10))) := rfl
theorem mW_s_X_receiver {dT : Nat → ClassId} {ad : Nat → Nat} {u : xS} {q : Nat} {v : Int32} : (mW dT ad u).set 16 (ad 16, .inl (dT 0, 6, .inl (upd (xs_I u 10) q v))) = mW dT ad (xs_sI u 10 q v) := rfl
theorem mW_X_again {dT : Nat → ClassId} {ad : Nat → Nat} {u : xS} : (mW dT ad u)[17]? = some (ad 17, .inl (dT 0, 3, .inl (xs_I u 11))) := rfl
theorem mW_s_X_again {dT : Nat → ClassId} {ad : Nat → Nat} {u : xS} {q : Nat} {v : Int32} : (mW dT ad u).set 17 (ad 17, .inl (dT 0, 3, .inl (upd (xs_I u 11) q v))) = mW dT ad (xs_sI u 11 q v) := rfl
theorem mW_X_shifts {dT : Nat → ClassId} {ad : Nat → Nat} {u : xS} : (mW dT ad u)[18]? = some (ad 18, .inl (dT 0, 3, .inl (xs_I u 12))) := rfl
theorem mW_s_X_shifts {dT : Nat → ClassId} {ad : Nat → Nat} {u : xS} {q : Nat} {v : Int32} : (mW dT ad u).set 18 (ad 18, .inl (dT 0, 3, .inl (upd (xs_I u 12) q v))) = mW dT ad (xs_sI u 12 q v) := rfl
theorem mW_X_dones {dT : Nat → ClassId} {ad : Nat → Nat} {u : xS} : (mW dT ad u)[19]? = some (ad 19, .inl (dT 0, 3, .inl (xs_I u 13))) := rfl
theorem mW_s_X_dones {dT : Nat → ClassId} {ad : Nat → Nat} {u : xS} {q : Nat} {v : Int32} : (mW dT ad u).set 19 (ad 19, .inl (dT 0, 3, .inl (upd (xs_I u 13) q v))) = mW dT ad (xs_sI u 13 q v) := rfl
theorem mW_X_did {dT : Nat → ClassId} {ad : Nat → Nat} {u : xS} : (mW dT ad u)[20]? = some (ad 20, .inl (dT 0, 120, .inl (xs_I u 14))) := rfl
theorem mW_s_X_did {dT : Nat → ClassId} {ad : Nat → Nat} {u : xS} {q : Nat} {v : Int32} : (mW dT ad u).set 20 (ad 20, .inl (dT 0, 120, .inl (upd (xs_I u 14) q v))) = mW dT ad (xs_sI u 14 q v) := rfl
theorem mW_X_turn {dT : Nat → ClassId} {ad : Nat → Nat} {u : xS} : (mW dT ad u)[21]? = some (ad 21, .inl (dT 0, 40, .inl (xs_I u 15))) := rfl
theorem mW_s_X_turn {dT : Nat → ClassId} {ad : Nat → Nat} {u : xS} {q : Nat} {v : Int32} : (mW dT ad u).set 21 (ad 21, .inl (dT 0, 40, .inl (upd (xs_I u 15) q v))) = mW dT ad (xs_sI u 15 q v) := rfl
theorem mW_X_out {dT : Nat → ClassId} {ad : Nat → Nat} {u : xS} : (mW dT ad u)[22]? = some (ad 22, .inl (dT 0, 460, .inl (xs_I u 16))) := rfl
theorem mW_s_X_out {dT : Nat → ClassId} {ad : Nat → Nat} {u : xS} {q : Nat} {v : Int32} : (mW dT ad u).set 22 (ad 22, .inl (dT 0, 460, .inl (upd (xs_I u 16) q v))) = mW dT ad (xs_sI u 16 q v) := rfl
