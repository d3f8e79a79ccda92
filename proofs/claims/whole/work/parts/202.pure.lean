def zc : Nat → Int64 → Nat
  | 0, _ => 0
  | n + 1, s => zc n s + if zm s n then 1 else 0
theorem zc_succ (n : Nat) (s : Int64) : zc (n + 1) s = zc n s + if zm s n then 1 else 0 := rfl
theorem zc_le (n : Nat) (s : Int64) : zc n s ≤ n := by
  induction n with
  | zero => exact Nat.le_refl 0
  | succ n ih => unfold zc; split <;> omega
theorem zc_more {s : Int64} {n : Nat} (d : Nat) (h : ∀ e, n ≤ e → ¬ zm s e) : zc (n + d) s = zc n s := by
  induction d with
  | zero => rfl
  | succ d ih =>
    show zc (n + d) s + (if zm s (n + d) then 1 else 0) = zc n s
    rw [if_neg (h _ (by omega)), ih]; rfl
theorem z_many_loop {s : Int64} : ∀ (d k fu : Nat), k + d = 40 → d < fu → m_Model_many_l4 fu s (zi (zc k s)) (zi k) = some (zi (zc 40 s)) := by
  intro d
  induction d with
  | zero =>
    intro k fu hk hf
    obtain ⟨f, rfl⟩ : ∃ f, fu = f + 1 := ⟨fu - 1, by omega⟩
    have : k = 40 := by omega
    subst this
    unfold m_Model_many_l4 m_Model_many_s4
    rw [if_pos (show (40 : Int32) ≤ zi 40 from by decide)]
  | succ d ih =>
    intro k fu hk hf
    obtain ⟨f, rfl⟩ : ∃ f, fu = f + 1 := ⟨fu - 1, by omega⟩
    unfold m_Model_many_l4 m_Model_many_s4
    rw [if_neg (show ¬ (40 : Int32) ≤ zi k from fun q => absurd ((zle (a := 40) (b := k) (by omega) (by omega)).mp q) (by omega)), zb1 (z_in (by omega))]
    have key := ih (k + 1) f (by omega) (by omega)
    rw [zsucc]
    by_cases h : zm s k
    · rw [if_neg (fun q => (zb_eq0.mp q) h), zsucc]
      have : zc (k + 1) s = zc k s + 1 := by rw [zc_succ, if_pos h]
      rw [← this]; exact key
    · rw [if_pos (zb_eq0.mpr h)]
      have : zc (k + 1) s = zc k s + 0 := by rw [zc_succ, if_neg h]
      rw [show (0 : Int32) = zi 0 from rfl, zadd, ← this]; exact key
theorem z_many (s : Int64) : m_Model_many s = some (zi (zc 40 s)) := z_many_loop 40 0 xFU rfl (by decide)
def zA (x : Nat) : Nat := x - ((x / 2) &&& 6148914691236517205)
def zB (x : Nat) : Nat := (x &&& 3689348814741910323) + ((x / 4) &&& 3689348814741910323)
def zC (x : Nat) : Nat := (x + x / 16) &&& 1085102592571150095
theorem zand256 {a b r s : Nat} (hr : r < 256) (hs : s < 256) : (256 * a + r) &&& (256 * b + s) = 256 * (a &&& b) + (r &&& s) := by
  have h1 : r &&& s < 2 ^ 8 := Nat.and_lt_two_pow _ hs
  apply Nat.eq_of_testBit_eq
  intro i
  rw [Nat.testBit_and, show (256 : Nat) = 2 ^ 8 from rfl, Nat.testBit_two_pow_mul_add a hr, Nat.testBit_two_pow_mul_add b hs, Nat.testBit_two_pow_mul_add _ h1]
  split <;> rw [Nat.testBit_and]
def zM5 : Nat → Nat
  | 0 => 0
  | n + 1 => 256 * zM5 n + 85
def zM3 : Nat → Nat
  | 0 => 0
  | n + 1 => 256 * zM3 n + 51
def zM0 : Nat → Nat
  | 0 => 0
  | n + 1 => 256 * zM0 n + 15
def zAn (n x : Nat) : Nat := x - ((x / 2) &&& zM5 n)
def zBn (n x : Nat) : Nat := (x &&& zM3 n) + ((x / 4) &&& zM3 n)
def zCn (n x : Nat) : Nat := (x + x / 16) &&& zM0 n
theorem zbyteA : ∀ d : Fin 256, ∀ r : Fin 2, ((128 * r.val + d.val / 2) &&& 85) = ((d.val / 2) &&& 85) ∧ ((d.val / 2) &&& 85) ≤ d.val := by decide +kernel
theorem zbyteB : ∀ d : Fin 256, ∀ r : Fin 4, ((64 * r.val + d.val / 4) &&& 51) = ((d.val / 4) &&& 51) := by decide +kernel
theorem zbyteC : ∀ d : Fin 256, ∀ r : Fin 5, d.val % 16 ≤ 4 → d.val / 16 ≤ 4 → ((16 * r.val + d.val + d.val / 16) &&& 15) = d.val % 16 + d.val / 16 := by decide +kernel
def zpc : Nat → Nat → Nat
  | 0, _ => 0
  | n + 1, x => x % 2 + zpc n (x / 2)
theorem zbyteF : ∀ d : Fin 256, let y := (d.val - ((d.val / 2) &&& 85)); let w := (y &&& 51) + ((y / 4) &&& 51); w < 256 ∧ y < 256 ∧ w % 16 ≤ 4 ∧ w / 16 ≤ 4 ∧ w % 16 + w / 16 = zpc 8 d.val := by decide +kernel
theorem zAn_le (n : Nat) : ∀ x, ((x / 2) &&& zM5 n) ≤ x := by
  intro x
  exact Nat.le_trans Nat.and_le_left (Nat.div_le_self x 2)
theorem zAn_step (n q d : Nat) (hd : d < 256) : zAn (n + 1) (256 * q + d) = 256 * zAn n q + (d - ((d / 2) &&& 85)) := by
  unfold zAn
  have e : (256 * q + d) / 2 = 256 * (q / 2) + (128 * (q % 2) + d / 2) := by omega
  rw [e, show zM5 (n + 1) = 256 * zM5 n + 85 from rfl, zand256 (by omega) (by omega)]
  have h := zbyteA ⟨d, hd⟩ ⟨q % 2, by omega⟩
  simp only at h
  rw [h.1]
  have := zAn_le n q
  omega
theorem zBn_step (n q d : Nat) (hd : d < 256) : zBn (n + 1) (256 * q + d) = 256 * zBn n q + ((d &&& 51) + ((d / 4) &&& 51)) := by
  unfold zBn
  have e : (256 * q + d) / 4 = 256 * (q / 4) + (64 * (q % 4) + d / 4) := by omega
  rw [e, show zM3 (n + 1) = 256 * zM3 n + 51 from rfl, zand256 (by omega) (by omega), zand256 (by omega) (by omega)]
  have h := zbyteB ⟨d, hd⟩ ⟨q % 4, by omega⟩
  simp only at h
  rw [h]; omega
theorem zCn_step (n q d : Nat) (hd : d < 256) (h1 : d % 16 ≤ 4) (h2 : d / 16 ≤ 4) (hq : q % 16 ≤ 4) : zCn (n + 1) (256 * q + d) = 256 * zCn n q + (d % 16 + d / 16) := by
  unfold zCn
  have e : (256 * q + d) + (256 * q + d) / 16 = 256 * (q + q / 16) + (16 * (q % 16) + d + d / 16) := by omega
  rw [e, show zM0 (n + 1) = 256 * zM0 n + 15 from rfl, zand256 (by omega) (by omega)]
  have h := zbyteC ⟨d, hd⟩ ⟨q % 16, by omega⟩ h1 h2
  simp only at h
  rw [h]
def zG (n x : Nat) : Nat := zCn n (zBn n (zAn n x))
theorem zBA_mod (n q d : Nat) (hd : d < 256) : (zBn (n + 1) (zAn (n + 1) (256 * q + d))) % 256 < 256 ∧ (zBn (n + 1) (zAn (n + 1) (256 * q + d))) % 16 ≤ 4 := by
  have h := zbyteF ⟨d, hd⟩
  simp only at h
  rw [zAn_step n q d hd, zBn_step n _ _ h.2.1]
  omega
theorem zBA_16 (n x : Nat) : (zBn n (zAn n x)) % 16 ≤ 4 := by
  cases n with
  | zero => unfold zBn; simp [zM3]
  | succ n =>
    have := (zBA_mod n (x / 256) (x % 256) (Nat.mod_lt _ (by omega))).2
    rw [Nat.div_add_mod] at this
    exact this
theorem zG_step (n q d : Nat) (hd : d < 256) : zG (n + 1) (256 * q + d) = 256 * zG n q + zpc 8 d := by
  unfold zG
  have h := zbyteF ⟨d, hd⟩
  simp only at h
  rw [zAn_step n q d hd, zBn_step n _ _ h.2.1, zCn_step n _ _ h.1 h.2.2.1 h.2.2.2.1 (zBA_16 n q), h.2.2.2.2]
theorem zpc_split (a b x : Nat) : zpc (a + b) x = zpc a x + zpc b (x / 2 ^ a) := by
  induction a generalizing x with
  | zero => simp [zpc]
  | succ a ih =>
    rw [show a + 1 + b = (a + b) + 1 from by omega]
    show x % 2 + zpc (a + b) (x / 2) = x % 2 + zpc a (x / 2) + zpc b (x / 2 ^ (a + 1))
    rw [ih, Nat.div_div_eq_div_mul, show 2 * 2 ^ a = 2 ^ (a + 1) from by rw [Nat.pow_succ']]; omega
theorem zpc_mod (n x : Nat) : zpc n (x % 2 ^ n) = zpc n x := by
  induction n generalizing x with
  | zero => rfl
  | succ n ih =>
    show x % 2 ^ (n + 1) % 2 + zpc n (x % 2 ^ (n + 1) / 2) = x % 2 + zpc n (x / 2)
    have h1 : x % 2 ^ (n + 1) % 2 = x % 2 := Nat.mod_mod_of_dvd x ⟨2 ^ n, by rw [Nat.pow_succ']⟩
    have h2 : x % 2 ^ (n + 1) / 2 = (x / 2) % 2 ^ n := by rw [Nat.pow_succ', Nat.mod_mul_right_div_self]
    rw [h1, h2, ih]
theorem zpc_le (n x : Nat) : zpc n x ≤ n := by
  induction n generalizing x with
  | zero => exact Nat.le_refl 0
  | succ n ih => unfold zpc; have := ih (x / 2); omega
theorem zc_pc (n : Nat) (s : Int64) : zc n s = zpc n s.toBitVec.toNat := by
  induction n with
  | zero => rfl
  | succ n ih =>
    rw [zpc_split n 1, ← ih]
    show zc n s + (if zm s n then 1 else 0) = _
    congr 1
    unfold zm zpc zpc
    rw [BitVec.getLsbD, Nat.testBit_eq_decide_div_mod_eq]
    have : s.toBitVec.toNat / 2 ^ n % 2 = 0 ∨ s.toBitVec.toNat / 2 ^ n % 2 = 1 := by omega
    rcases this with h | h <;> simp [h]
theorem zG8 (x : Nat) : ∃ p0 p1 p2 p3 p4 p5 p6 p7, p0 ≤ 8 ∧ p1 ≤ 8 ∧ p2 ≤ 8 ∧ p3 ≤ 8 ∧ p4 ≤ 8 ∧ p5 ≤ 8 ∧ p6 ≤ 8 ∧ p7 ≤ 8 ∧ p0 + p1 + p2 + p3 + p4 + p5 + p6 + p7 = zpc 64 x ∧ zG 8 x = p0 + 256 * (p1 + 256 * (p2 + 256 * (p3 + 256 * (p4 + 256 * (p5 + 256 * (p6 + 256 * p7)))))) := by
  have st : ∀ n y, zG (n + 1) y = zpc 8 y + 256 * zG n (y / 256) := by
    intro n y
    have h := zG_step n (y / 256) (y % 256) (Nat.mod_lt _ (by omega))
    rw [Nat.div_add_mod] at h
    rw [h, show (256 : Nat) = 2 ^ 8 from rfl, zpc_mod]; omega
  refine ⟨zpc 8 x, zpc 8 (x / 256), zpc 8 (x / 256 / 256), zpc 8 (x / 256 / 256 / 256), zpc 8 (x / 256 / 256 / 256 / 256), zpc 8 (x / 256 / 256 / 256 / 256 / 256), zpc 8 (x / 256 / 256 / 256 / 256 / 256 / 256), zpc 8 (x / 256 / 256 / 256 / 256 / 256 / 256 / 256), zpc_le _ _, zpc_le _ _, zpc_le _ _, zpc_le _ _, zpc_le _ _, zpc_le _ _, zpc_le _ _, zpc_le _ _, ?_, ?_⟩
  · have sp : ∀ b y, zpc (8 + b) y = zpc 8 y + zpc b (y / 256) := fun b y => zpc_split 8 b y
    rw [show 64 = 8 + (8 + (8 + (8 + (8 + (8 + (8 + 8)))))) from rfl, sp, sp, sp, sp, sp, sp, sp]; omega
  · rw [st 7, st 6, st 5, st 4, st 3, st 2, st 1, st 0]
    have : zG 0 (x / 256 / 256 / 256 / 256 / 256 / 256 / 256 / 256) = 0 := by unfold zG zCn zM0; exact Nat.and_zero _
    rw [this]; omega
theorem ztn_ushr {a : Int64} {e : Nat} (he : e < 64) : (xUshr a (zi e)).toBitVec.toNat = a.toBitVec.toNat / 2 ^ e := by
  rw [zushr he]
  show (a.toBitVec >>> e).toNat = _
  rw [BitVec.toNat_ushiftRight, Nat.shiftRight_eq_div_pow]
theorem ztn_and {a b : Int64} : (a &&& b).toBitVec.toNat = a.toBitVec.toNat &&& b.toBitVec.toNat := by
  rw [Int64.toBitVec_and, BitVec.toNat_and]
theorem ztn_sub {a b : Int64} (h : b.toBitVec.toNat ≤ a.toBitVec.toNat) : (a - b).toBitVec.toNat = a.toBitVec.toNat - b.toBitVec.toNat := by
  rw [Int64.toBitVec_sub, BitVec.toNat_sub]
  have := b.toBitVec.isLt
  have := a.toBitVec.isLt
  omega
theorem ztn_add {a b : Int64} (h : a.toBitVec.toNat + b.toBitVec.toNat < 2 ^ 64) : (a + b).toBitVec.toNat = a.toBitVec.toNat + b.toBitVec.toNat := by
  rw [Int64.toBitVec_add, BitVec.toNat_add]
  exact Nat.mod_eq_of_lt h
def zL1 (a : Int64) : Int64 := a - ((xUshr a (1 : Int32)) &&& (6148914691236517205 : Int64))
def zL2 (a : Int64) : Int64 := (a &&& (3689348814741910323 : Int64)) + ((xUshr a (2 : Int32)) &&& (3689348814741910323 : Int64))
def zL3 (a : Int64) : Int64 := (a + xUshr a (4 : Int32)) &&& (1085102592571150095 : Int64)
def zL4 (k : Int32) (a : Int64) : Int64 := a + xUshr a k
theorem zL1_nat (a : Int64) : (zL1 a).toBitVec.toNat = zAn 8 a.toBitVec.toNat := by
  have e : ((xUshr a (1 : Int32)) &&& (6148914691236517205 : Int64)).toBitVec.toNat = (a.toBitVec.toNat / 2) &&& zM5 8 := by
    rw [ztn_and]
    have := ztn_ushr (a := a) (e := 1) (by omega)
    rw [show (1 : Int32) = zi 1 from rfl, this]; rfl
  unfold zL1
  rw [ztn_sub (by rw [e]; exact zAn_le 8 _), e]; rfl
theorem zL2_nat (a : Int64) (h : zBn 8 a.toBitVec.toNat < 2 ^ 64) : (zL2 a).toBitVec.toNat = zBn 8 a.toBitVec.toNat := by
  have e : ((xUshr a (2 : Int32)) &&& (3689348814741910323 : Int64)).toBitVec.toNat = (a.toBitVec.toNat / 4) &&& zM3 8 := by
    rw [ztn_and]
    have := ztn_ushr (a := a) (e := 2) (by omega)
    rw [show (2 : Int32) = zi 2 from rfl, this]; rfl
  have e2 : (a &&& (3689348814741910323 : Int64)).toBitVec.toNat = a.toBitVec.toNat &&& zM3 8 := by rw [ztn_and]; rfl
  unfold zL2
  rw [ztn_add (by rw [e, e2]; exact h), e, e2]; rfl
theorem zBn_small : ∀ x, zBn 8 x < 2 ^ 63 := by
  intro x
  unfold zBn
  have h1 : x &&& zM3 8 ≤ zM3 8 := Nat.and_le_right
  have h2 : (x / 4) &&& zM3 8 ≤ zM3 8 := Nat.and_le_right
  have h3 : zM3 8 = 3689348814741910323 := by decide
  omega
theorem zL3_nat (a : Int64) (h : a.toBitVec.toNat < 2 ^ 63) : (zL3 a).toBitVec.toNat = zCn 8 a.toBitVec.toNat := by
  have e : (xUshr a (4 : Int32)).toBitVec.toNat = a.toBitVec.toNat / 16 := ztn_ushr (a := a) (e := 4) (by omega)
  unfold zL3
  rw [ztn_and, ztn_add (by rw [e]; omega), e]; rfl
theorem zsum8 (p0 p1 p2 p3 p4 p5 p6 p7 M : Nat) (hM : M ≤ 64) (h0 : p0 ≤ M) (h1 : p1 ≤ M) (h2 : p2 ≤ M) (h3 : p3 ≤ M) (h4 : p4 ≤ M) (h5 : p5 ≤ M) (h6 : p6 ≤ M) (h7 : p7 ≤ M) :
    p0 + 256 * (p1 + 256 * (p2 + 256 * (p3 + 256 * (p4 + 256 * (p5 + 256 * (p6 + 256 * p7)))))) < 2 ^ 63 := by
  have t7 : p7 < 128 := by omega
  have t6 : p6 + 256 * p7 < 128 * 256 := by omega
  generalize p6 + 256 * p7 = q at t6 ⊢
  have t5 : p5 + 256 * q < 128 * 65536 := by omega
  generalize p5 + 256 * q = q at t5 ⊢
  have t5 : p4 + 256 * q < 128 * 16777216 := by omega
  generalize p4 + 256 * q = q at t5 ⊢
  have t5 : p3 + 256 * q < 128 * 4294967296 := by omega
  generalize p3 + 256 * q = q at t5 ⊢
  have t5 : p2 + 256 * q < 128 * 1099511627776 := by omega
  generalize p2 + 256 * q = q at t5 ⊢
  omega
theorem zf2 (q0 q1 T y : Nat) (h : y = q0 + 256 * (q1 + 256 * T)) (h0 : q0 ≤ 64) (h1 : q1 ≤ 64) : y / 65536 = T := by omega
theorem zf3 (q0 q1 q2 q3 T y : Nat) (h : y = q0 + 256 * (q1 + 256 * (q2 + 256 * (q3 + 256 * T)))) (h0 : q0 ≤ 64) (h1 : q1 ≤ 64) (h2 : q2 ≤ 64) (h3 : q3 ≤ 64) : y / 4294967296 = T := by omega
theorem zf4 (a b T U : Nat) (h : a + b ≤ 64) : ((a + 256 * T) + (b + 256 * U)) % 128 = a + b := by omega
theorem zf5 (q0 q1 q2 q3 q4 T y : Nat) (h : y = q0 + 256 * (q1 + 256 * (q2 + 256 * (q3 + 256 * (q4 + 256 * T))))) (h0 : q0 ≤ 32) (h1 : q1 ≤ 64) (h2 : q2 ≤ 64) (h3 : q3 ≤ 64) (h4 : q4 ≤ 32) : (y + y / 4294967296) % 128 = q0 + q4 := by
  rw [zf3 q0 q1 q2 q3 _ y h (by omega) h1 h2 h3, h]
  exact zf4 q0 q4 _ _ (by omega)
theorem z_bitCount (s : Int64) : m_Long_bitCount s = some (zi (zc 64 s)) := by
  have h0 : m_Long_bitCount s = some (((zL4 32 (zL4 16 (zL4 8 (zL3 (zL2 (zL1 s)))))).toInt32) &&& (127 : Int32)) := by
    unfold m_Long_bitCount zL4 zL3 zL2 zL1
    with_reducible rfl
  rw [h0, zc_pc]
  refine congrArg some ?_
  have e1 := zL1_nat s
  have e2 := zL2_nat (zL1 s) (by have := zBn_small (zL1 s).toBitVec.toNat; omega)
  have e3 := zL3_nat (zL2 (zL1 s)) (by rw [e2]; exact zBn_small _)
  rw [e2, e1] at e3
  obtain ⟨p0, p1, p2, p3, p4, p5, p6, p7, h0, h1, h2, h3, h4, h5, h6, h7, hs, hg⟩ := zG8 s.toBitVec.toNat
  have e3 : (zL3 (zL2 (zL1 s))).toBitVec.toNat = _ := e3.trans hg
  rw [← hs]
  clear hs hg e1 e2
  generalize zL3 (zL2 (zL1 s)) = y at e3
  have f1 : (zL4 8 y).toBitVec.toNat = (p0 + p1) + 256 * ((p1 + p2) + 256 * ((p2 + p3) + 256 * ((p3 + p4) + 256 * ((p4 + p5) + 256 * ((p5 + p6) + 256 * ((p6 + p7) + 256 * p7)))))) := by
    have e : (xUshr y (8 : Int32)).toBitVec.toNat = y.toBitVec.toNat / 256 := ztn_ushr (a := y) (e := 8) (by omega)
    have b := zsum8 p0 p1 p2 p3 p4 p5 p6 p7 8 (by omega) h0 h1 h2 h3 h4 h5 h6 h7
    have e4 : y.toBitVec.toNat / 256 = (p1 + 256 * (p2 + 256 * (p3 + 256 * (p4 + 256 * (p5 + 256 * (p6 + 256 * p7)))))) := by omega
    unfold zL4
    rw [ztn_add (by rw [e]; omega), e, e4, e3]; clear e4 e3 e b; omega
  generalize zL4 8 y = y1 at f1
  clear e3
  have f2 : (zL4 16 y1).toBitVec.toNat = (p0 + p1 + (p2 + p3)) + 256 * ((p1 + p2 + (p3 + p4)) + 256 * ((p2 + p3 + (p4 + p5)) + 256 * ((p3 + p4 + (p5 + p6)) + 256 * ((p4 + p5 + (p6 + p7)) + 256 * ((p5 + p6 + p7) + 256 * ((p6 + p7) + 256 * p7)))))) := by
    have e : (xUshr y1 (16 : Int32)).toBitVec.toNat = y1.toBitVec.toNat / 65536 := ztn_ushr (a := y1) (e := 16) (by omega)
    have b := zsum8 (p0 + p1) (p1 + p2) (p2 + p3) (p3 + p4) (p4 + p5) (p5 + p6) (p6 + p7) p7 16 (by clear f1; omega) (by clear f1; omega) (by clear f1; omega) (by clear f1; omega) (by clear f1; omega) (by clear f1; omega) (by clear f1; omega) (by clear f1; omega) (by clear f1; omega) 
    have e4 := zf2 (p0 + p1) (p1 + p2) _ _ f1 (by omega) (by omega)
    unfold zL4
    rw [ztn_add (by rw [e]; omega), e, e4, f1]; clear e4 f1 e b; omega
  generalize zL4 16 y1 = y2 at f2
  clear f1
  have f3 : (zL4 32 y2).toBitVec.toNat % 128 = p0 + p1 + p2 + p3 + p4 + p5 + p6 + p7 := by
    have e : (xUshr y2 (32 : Int32)).toBitVec.toNat = y2.toBitVec.toNat / 4294967296 := ztn_ushr (a := y2) (e := 32) (by omega)
    have b := zsum8 (p0 + p1 + (p2 + p3)) (p1 + p2 + (p3 + p4)) (p2 + p3 + (p4 + p5)) (p3 + p4 + (p5 + p6)) (p4 + p5 + (p6 + p7)) (p5 + p6 + p7) (p6 + p7) p7 32 (by clear f2; omega) (by clear f2; omega) (by clear f2; omega) (by clear f2; omega) (by clear f2; omega) (by clear f2; omega) (by clear f2; omega) (by clear f2; omega) (by clear f2; omega) 
    rw [← f2] at b
    have e4 := zf5 (p0 + p1 + (p2 + p3)) (p1 + p2 + (p3 + p4)) (p2 + p3 + (p4 + p5)) (p3 + p4 + (p5 + p6)) (p4 + p5 + (p6 + p7)) _ _ f2 (by clear f2 b; omega) (by clear f2 b; omega) (by clear f2 b; omega) (by clear f2 b; omega) (by clear f2 b; omega)
    unfold zL4
    rw [ztn_add (by rw [e]; clear f2 e4; omega), e, e4]; clear e4 f2 e b; omega
  generalize zL4 32 y2 = y3 at f3
  clear f2
  apply Int32.toBitVec_inj.mp
  apply BitVec.eq_of_toNat_eq
  rw [Int32.toBitVec_and, BitVec.toNat_and, Int64.toBitVec_toInt32, BitVec.signExtend_eq_setWidth_of_le _ (by decide), BitVec.toNat_setWidth]
  rw [show (127 : Int32).toBitVec.toNat = 2 ^ 7 - 1 from rfl, Nat.and_two_pow_sub_one_eq_mod]
  show _ = (BitVec.ofNat 32 _).toNat
  rw [BitVec.toNat_ofNat]
  omega
