def zi (k : Nat) : Int32 := Int32.ofNat k
theorem zi_toInt {a : Nat} (h : a < 2147483648) : (zi a).toInt = a := Int32.toInt_ofNat_of_lt h
theorem zi_nat {a : Nat} (h : a < 2147483648) : (zi a).toNatClampNeg = a := Int32.toNatClampNeg_ofNat_of_lt h
theorem zle {a b : Nat} (ha : a < 2147483648) (hb : b < 2147483648) : zi a ≤ zi b ↔ a ≤ b := by
  rw [Int32.le_iff_toInt_le, zi_toInt ha, zi_toInt hb]; omega
theorem zlt {a b : Nat} (ha : a < 2147483648) (hb : b < 2147483648) : zi a < zi b ↔ a < b := by
  rw [Int32.lt_iff_toInt_lt, zi_toInt ha, zi_toInt hb]; omega
theorem zeq {a b : Nat} (ha : a < 2147483648) (hb : b < 2147483648) : zi a = zi b ↔ a = b := by
  rw [← Int32.toInt_inj, zi_toInt ha, zi_toInt hb]; omega
theorem zadd (a b : Nat) : zi a + zi b = zi (a + b) := (Int32.ofNat_add a b).symm
theorem zsucc (a : Nat) : zi a + (1 : Int32) = zi (a + 1) := (Int32.ofNat_add a 1).symm
theorem zsub {a b : Nat} (h : b ≤ a) : zi a - zi b = zi (a - b) := (Int32.ofNat_sub a b h).symm
theorem zpred (a : Nat) : zi (a + 1) - (1 : Int32) = zi a := (Int32.ofNat_sub (a + 1) 1 (by omega)).symm
theorem zmul (a b : Nat) : zi a * zi b = zi (a * b) := (Int32.ofNat_mul a b).symm
theorem znn {a : Nat} (h : a < 2147483648) : ¬ zi a < 0 := by
  rw [Int32.lt_iff_toInt_lt, zi_toInt h]
  exact fun q => absurd (show ((a : Int) < 0) from q) (by omega)
theorem zge0 {a : Nat} (h : a < 2147483648) : (0 : Int32) ≤ zi a := by
  rw [Int32.le_iff_toInt_le, zi_toInt h]
  exact (show ((0 : Int) ≤ a) from by omega)
theorem zin {a n : Nat} (h : a < n) (hn : n ≤ 2147483648) : xin (zi a) n := by
  intro q
  rcases q with q | q
  · exact znn (by omega) q
  · rw [zi_nat (by omega)] at q; omega
theorem z_of_nn {x : Int32} (h : ¬ x < 0) : ∃ k, k < 2147483648 ∧ x = zi k := by
  refine ⟨x.toNatClampNeg, ?_, ?_⟩
  · have := Int32.toInt_lt x
    have h2 : x.toNatClampNeg = x.toInt.toNat := rfl
    omega
  · have h0 : (0 : Int32) ≤ x := by
      rw [Int32.lt_iff_toInt_lt] at h
      rw [Int32.le_iff_toInt_le]
      omega
    exact (Int32.ofNat_toNatClampNeg x h0).symm
theorem zm1_lt : (-1 : Int32) < 0 := by decide
theorem zne_m1 {a : Nat} (h : a < 2147483648) : ¬ zi a = (-1 : Int32) := fun q => by
  have := znn h
  rw [q] at this
  exact this zm1_lt
theorem zne_m1' {a : Nat} (h : a < 2147483648) : ¬ (-1 : Int32) = zi a := fun q => zne_m1 h q.symm
theorem zg {β : Type} {c : Prop} [Decidable c] {k : Option β} (h : c) : xg c k = k := if_pos h
theorem zb1 {α β : Type} {o : Option α} {k : α → Option β} {a : α} (h : o = some a) : xb1 o k = k a := by subst h; rfl
theorem zb2 {α β : Type} {o : Option (α × xS)} {k : α → xS → Option β} {a : α} {u : xS} (h : o = some (a, u)) : xb2 o k = k a u := by subst h; rfl
def zm (s : Int64) (e : Nat) : Bool := s.toBitVec.getLsbD e
theorem zm_and {a b : Int64} {e : Nat} : zm (a &&& b) e ↔ zm a e ∧ zm b e := by
  unfold zm; rw [Int64.toBitVec_and, BitVec.getLsbD_and, Bool.and_eq_true]
theorem zm_or {a b : Int64} {e : Nat} : zm (a ||| b) e ↔ zm a e ∨ zm b e := by
  unfold zm; rw [Int64.toBitVec_or, BitVec.getLsbD_or, Bool.or_eq_true]
theorem zm_xor {a b : Int64} {e : Nat} : zm (a ^^^ b) e ↔ ¬ (zm a e ↔ zm b e) := by
  unfold zm; rw [Int64.toBitVec_xor, BitVec.getLsbD_xor]
  cases a.toBitVec.getLsbD e <;> cases b.toBitVec.getLsbD e <;> decide
theorem zm_lt {a : Int64} {e : Nat} (h : zm a e) : e < 64 := BitVec.lt_of_getLsbD h
theorem zm_not {a : Int64} {e : Nat} : zm (a ^^^ (-1 : Int64)) e ↔ e < 64 ∧ ¬ zm a e := by
  unfold zm
  rw [Int64.toBitVec_xor, BitVec.getLsbD_xor]
  have : (-1 : Int64).toBitVec = BitVec.allOnes 64 := by decide
  rw [this, BitVec.getLsbD_allOnes]
  by_cases h : e < 64
  · simp [h]
  · have : a.toBitVec.getLsbD e = false := BitVec.getLsbD_of_ge _ _ (by omega)
    simp [h, this]
theorem zm_diff {a b : Int64} {e : Nat} : zm (a &&& (b ^^^ (-1 : Int64))) e ↔ zm a e ∧ ¬ zm b e := by
  rw [zm_and, zm_not]
  exact ⟨fun h => ⟨h.1, h.2.2⟩, fun h => ⟨h.1, zm_lt h.1, h.2⟩⟩
theorem zm_zero {e : Nat} : ¬ zm 0 e := by
  unfold zm
  have : (0 : Int64).toBitVec = 0#64 := rfl
  rw [this, BitVec.getLsbD_zero]
  exact Bool.false_ne_true
theorem zm_ext {a b : Int64} (h : ∀ e, zm a e ↔ zm b e) : a = b := by
  rw [← Int64.toBitVec_inj]
  apply BitVec.eq_of_getLsbD_eq
  intro i _
  exact Bool.eq_iff_iff.mpr (h i)
theorem zm_ne0 {a : Int64} : a ≠ 0 ↔ ∃ e, zm a e := by
  constructor
  · intro h
    by_cases hq : ∃ e, zm a e
    · exact hq
    · exact absurd (zm_ext fun e => ⟨fun q => absurd ⟨e, q⟩ hq, fun q => absurd q zm_zero⟩) h
  · intro ⟨e, he⟩ h
    rw [h] at he
    exact zm_zero he
theorem zm_eq0 {a : Int64} : a = 0 ↔ ∀ e, ¬ zm a e := by
  constructor
  · intro h e he; rw [h] at he; exact zm_zero he
  · intro h; exact zm_ext fun e => ⟨fun q => absurd q (h e), fun q => absurd q zm_zero⟩
def zbit (e : Nat) : Int64 := xShl 1 (zi e)
theorem zshamt {e : Nat} (he : e < 64) : ((zi e).toInt64 &&& 63 : Int64) = Int64.ofNat e := by
  have h : ∀ e : Fin 64, ((zi e.val).toInt64 &&& 63 : Int64) = Int64.ofNat e.val := by decide +kernel
  exact h ⟨e, he⟩
theorem zbit_bv {e : Nat} (he : e < 64) : (zbit e).toBitVec = 1#64 <<< e := by
  have h : ∀ e : Fin 64, (zbit e.val).toBitVec = 1#64 <<< e.val := by decide +kernel
  exact h ⟨e, he⟩
theorem zm_bit {e x : Nat} (he : e < 64) : zm (zbit e) x ↔ x = e := by
  unfold zm
  rw [zbit_bv he, BitVec.getLsbD_shiftLeft]
  by_cases hx : x < 64
  · simp [hx]
    constructor
    · intro h; omega
    · intro h; subst h; simp
  · simp [hx]; omega
theorem z_bit (e : Nat) : m_Text_bit (zi e) = some (zbit e) := rfl
theorem z_one (e : Nat) : m_Model_one (zi e) = some (zbit e) := rfl
theorem zand_bit {a : Int64} {e : Nat} (he : e < 64) : (a &&& zbit e = 0) ↔ ¬ zm a e := by
  rw [zm_eq0]
  constructor
  · intro h q; exact h e (zm_and.mpr ⟨q, (zm_bit he).mpr rfl⟩)
  · intro h x q
    have := zm_and.mp q
    rw [zm_bit he] at this
    exact h (this.2 ▸ this.1)
def zb (c : Prop) [Decidable c] : Int32 := if c then 1 else 0
theorem zb_eq0 {c : Prop} [Decidable c] : zb c = 0 ↔ ¬ c := by
  unfold zb
  by_cases h : c
  · simp [h]
  · simp [h]
theorem zb_pos {c : Prop} [Decidable c] (h : c) : zb c = 1 := if_pos h
theorem zb_neg {c : Prop} [Decidable c] (h : ¬ c) : zb c = 0 := if_neg h
theorem zb_iff {c d : Prop} [Decidable c] [Decidable d] (h : c ↔ d) : zb c = zb d := by
  unfold zb
  by_cases hc : c
  · rw [if_pos hc, if_pos (h.mp hc)]
  · rw [if_neg hc, if_neg (fun q => hc (h.mpr q))]
theorem zb01 {c : Prop} [Decidable c] : zb c = 0 ∨ zb c = 1 := by
  unfold zb
  by_cases h : c
  · exact Or.inr (if_pos h)
  · exact Or.inl (if_neg h)
theorem z_has {a : Int64} {e : Nat} (he : e < 64) : m_Text_has a (zi e) = some (zb (zm a e)) := by
  unfold m_Text_has
  rw [if_neg (znn (by omega)), zb1 (z_bit e)]
  by_cases h : zm a e
  · rw [if_neg (fun q => (zand_bit he).mp q h), zb_pos h]
  · rw [if_pos ((zand_bit he).mpr h), zb_neg h]
theorem z_has_neg {a : Int64} {x : Int32} (h : x < 0) : m_Text_has a x = some 0 := by
  unfold m_Text_has
  rw [if_pos h]
theorem zushr {a : Int64} {e : Nat} (he : e < 64) : xUshr a (zi e) = ⟨⟨a.toBitVec >>> e⟩⟩ := by
  have h : ∀ e : Fin 64, ((zi e.val).toInt64.toUInt64 &&& Int64.toUInt64 63) = UInt64.ofNat e.val := by decide +kernel
  have h1 := h ⟨e, he⟩
  unfold xUshr
  simp only at h1
  rw [h1]
  apply Int64.toBitVec_inj.mp
  have h2 : (UInt64.ofNat e).toBitVec = BitVec.ofNat 64 e := rfl
  show (a.toUInt64 >>> UInt64.ofNat e).toBitVec = _
  rw [UInt64.toBitVec_shiftRight]
  show a.toBitVec >>> ((BitVec.ofNat 64 e) % 64) = a.toBitVec >>> e
  rw [BitVec.ushiftRight_eq']
  congr 1
  simp
  omega
theorem zm_ushr {a : Int64} {e x : Nat} (he : e < 64) : zm (xUshr a (zi e)) x ↔ zm a (e + x) := by
  unfold zm
  rw [zushr he]
  show (a.toBitVec >>> e).getLsbD x = true ↔ _
  rw [BitVec.getLsbD_ushiftRight]
theorem zone_mem {x : Nat} : zm 1 x ↔ x = 0 := by
  have : (1 : Int64) = zbit 0 := by decide
  rw [this]; exact zm_bit (by omega)
theorem z_in {a : Int64} {e : Nat} (he : e < 64) : m_Model_in a (zi e) = some (zb (zm a e)) := by
  unfold m_Model_in
  have : (xUshr a (zi e) &&& 1 = 0) ↔ ¬ zm a e := by
    rw [zm_eq0]
    constructor
    · intro h q
      exact h 0 (zm_and.mpr ⟨(zm_ushr he).mpr q, zone_mem.mpr rfl⟩)
    · intro h x q
      have q := zm_and.mp q
      rw [zone_mem] at q
      rw [zm_ushr he, q.2] at q
      exact h q.1
  by_cases h : zm a e
  · rw [if_neg (fun q => this.mp q h), zb_pos h]
  · rw [if_pos (this.mpr h), zb_neg h]
