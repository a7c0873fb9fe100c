theorem ft_and255 (x : Int64) : ∃ j : Nat, j < 256 ∧ (x &&& lN 255).toInt32 = nI j := by
  refine ⟨x.toBitVec.toNat % 256, Nat.mod_lt _ (by decide), ?_⟩
  apply Int32.toBitVec_inj.mp
  apply BitVec.eq_of_toNat_eq
  rw [Int64.toBitVec_toInt32, Int64.toBitVec_and]
  show (BitVec.signExtend 32 (x.toBitVec &&& BitVec.ofNat 64 255)).toNat = (BitVec.ofNat 32 (x.toBitVec.toNat % 256)).toNat
  rw [BitVec.signExtend_eq_setWidth_of_le _ (by decide)]
  simp only [BitVec.toNat_setWidth, BitVec.toNat_and, BitVec.toNat_ofNat]
  rw [show (255 : Nat) % 2 ^ 64 = 2 ^ 8 - 1 from rfl, Nat.and_two_pow_sub_one_eq_mod]
/-- a comparison that fell, of two numbers -/
theorem ft_nle {a b : Nat} (ha : a < 2 ^ 31) (hb : b < 2 ^ 31) (h : ¬ nI b ≤ nI a) : a < b := Nat.not_le.mp (fun z => h ((nI_leI hb ha).mpr z))
theorem ft_le {a b : Nat} (ha : a < 2 ^ 31) (hb : b < 2 ^ 31) (h : nI a ≤ nI b) : a ≤ b := (nI_leI ha hb).mp h
theorem ft_lt {a b : Nat} (ha : a < 2 ^ 31) (hb : b < 2 ^ 31) (h : nI a < nI b) : a < b := (nI_ltI ha hb).mp h
theorem ft_nlt {a b : Nat} (ha : a < 2 ^ 31) (hb : b < 2 ^ 31) (h : ¬ nI a < nI b) : b ≤ a := Nat.not_lt.mp (fun z => h ((nI_ltI ha hb).mpr z))
theorem ft_eq {a b : Nat} (ha : a < 2 ^ 31) (hb : b < 2 ^ 31) (h : nI a = nI b) : a = b := (nI_eq ha hb).mp h
theorem ft_neq {a b : Nat} (_ : a < 2 ^ 31) (_ : b < 2 ^ 31) (h : ¬ nI a = nI b) : a ≠ b := fun z => h (by rw [z])
theorem ft_nneq {a b : Nat} (ha : a < 2 ^ 31) (hb : b < 2 ^ 31) (h : ¬ ¬ nI a = nI b) : a = b := (nI_eq ha hb).mp (Classical.not_not.mp h)
theorem ft_eq0 {a : Nat} (ha : a < 2 ^ 31) (h : nI a = 0) : a = 0 := (nI_eq ha (by decide)).mp (by rw [h, nI_0])
theorem ft_ne0 {a : Nat} (h : ¬ nI a = 0) : a ≠ 0 := fun z => h (by rw [z, nI_0])
theorem ft_rng {x : Int32} {a b : Nat} (h1 : lN a ≤ x.toInt64) (h2 : x.toInt64 ≤ lN b) (ha : a < 2 ^ 31) (hb : b < 2 ^ 31) : ∃ e : Nat, a ≤ e ∧ e ≤ b ∧ x = nI e := by
  have q1 := Int64.le_iff_toInt_le.mp h1
  have q2 := Int64.le_iff_toInt_le.mp h2
  rw [Int32.toInt_toInt64] at q1 q2
  rw [lN_toInt ha] at q1
  rw [lN_toInt hb] at q2
  refine ⟨x.toInt.toNat, by omega, by omega, ?_⟩
  apply Int32.toInt_inj.mp
  rw [nI_toInt (by omega)]
  omega
theorem ft_rngm {x : Int32} {w : Nat} (h1 : lN 0 ≤ x.toInt64) (h2 : x.toInt64 ≤ (nI w - nI 1).toInt64) (hw : w < 2 ^ 30) : ∃ e : Nat, e < w ∧ x = nI e := by
  have q1 := Int64.le_iff_toInt_le.mp h1
  have q2 := Int64.le_iff_toInt_le.mp h2
  rw [Int32.toInt_toInt64] at q1 q2
  rw [lN_toInt (by decide)] at q1
  rw [Int32.toInt_toInt64, pk_sub_toInt hw (by decide)] at q2
  refine ⟨x.toInt.toNat, by omega, ?_⟩
  apply Int32.toInt_inj.mp
  rw [nI_toInt (by omega)]
  omega
theorem ft_dec {a c : Nat} (h : c + 1 ≤ a) : nI a + Int32.ofInt (Int.negSucc c) = nI (a - (c + 1)) := by
  rw [← ft_k32 a, ← Int32.ofInt_add, ← ft_k32 (a - (c + 1))]
  have e : Int.ofNat a + Int.negSucc c = Int.ofNat (a - (c + 1)) := by
    rw [Int.negSucc_eq]
    simp only [Int.ofNat_eq_natCast]
    omega
  rw [e]
theorem ft_le0 {a : Nat} (ha : a < 2 ^ 31) (h : nI a ≤ 0) : a = 0 := by
  have q := ft_le ha (b := 0) (by decide) (by rw [nI_0]; exact h)
  omega
theorem ft_gt0 {a : Nat} (h : 0 < nI a) : 0 < a := by
  rcases Nat.eq_zero_or_pos a with q | q
  · subst q; rw [nI_0] at h; exact absurd h (by decide)
  · exact q
