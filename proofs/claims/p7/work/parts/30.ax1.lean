/-! exact runs: values that are known, or named; trees of the core's own kind stand for terms: a leaf (0, n) is an int, (1, n) a long, (2, o) a cell, (3, k) a static row, (5, _) the script, (6, k) a named int, (7, k) a named long, else null; a branch is an operation (12, 13 and 26: of the left one alone) -/
abbrev AE : Type := Lean.RArray (Nat × Nat)
abbrev kI (n : Nat) : AE := .leaf (0, n)
abbrev kL (n : Nat) : AE := .leaf (1, n)
abbrev kR (o : Nat) : AE := .leaf (2, o)
abbrev kS (k : Nat) : AE := .leaf (3, k)
abbrev kZ : AE := .leaf (4, 0)
abbrev kQ : AE := .leaf (5, 0)
abbrev kV (k : Nat) : AE := .leaf (6, k)
abbrev kW (k : Nat) : AE := .leaf (7, k)
abbrev kO (o : Nat) (a b : AE) : AE := .branch o a b
abbrev kU (o : Nat) (a : AE) : AE := .branch o a kZ
def aI : AE → Bool
  | .leaf (t, _) => Nat.beq t 0 || Nat.beq t 6
  | .branch o _ _ => Nat.blt o 20
def aL : AE → Bool
  | .leaf (t, _) => Nat.beq t 1 || Nat.beq t 7
  | .branch o _ _ => !Nat.blt o 20
def aR : AE → Bool
  | .leaf (t, _) => !((Nat.beq t 0 || Nat.beq t 6) || (Nat.beq t 1 || Nat.beq t 7))
  | .branch _ _ _ => false
def aB : AE → AE → Bool
  | .leaf (t, n), .leaf (s, m) => Nat.beq t s && Nat.beq n m
  | .branch o a b, .branch p c d => Nat.beq o p && (aB a c && aB b d)
  | _, _ => false
theorem aB_ok : ∀ {a b : AE}, aB a b = true → a = b
  | .leaf (t, n), .leaf (s, m), h => by
    simp only [aB, Bool.and_eq_true] at h
    rw [Nat.eq_of_beq_eq_true h.1, Nat.eq_of_beq_eq_true h.2]
  | .branch o a b, .branch p c d, h => by
    simp only [aB, Bool.and_eq_true] at h
    rw [Nat.eq_of_beq_eq_true h.1, aB_ok h.2.1, aB_ok h.2.2]
  | .leaf _, .branch _ _ _, h => by cases h
  | .branch _ _ _, .leaf _, h => by cases h
/-- what the operations do; below 20 they make an int, from 20 on a long -/
def opP (o : Nat) (a b : Int32 × Int64) : Int32 × Int64 := match o with
  | 0 => (a.1 + b.1, 0)
  | 1 => (a.1 - b.1, 0)
  | 2 => (a.1 * b.1, 0)
  | 3 => (a.1 &&& b.1, 0)
  | 4 => (a.1 ||| b.1, 0)
  | 5 => (a.1 ^^^ b.1, 0)
  | 6 => (a.1 <<< (b.1 &&& 31), 0)
  | 7 => (a.1 >>> (b.1 &&& 31), 0)
  | 8 => (a.1 / b.1, 0)
  | 9 => (a.1 - a.1 / b.1 * b.1, 0)
  | 10 => (lg_cmp a.2 b.2, 0)
  | 11 => (if a.1 = b.1 then nI 1 else nI 0, 0)
  | 20 => (0, a.2 + b.2)
  | 21 => (0, a.2 - b.2)
  | 22 => (0, a.2 &&& b.2)
  | 23 => (0, a.2 ||| b.2)
  | 24 => (0, a.2 <<< (b.1.toInt64 &&& 63))
  | 25 => (0, a.2 >>> (b.1.toInt64 &&& 63))
  | 12 => (a.2.toInt32, 0)
  | 13 => (a.1.toInt8.toInt32, 0)
  | 26 => (0, a.1.toInt64)
  | _ => (0, 0)
def eP (ρ : Nat → Int32) (σ : Nat → Int64) : AE → Int32 × Int64
  | .leaf (0, n) => (nI n, 0)
  | .leaf (1, n) => (0, lN n)
  | .leaf (6, k) => (ρ k, 0)
  | .leaf (7, k) => (0, σ k)
  | .leaf _ => (0, 0)
  | .branch o a b => opP o (eP ρ σ a) (eP ρ σ b)
/-- known values are reckoned at once -/
def mkop (o : Nat) (a b : AE) : AE := match a, b with
  | .leaf (0, n), .leaf (0, m) => (match o with
    | 0 => kI ((n + m) % 4294967296)
    | 1 => kI ((n + (4294967296 - m % 4294967296)) % 4294967296)
    | 2 => kI ((n * m) % 4294967296)
    | 3 => kI (Nat.land (n % 4294967296) (m % 4294967296))
    | 9 => bif Nat.blt n 2147483648 && Nat.blt m 2147483648 then kI (n % m) else kO 9 (kI n) (kI m)
    | o => kO o (kI n) (kI m))
  | .leaf (1, n), .leaf (1, m) => (match o with
    | 10 => bif Nat.blt n 9223372036854775808 && Nat.blt m 9223372036854775808 then (bif Nat.blt m n then kI 1 else bif Nat.beq n m then kI 0 else kI 4294967295) else kO 10 (kL n) (kL m)
    | 22 => kL (Nat.land (n % 18446744073709551616) (m % 18446744073709551616))
    | o => kO o (kL n) (kL m))
  | a, b => kO o a b
def mkun (o : Nat) (a : AE) : AE := match a, o with
  | .leaf (0, n), 26 => bif Nat.blt n 2147483648 then kL n else kU 26 (kI n)
  | .leaf (0, n), 13 => bif Nat.blt n 128 then kI n else kU 13 (kI n)
  | a, o => kU o a
theorem nI_mod (n : Nat) : nI (n % 4294967296) = nI n := by
  apply Int32.toBitVec_inj.mp
  show BitVec.ofNat 32 _ = BitVec.ofNat 32 _
  apply BitVec.eq_of_toNat_eq
  simp
theorem lN_mod (n : Nat) : lN (n % 18446744073709551616) = lN n := by
  apply Int64.toBitVec_inj.mp
  show BitVec.ofNat 64 _ = BitVec.ofNat 64 _
  apply BitVec.eq_of_toNat_eq
  simp
theorem nI_addE (n m : Nat) : nI n + nI m = nI (n + m) := by
  apply Int32.toBitVec_inj.mp
  show BitVec.ofNat 32 n + BitVec.ofNat 32 m = BitVec.ofNat 32 _
  apply BitVec.eq_of_toNat_eq
  simp
theorem nI_mulE (n m : Nat) : nI n * nI m = nI (n * m) := by
  apply Int32.toBitVec_inj.mp
  show BitVec.ofNat 32 n * BitVec.ofNat 32 m = BitVec.ofNat 32 _
  apply BitVec.eq_of_toNat_eq
  simp [Nat.mul_mod]
theorem nI_subE (n m : Nat) : nI n - nI m = nI (n + (4294967296 - m % 4294967296)) := by
  apply Int32.toBitVec_inj.mp
  show BitVec.ofNat 32 n - BitVec.ofNat 32 m = BitVec.ofNat 32 _
  apply BitVec.eq_of_toNat_eq
  simp only [BitVec.toNat_sub, BitVec.toNat_ofNat]
  omega
theorem nI_andE (n m : Nat) : nI n &&& nI m = nI (Nat.land (n % 4294967296) (m % 4294967296)) := by
  apply Int32.toBitVec_inj.mp
  show BitVec.ofNat 32 n &&& BitVec.ofNat 32 m = BitVec.ofNat 32 _
  apply BitVec.eq_of_toNat_eq
  simp only [BitVec.toNat_and, BitVec.toNat_ofNat]
  show (n % 2 ^ 32) &&& (m % 2 ^ 32) = ((n % 2 ^ 32) &&& (m % 2 ^ 32)) % 2 ^ 32
  rw [Nat.mod_eq_of_lt (Nat.and_lt_two_pow _ (Nat.mod_lt _ (by decide)))]
theorem lN_andE (n m : Nat) : lN n &&& lN m = lN (Nat.land (n % 18446744073709551616) (m % 18446744073709551616)) := by
  apply Int64.toBitVec_inj.mp
  show BitVec.ofNat 64 n &&& BitVec.ofNat 64 m = BitVec.ofNat 64 _
  apply BitVec.eq_of_toNat_eq
  simp only [BitVec.toNat_and, BitVec.toNat_ofNat]
  show (n % 2 ^ 64) &&& (m % 2 ^ 64) = ((n % 2 ^ 64) &&& (m % 2 ^ 64)) % 2 ^ 64
  rw [Nat.mod_eq_of_lt (Nat.and_lt_two_pow _ (Nat.mod_lt _ (by decide)))]
theorem nI_tI {n : Nat} (h : n < 2147483648) : (nI n).toInt = (n : Int) := by
  show (BitVec.ofNat 32 n).toInt = _
  rw [BitVec.toInt_eq_toNat_of_lt (by simp; omega)]
  simp; omega
theorem lN_tI {n : Nat} (h : n < 9223372036854775808) : (lN n).toInt = (n : Int) := by
  show (BitVec.ofNat 64 n).toInt = _
  rw [BitVec.toInt_eq_toNat_of_lt (by simp; omega)]
  simp; omega
theorem nI_remE {n m : Nat} (hn : n < 2147483648) (hm : m < 2147483648) : nI n - nI n / nI m * nI m = nI (n % m) := by
  have e : nI n / nI m = nI (n / m) := by
    apply Int32.toInt_inj.mp
    rw [Int32.toInt_div_of_ne_right _ _ (by
      intro e
      have := congrArg Int32.toInt e
      rw [nI_tI hm] at this
      have h2 : (-1 : Int32).toInt = -1 := by decide
      omega), nI_tI hn, nI_tI hm, nI_tI (Nat.lt_of_le_of_lt (Nat.div_le_self _ _) hn)]
    exact (Int.ofNat_tdiv n m).symm
  rw [e, nI_mulE, nI_subE]
  have h1 : n / m * m + n % m = n := by rw [Nat.mul_comm]; exact Nat.div_add_mod n m
  have h2 : n / m * m < 4294967296 := by omega
  have h3 : n + (4294967296 - n / m * m % 4294967296) = n % m + 4294967296 := by
    rw [Nat.mod_eq_of_lt h2]; omega
  rw [h3, ← nI_mod, Nat.add_mod_right, nI_mod]
theorem lg_cmpE {n m : Nat} (hn : n < 9223372036854775808) (hm : m < 9223372036854775808) : lg_cmp (lN n) (lN m) = (if m < n then nI 1 else if n = m then nI 0 else nI 4294967295) := by
  unfold lg_cmp
  have e1 : lN n > lN m ↔ m < n := by
    show lN m < lN n ↔ _
    rw [Int64.lt_iff_toInt_lt, lN_tI hn, lN_tI hm]; omega
  have e2 : lN n = lN m ↔ n = m := by
    refine ⟨fun e => ?_, fun e => by rw [e]⟩
    have := congrArg Int64.toInt e
    rw [lN_tI hn, lN_tI hm] at this
    omega
  by_cases h1 : m < n
  · rw [if_pos h1, if_pos (e1.mpr h1)]; rfl
  · rw [if_neg h1, if_neg (fun z => h1 (e1.mp z))]
    by_cases h2 : n = m
    · rw [if_pos h2, if_pos (e2.mpr h2)]; rfl
    · rw [if_neg h2, if_neg (fun z => h2 (e2.mp z))]; rfl
theorem nI_i2l {n : Nat} (h : n < 2147483648) : (nI n).toInt64 = lN n := by
  apply Int64.toInt_inj.mp
  rw [Int32.toInt_toInt64, nI_tI h, lN_tI (by omega)]
theorem nI_i2b {n : Nat} (h : n < 128) : (nI n).toInt8.toInt32 = nI n := by
  have : ∀ k, k < 128 → (nI k).toInt8.toInt32 = nI k := by decide +kernel
  exact this n h
theorem blt_lt {a b : Nat} (h : Nat.blt a b = true) : a < b := Nat.le_of_ble_eq_true h
theorem blt_nlt {a b : Nat} (h : Nat.blt a b = false) : ¬ a < b := fun z => by
  have := Nat.ble_eq_true_of_le z
  have h2 : Nat.blt a b = true := this
  rw [h] at h2; cases h2
theorem mkop_ok (ρ : Nat → Int32) (σ : Nat → Int64) (o : Nat) (a b : AE) : eP ρ σ (mkop o a b) = opP o (eP ρ σ a) (eP ρ σ b) := by
  unfold mkop
  split
  · split
    · show (nI _, (0 : Int64)) = (nI _ + nI _, 0)
      rw [nI_mod, nI_addE]
    · show (nI _, (0 : Int64)) = (nI _ - nI _, 0)
      rw [nI_mod, nI_subE]
    · show (nI _, (0 : Int64)) = (nI _ * nI _, 0)
      rw [nI_mod, nI_mulE]
    · show (nI _, (0 : Int64)) = (nI _ &&& nI _, 0)
      rw [nI_andE]
    · rename_i n m _
      cases hb : (Nat.blt n 2147483648 && Nat.blt m 2147483648)
      · rfl
      · rw [Bool.and_eq_true] at hb
        show (nI _, (0 : Int64)) = (nI n - nI n / nI m * nI m, 0)
        rw [nI_remE (blt_lt hb.1) (blt_lt hb.2)]
    · rfl
  · split
    · rename_i n m _
      cases hb : (Nat.blt n 9223372036854775808 && Nat.blt m 9223372036854775808)
      · rfl
      · rw [Bool.and_eq_true] at hb
        show eP ρ σ (bif Nat.blt m n then kI 1 else bif Nat.beq n m then kI 0 else kI 4294967295) = (lg_cmp (lN n) (lN m), 0)
        rw [lg_cmpE (blt_lt hb.1) (blt_lt hb.2)]
        cases h1 : Nat.blt m n
        · rw [if_neg (blt_nlt h1)]
          cases h2 : Nat.beq n m
          · rw [if_neg (Nat.ne_of_beq_eq_false h2)]; rfl
          · rw [if_pos (Nat.eq_of_beq_eq_true h2)]; rfl
        · rw [if_pos (blt_lt h1)]; rfl
    · show ((0 : Int32), lN _) = (0, lN _ &&& lN _)
      rw [lN_andE]
    · rfl
  · rfl
theorem mkun_ok (ρ : Nat → Int32) (σ : Nat → Int64) (o : Nat) (a : AE) : eP ρ σ (mkun o a) = opP o (eP ρ σ a) (0, 0) := by
  unfold mkun
  split
  · rename_i n
    cases hb : Nat.blt n 2147483648
    · rfl
    · show ((0 : Int32), lN _) = (0, (nI _).toInt64)
      rw [nI_i2l (blt_lt hb)]
  · rename_i n
    cases hb : Nat.blt n 128
    · rfl
    · show (nI _, (0 : Int64)) = ((nI _).toInt8.toInt32, 0)
      rw [nI_i2b (blt_lt hb)]
  · rfl
theorem mkop_I {o : Nat} {a b : AE} (ho : Nat.blt o 20 = true) : aI (mkop o a b) = true := by
  unfold mkop
  split
  · split
    · rfl
    · rfl
    · rfl
    · rfl
    · rename_i n m _
      cases (Nat.blt n 2147483648 && Nat.blt m 2147483648) <;> rfl
    · exact ho
  · split
    · rename_i n m _
      cases (Nat.blt n 9223372036854775808 && Nat.blt m 9223372036854775808)
      · rfl
      · cases Nat.blt m n
        · cases Nat.beq n m <;> rfl
        · rfl
    · cases ho
    · exact ho
  · exact ho
theorem mkop_L {o : Nat} {a b : AE} (ho : Nat.blt o 20 = false) : aL (mkop o a b) = true := by
  have hL : ∀ x y : AE, aL (kO o x y) = true := fun x y => by
    show (!Nat.blt o 20) = true
    rw [ho]; rfl
  unfold mkop
  split
  · split
    · cases ho
    · cases ho
    · cases ho
    · cases ho
    · cases ho
    · exact hL _ _
  · split
    · cases ho
    · rfl
    · exact hL _ _
  · exact hL _ _
theorem mkun_I {o : Nat} {a : AE} (ho : Nat.blt o 20 = true) : aI (mkun o a) = true := by
  unfold mkun
  split
  · cases ho
  · rename_i n
    cases Nat.blt n 128 <;> rfl
  · exact ho
theorem mkun_L {o : Nat} {a : AE} (ho : Nat.blt o 20 = false) : aL (mkun o a) = true := by
  unfold mkun
  split
  · rename_i n
    cases Nat.blt n 2147483648 <;> rfl
  · cases ho
  · show (!Nat.blt o 20) = true
    rw [ho]; rfl
/-- the signed order of ints, by numbers -/
def sgn (n : Nat) : Nat := (n + 2147483648) % 4294967296
theorem nI_tI2 (n : Nat) : (nI n).toInt = (sgn n : Int) - 2147483648 := by
  show (BitVec.ofNat 32 n).toInt = _
  rw [BitVec.toInt_eq_toNat_cond, BitVec.toNat_ofNat]
  unfold sgn
  split <;> omega
theorem nI_ltS {n m : Nat} : nI n < nI m ↔ sgn n < sgn m := by
  rw [Int32.lt_iff_toInt_lt, nI_tI2, nI_tI2]; omega
theorem nI_leS {n m : Nat} : nI n ≤ nI m ↔ sgn n ≤ sgn m := by
  rw [Int32.le_iff_toInt_le, nI_tI2, nI_tI2]; omega
theorem nI_eqS {n m : Nat} : nI n = nI m ↔ sgn n = sgn m := by
  rw [← Int32.toInt_inj, nI_tI2, nI_tI2]; omega
