/-! exact runs: what is known of values that are only named: bounds, all shifted by 2^63 -/
abbrev BD : Type := List (AE × Nat × Nat)
def ov (ρ : Nat → Int32) (σ : Nat → Int64) (e : AE) : Nat := ((bif (aI e) then (eP ρ σ e).1.toInt else (eP ρ σ e).2.toInt) + 9223372036854775808).toNat
def bdL (B : BD) (e : AE) (d : Nat × Nat) : Nat × Nat := match B with
  | [] => d
  | (a, lo, hi) :: r => bif aB a e then (lo, hi) else bdL r e d
/-- what a value's form alone says -/
def bdD (e : AE) : Nat × Nat := match e with
  | .branch 3 _ (.leaf (0, m)) => bif Nat.blt m 2147483648 then (9223372036854775808, 9223372036854775808 + m) else (9223372034707292160, 9223372039002259455)
  | .branch 22 _ (.leaf (1, m)) => bif Nat.blt m 9223372036854775808 then (9223372036854775808, 9223372036854775808 + m) else (0, 18446744073709551615)
  | e => bif (aI e) then (9223372034707292160, 9223372039002259455) else (0, 18446744073709551615)
/-- an int made a long keeps its value -/
def aO : AE → AE
  | .branch 26 a b => bif aI a then a else .branch 26 a b
  | e => e
/-- bounds of a sum of ints that stays an int; of a long that is an int -/
def bdAdd (p q : Nat × Nat) : Nat × Nat := bif Nat.ble 18446744071562067968 (p.1 + q.1) && Nat.ble (p.2 + q.2) 18446744075857035263 then (p.1 + q.1 - 9223372036854775808, p.2 + q.2 - 9223372036854775808) else (9223372034707292160, 9223372039002259455)
def bdCut (p : Nat × Nat) : Nat × Nat := bif Nat.ble 9223372034707292160 p.1 && Nat.ble p.2 9223372039002259455 then p else (9223372034707292160, 9223372039002259455)
def bdF (B : BD) (e : AE) (pa pb : Nat × Nat) : Nat × Nat := match e with
  | .leaf (0, n) => ((n + 2147483648) % 4294967296 + 9223372034707292160, (n + 2147483648) % 4294967296 + 9223372034707292160)
  | .leaf (1, n) => ((n + 9223372036854775808) % 18446744073709551616, (n + 9223372036854775808) % 18446744073709551616)
  | .branch 0 a b => bdL B (.branch 0 a b) (bif aI a && aI b then bdAdd pa pb else bdD (.branch 0 a b))
  | .branch 12 a b => bdL B (.branch 12 a b) (bif aL a then bdCut pa else bdD (.branch 12 a b))
  | e => bdL B e (bdD e)
def bd (B : BD) : AE → Nat × Nat
  | .branch o a b => bdF B (.branch o a b) (bd B a) (bd B b)
  | .leaf x => bdF B (.leaf x) (0, 0) (0, 0)
def relN (cn : Jvm.ClassFile.Cond) (x y : Nat) : Prop := match cn with
  | .eq => x = y
  | .ne => ¬ x = y
  | .lt => x < y
  | .ge => y ≤ x
  | .gt => y < x
  | .le => x ≤ y
/-- the two values that a branch compares -/
def sides (a b : AE) : AE × AE := match a, b with
  | .branch 10 x y, .leaf (0, 0) => bif aL x && aL y then (aO x, aO y) else (.branch 10 x y, .leaf (0, 0))
  | a, b => (a, b)
def cmpN (cn : Jvm.ClassFile.Cond) (p q : Nat × Nat) : Option Bool := match cn with
  | .eq => bif Nat.blt p.2 q.1 || Nat.blt q.2 p.1 then some false else bif Nat.beq p.1 p.2 && (Nat.beq q.1 q.2 && Nat.beq p.1 q.1) then some true else none
  | .ne => bif Nat.blt p.2 q.1 || Nat.blt q.2 p.1 then some true else bif Nat.beq p.1 p.2 && (Nat.beq q.1 q.2 && Nat.beq p.1 q.1) then some false else none
  | .lt => bif Nat.blt p.2 q.1 then some true else bif Nat.ble q.2 p.1 then some false else none
  | .ge => bif Nat.blt p.2 q.1 then some false else bif Nat.ble q.2 p.1 then some true else none
  | .gt => bif Nat.blt q.2 p.1 then some true else bif Nat.ble p.2 q.1 then some false else none
  | .le => bif Nat.blt q.2 p.1 then some false else bif Nat.ble p.2 q.1 then some true else none
def negC : Jvm.ClassFile.Cond → Jvm.ClassFile.Cond
  | .eq => .ne | .ne => .eq | .lt => .ge | .ge => .lt | .gt => .le | .le => .gt
def aK : AE → Bool
  | .leaf (0, _) => true
  | .leaf (1, _) => true
  | _ => false
def addB (e : AE) (lo hi : Nat) (B : BD) : BD := bif (aK e) then B else (e, lo, hi) :: B
/-- whether two ints were found equal, or not -/
def addF (a b : AE) (x : Nat) (B : BD) : BD := bif (aI a) && (aI b) then (kO 11 a b, 9223372036854775808 + x, 9223372036854775808 + x) :: B else B
def getF (a b : AE) (B : BD) : Option Bool := bif (aI a) && (aI b) then (match bdL B (kO 11 a b) (0, 18446744073709551615) with
  | (lo, hi) => bif Nat.beq lo hi then (bif Nat.beq lo 9223372036854775809 then some true else bif Nat.beq lo 9223372036854775808 then some false else none) else none) else none
def cmpF (cn : Jvm.ClassFile.Cond) (a b : AE) (B : BD) : Option Bool := match cn with
  | .eq => getF a b B
  | .ne => (getF a b B).map (fun x => !x)
  | _ => none
/-- what a comparison that holds says of both -/
def refB (cn : Jvm.ClassFile.Cond) (a b : AE) (B : BD) : BD := let p := bd B a; let q := bd B b; match cn with
  | .eq => addB a (max p.1 q.1) (min p.2 q.2) (addB b (max p.1 q.1) (min p.2 q.2) (addF a b 1 B))
  | .ne => bif Nat.beq q.1 q.2 then addB a (bif Nat.beq p.1 q.1 then p.1 + 1 else p.1) (bif Nat.beq p.2 q.1 then p.2 - 1 else p.2) (addF a b 0 B) else addF a b 0 B
  | .lt => addB a p.1 (min p.2 (q.2 - 1)) (addB b (max q.1 (p.1 + 1)) q.2 B)
  | .le => addB a p.1 (min p.2 q.2) (addB b (max q.1 p.1) q.2 B)
  | .gt => addB a (max p.1 (q.1 + 1)) p.2 (addB b q.1 (min q.2 (p.2 - 1)) B)
  | .ge => addB a (max p.1 q.1) p.2 (addB b q.1 (min q.2 p.2) B)
section AXB
variable {ρ : Nat → Int32} {σ : Nat → Int64}
def BOK (ρ : Nat → Int32) (σ : Nat → Int64) (B : BD) : Prop := ∀ q ∈ B, q.2.1 ≤ ov ρ σ q.1 ∧ ov ρ σ q.1 ≤ q.2.2
theorem i32_b (x : Int32) : -2147483648 ≤ x.toInt ∧ x.toInt ≤ 2147483647 := ⟨Int32.le_toInt x, Int32.toInt_le x⟩
theorem i64_b (x : Int64) : -9223372036854775808 ≤ x.toInt ∧ x.toInt ≤ 9223372036854775807 := ⟨Int64.le_toInt x, Int64.toInt_le x⟩
theorem ov_I {e : AE} (h : (aI e) = true) : (ov ρ σ e : Int) = (eP ρ σ e).1.toInt + 9223372036854775808 := by
  unfold ov; rw [h]
  have := i32_b (eP ρ σ e).1
  simp only [cond_true]
  omega
theorem ov_L {e : AE} (h : (aI e) = false) : (ov ρ σ e : Int) = (eP ρ σ e).2.toInt + 9223372036854775808 := by
  unfold ov; rw [h]
  have := i64_b (eP ρ σ e).2
  simp only [cond_false]
  omega
theorem lN_tI2 (n : Nat) : (lN n).toInt = ((n + 9223372036854775808) % 18446744073709551616 : Nat) - 9223372036854775808 := by
  show (BitVec.ofNat 64 n).toInt = _
  rw [BitVec.toInt_eq_toNat_cond, BitVec.toNat_ofNat]
  split <;> omega
theorem and_b32 (x : Int32) {m : Nat} (hm : m < 2147483648) : 0 ≤ (x &&& nI m).toInt ∧ (x &&& nI m).toInt ≤ m := by
  have e : (x &&& nI m).toInt = (BitVec.toInt (x.toBitVec &&& BitVec.ofNat 32 m)) := rfl
  have h1 : (x.toBitVec &&& BitVec.ofNat 32 m).toNat ≤ m := by
    rw [BitVec.toNat_and, BitVec.toNat_ofNat, Nat.mod_eq_of_lt (by omega)]
    exact Nat.and_le_right
  rw [e, BitVec.toInt_eq_toNat_of_lt (by omega)]
  omega
theorem and_b64 (x : Int64) {m : Nat} (hm : m < 9223372036854775808) : 0 ≤ (x &&& lN m).toInt ∧ (x &&& lN m).toInt ≤ m := by
  have e : (x &&& lN m).toInt = (BitVec.toInt (x.toBitVec &&& BitVec.ofNat 64 m)) := rfl
  have h1 : (x.toBitVec &&& BitVec.ofNat 64 m).toNat ≤ m := by
    rw [BitVec.toNat_and, BitVec.toNat_ofNat, Nat.mod_eq_of_lt (by omega)]
    exact Nat.and_le_right
  rw [e, BitVec.toInt_eq_toNat_of_lt (by omega)]
  omega
theorem ov_any (e : AE) : (bif (aI e) then (9223372034707292160, 9223372039002259455) else (0, 18446744073709551615) : Nat × Nat).1 ≤ ov ρ σ e ∧ ov ρ σ e ≤ (bif (aI e) then (9223372034707292160, 9223372039002259455) else (0, 18446744073709551615) : Nat × Nat).2 := by
  cases h : (aI e)
  · have h1 := ov_L (ρ := ρ) (σ := σ) h
    have h2 := i64_b (eP ρ σ e).2
    simp only [cond_false]; omega
  · have h1 := ov_I (ρ := ρ) (σ := σ) h
    have h2 := i32_b (eP ρ σ e).1
    simp only [cond_true]; omega
theorem bdD_ok (e : AE) : (bdD e).1 ≤ ov ρ σ e ∧ ov ρ σ e ≤ (bdD e).2 := by
  unfold bdD
  split
  · rename_i a m
    cases hb : Nat.blt m 2147483648
    · exact ov_any (kO 3 a (kI m))
    · have h1 := ov_I (ρ := ρ) (σ := σ) (e := .branch 3 a (.leaf (0, m))) rfl
      have h2 := and_b32 (eP ρ σ a).1 (blt_lt hb)
      have h3 : (eP ρ σ (.branch 3 a (.leaf (0, m)))).1 = (eP ρ σ a).1 &&& nI m := rfl
      rw [h3] at h1
      simp only [cond_true]; omega
  · rename_i a m
    cases hb : Nat.blt m 9223372036854775808
    · exact ov_any (kO 22 a (kL m))
    · have h1 := ov_L (ρ := ρ) (σ := σ) (e := .branch 22 a (.leaf (1, m))) rfl
      have h2 := and_b64 (eP ρ σ a).2 (blt_lt hb)
      have h3 : (eP ρ σ (.branch 22 a (.leaf (1, m)))).2 = (eP ρ σ a).2 &&& lN m := rfl
      rw [h3] at h1
      simp only [cond_true]; omega
  · exact ov_any e
theorem bdL_ok {e : AE} {d : Nat × Nat} (hd : d.1 ≤ ov ρ σ e ∧ ov ρ σ e ≤ d.2) : ∀ {B : BD}, BOK ρ σ B → (bdL B e d).1 ≤ ov ρ σ e ∧ ov ρ σ e ≤ (bdL B e d).2
  | [], _ => hd
  | (a, lo, hi) :: r, h => by
    unfold bdL
    cases hb : aB a e
    · exact bdL_ok hd (fun q hq => h q (List.mem_cons_of_mem _ hq))
    · have e1 := aB_ok hb
      subst e1
      exact h _ List.mem_cons_self
theorem bdAdd_ok {a b : AE} (ha : (aI a) = true) (hb : (aI b) = true) {p q : Nat × Nat} (hp : p.1 ≤ ov ρ σ a ∧ ov ρ σ a ≤ p.2) (hq : q.1 ≤ ov ρ σ b ∧ ov ρ σ b ≤ q.2) : (bdAdd p q).1 ≤ ov ρ σ (kO 0 a b) ∧ ov ρ σ (kO 0 a b) ≤ (bdAdd p q).2 := by
  unfold bdAdd
  cases hc : (Nat.ble 18446744071562067968 (p.1 + q.1) && Nat.ble (p.2 + q.2) 18446744075857035263)
  · exact ov_any (kO 0 a b)
  · rw [Bool.and_eq_true] at hc
    have c1 := Nat.le_of_ble_eq_true hc.1
    have c2 := Nat.le_of_ble_eq_true hc.2
    have h1 := ov_I (ρ := ρ) (σ := σ) ha
    have h2 := ov_I (ρ := ρ) (σ := σ) hb
    have h3 := ov_I (ρ := ρ) (σ := σ) (e := kO 0 a b) rfl
    have h4 : (eP ρ σ (kO 0 a b)).1 = (eP ρ σ a).1 + (eP ρ σ b).1 := rfl
    have h5 : ((eP ρ σ a).1 + (eP ρ σ b).1).toInt = (eP ρ σ a).1.toInt + (eP ρ σ b).1.toInt := by
      rw [Int32.toInt_add]
      exact Int.bmod_eq_of_le (by omega) (by omega)
    rw [h4, h5] at h3
    simp only [cond_true]
    omega
theorem bdCut_ok {a b : AE} (ha : aL a = true) {p : Nat × Nat} (hp : p.1 ≤ ov ρ σ a ∧ ov ρ σ a ≤ p.2) : (bdCut p).1 ≤ ov ρ σ (.branch 12 a b) ∧ ov ρ σ (.branch 12 a b) ≤ (bdCut p).2 := by
  unfold bdCut
  cases hc : (Nat.ble 9223372034707292160 p.1 && Nat.ble p.2 9223372039002259455)
  · exact ov_any (.branch 12 a b)
  · rw [Bool.and_eq_true] at hc
    have c1 := Nat.le_of_ble_eq_true hc.1
    have c2 := Nat.le_of_ble_eq_true hc.2
    have h1 := ov_L (ρ := ρ) (σ := σ) (aIL ha)
    have h3 := ov_I (ρ := ρ) (σ := σ) (e := .branch 12 a b) rfl
    have h4 : (eP ρ σ (.branch 12 a b)).1 = (eP ρ σ a).2.toInt32 := rfl
    have h5 : ((eP ρ σ a).2.toInt32).toInt = (eP ρ σ a).2.toInt := by
      rw [Int64.toInt_toInt32]
      exact Int.bmod_eq_of_le (by omega) (by omega)
    rw [h4, h5] at h3
    simp only [cond_true]
    omega
theorem bif_ok {c : Bool} {w u : Nat × Nat} {x : Nat} (h1 : c = true → w.1 ≤ x ∧ x ≤ w.2) (h2 : u.1 ≤ x ∧ x ≤ u.2) : (bif c then w else u).1 ≤ x ∧ x ≤ (bif c then w else u).2 := by
  cases c
  · exact h2
  · exact h1 rfl
/-- the parts' bounds, where it has any -/
def subOK (ρ : Nat → Int32) (σ : Nat → Int64) (e : AE) (pa pb : Nat × Nat) : Prop := match e with
  | .branch _ a b => (pa.1 ≤ ov ρ σ a ∧ ov ρ σ a ≤ pa.2) ∧ (pb.1 ≤ ov ρ σ b ∧ ov ρ σ b ≤ pb.2)
  | _ => True
theorem bdF_ok {B : BD} (hB : BOK ρ σ B) (e : AE) (pa pb : Nat × Nat) (hs : subOK ρ σ e pa pb) : (bdF B e pa pb).1 ≤ ov ρ σ e ∧ ov ρ σ e ≤ (bdF B e pa pb).2 := by
  unfold bdF
  split
  · rename_i n
    have h1 := ov_I (ρ := ρ) (σ := σ) (e := .leaf (0, n)) rfl
    have h2 : (eP ρ σ (.leaf (0, n))).1.toInt = (sgn n : Int) - 2147483648 := nI_tI2 n
    unfold sgn at h2
    simp only []; omega
  · rename_i n
    have h1 := ov_L (ρ := ρ) (σ := σ) (e := .leaf (1, n)) rfl
    have h2 : (eP ρ σ (.leaf (1, n))).2.toInt = _ := lN_tI2 n
    simp only []; omega
  · rename_i a b
    refine bdL_ok (bif_ok (fun hc => ?_) (bdD_ok (.branch 0 a b))) hB
    rw [Bool.and_eq_true] at hc
    exact bdAdd_ok hc.1 hc.2 hs.1 hs.2
  · rename_i a b
    exact bdL_ok (bif_ok (fun hc => bdCut_ok hc hs.1) (bdD_ok (.branch 12 a b))) hB
  · exact bdL_ok (bdD_ok _) hB
theorem bd_ok {B : BD} (hB : BOK ρ σ B) : ∀ e : AE, (bd B e).1 ≤ ov ρ σ e ∧ ov ρ σ e ≤ (bd B e).2
  | .branch o a b => bdF_ok hB (.branch o a b) (bd B a) (bd B b) ⟨bd_ok hB a, bd_ok hB b⟩
  | .leaf x => bdF_ok hB (.leaf x) (0, 0) (0, 0) trivial
theorem ov_core (e : AE) (h : aL e = true) : ov ρ σ (aO e) = ov ρ σ e := by
  unfold aO
  split
  · rename_i a b
    cases ha : aI a
    · rfl
    · simp only [cond_true]
      have h1 := ov_I (ρ := ρ) (σ := σ) ha
      have h2 := ov_L (ρ := ρ) (σ := σ) (e := .branch 26 a b) rfl
      have h3 : (eP ρ σ (.branch 26 a b)).2.toInt = (eP ρ σ a).1.toInt := Int32.toInt_toInt64 _
      omega
  · rfl
theorem rel_I {cn : Jvm.ClassFile.Cond} {a b : AE} (ha : (aI a) = true) (hb : (aI b) = true) : relN cn (ov ρ σ a) (ov ρ σ b) ↔ ft_cond2 cn (eP ρ σ a).1 (eP ρ σ b).1 := by
  have h1 := ov_I (ρ := ρ) (σ := σ) ha
  have h2 := ov_I (ρ := ρ) (σ := σ) hb
  cases cn
  · show _ = _ ↔ _ = _
    rw [← Int32.toInt_inj]; omega
  · show ¬ _ = _ ↔ ¬ _ = _
    rw [← Int32.toInt_inj]; omega
  · show _ < _ ↔ _ < _
    rw [Int32.lt_iff_toInt_lt]; omega
  · show _ ≤ _ ↔ _ ≤ _
    rw [Int32.le_iff_toInt_le]; omega
  · show _ < _ ↔ _ < _
    rw [Int32.lt_iff_toInt_lt]; omega
  · show _ ≤ _ ↔ _ ≤ _
    rw [Int32.le_iff_toInt_le]; omega
theorem lcmp_rel (cn : Jvm.ClassFile.Cond) (x y : Int64) : ft_cond2 cn (lg_cmp x y) (nI 0) ↔ (match cn with | .eq => x.toInt = y.toInt | .ne => ¬ x.toInt = y.toInt | .lt => x.toInt < y.toInt | .ge => y.toInt ≤ x.toInt | .gt => y.toInt < x.toInt | .le => x.toInt ≤ y.toInt) := by
  have z0 : nI 0 = 0 := rfl
  rw [z0]
  unfold lg_cmp
  by_cases h1 : x > y
  · have g1 := Int64.lt_iff_toInt_lt.mp h1
    rw [if_pos h1]
    cases cn
    · show (1 : Int32) = 0 ↔ _; simp only []; constructor
      · intro z; exact absurd z (by decide)
      · intro z; omega
    · show ¬ (1 : Int32) = 0 ↔ _; simp only []; constructor
      · intro z; omega
      · intro z; decide
    · show (1 : Int32) < 0 ↔ _; simp only []; constructor
      · intro z; exact absurd z (by decide)
      · intro z; omega
    · show (0 : Int32) ≤ 1 ↔ _; simp only []; constructor
      · intro z; omega
      · intro z; decide
    · show (0 : Int32) < 1 ↔ _; simp only []; constructor
      · intro z; omega
      · intro z; decide
    · show (1 : Int32) ≤ 0 ↔ _; simp only []; constructor
      · intro z; exact absurd z (by decide)
      · intro z; omega
  · have g1 : ¬ y.toInt < x.toInt := fun z => h1 (Int64.lt_iff_toInt_lt.mpr z)
    rw [if_neg h1]
    by_cases h2 : x = y
    · rw [if_pos h2]
      have g2 : x.toInt = y.toInt := by rw [h2]
      cases cn
      · show (0 : Int32) = 0 ↔ _; simp only []; constructor
        · intro z; omega
        · intro z; decide
      · show ¬ (0 : Int32) = 0 ↔ _; simp only []; constructor
        · intro z; exact absurd trivial z
        · intro z; omega
      · show (0 : Int32) < 0 ↔ _; simp only []; constructor
        · intro z; exact absurd z (by decide)
        · intro z; omega
      · show (0 : Int32) ≤ 0 ↔ _; simp only []; constructor
        · intro z; omega
        · intro z; decide
      · show (0 : Int32) < 0 ↔ _; simp only []; constructor
        · intro z; exact absurd z (by decide)
        · intro z; omega
      · show (0 : Int32) ≤ 0 ↔ _; simp only []; constructor
        · intro z; omega
        · intro z; decide
    · rw [if_neg h2]
      have g2 : ¬ x.toInt = y.toInt := fun z => h2 (Int64.toInt_inj.mp z)
      cases cn
      · show (-1 : Int32) = 0 ↔ _; simp only []; constructor
        · intro z; exact absurd z (by decide)
        · intro z; omega
      · show ¬ (-1 : Int32) = 0 ↔ _; simp only []; constructor
        · intro z; omega
        · intro z; decide
      · show (-1 : Int32) < 0 ↔ _; simp only []; constructor
        · intro z; omega
        · intro z; decide
      · show (0 : Int32) ≤ -1 ↔ _; simp only []; constructor
        · intro z; exact absurd z (by decide)
        · intro z; omega
      · show (0 : Int32) < -1 ↔ _; simp only []; constructor
        · intro z; exact absurd z (by decide)
        · intro z; omega
      · show (-1 : Int32) ≤ 0 ↔ _; simp only []; constructor
        · intro z; omega
        · intro z; decide
theorem sides_ok {cn : Jvm.ClassFile.Cond} {a b : AE} (ha : (aI a) = true) (hb : (aI b) = true) : relN cn (ov ρ σ (sides a b).1) (ov ρ σ (sides a b).2) ↔ ft_cond2 cn (eP ρ σ a).1 (eP ρ σ b).1 := by
  unfold sides
  split
  · rename_i x y
    cases hc : ((aL x) && (aL y))
    · exact rel_I ha hb
    · rw [Bool.and_eq_true] at hc
      simp only [cond_true]
      rw [ov_core x hc.1, ov_core y hc.2]
      have h1 := ov_L (ρ := ρ) (σ := σ) (aIL hc.1)
      have h2 := ov_L (ρ := ρ) (σ := σ) (aIL hc.2)
      have h3 := lcmp_rel cn (eP ρ σ x).2 (eP ρ σ y).2
      show _ ↔ ft_cond2 cn (lg_cmp (eP ρ σ x).2 (eP ρ σ y).2) (nI 0)
      rw [h3]
      cases cn
      · show _ = _ ↔ _ = _; omega
      · show ¬ _ = _ ↔ ¬ _ = _; omega
      · show _ < _ ↔ _ < _; omega
      · show _ ≤ _ ↔ _ ≤ _; omega
      · show _ < _ ↔ _ < _; omega
      · show _ ≤ _ ↔ _ ≤ _; omega
  · exact rel_I ha hb
end AXB
section AXB2
variable {ρ : Nat → Int32} {σ : Nat → Int64}
theorem cmpN_ok {cn : Jvm.ClassFile.Cond} {p q : Nat × Nat} {x y : Nat} {r : Bool} (hx : p.1 ≤ x ∧ x ≤ p.2) (hy : q.1 ≤ y ∧ y ≤ q.2) (h : cmpN cn p q = some r) : (r = true → relN cn x y) ∧ (r = false → ¬ relN cn x y) := by
  unfold cmpN at h
  cases cn
  · show (r = true → x = y) ∧ (r = false → ¬ x = y)
    simp only [] at h
    cases h1 : (Nat.blt p.2 q.1 || Nat.blt q.2 p.1)
    · rw [h1] at h
      simp only [cond_false] at h
      cases h2 : (Nat.beq p.1 p.2 && (Nat.beq q.1 q.2 && Nat.beq p.1 q.1))
      · rw [h2] at h; cases h
      · rw [h2] at h; cases h
        rw [Bool.and_eq_true, Bool.and_eq_true] at h2
        have e1 := Nat.eq_of_beq_eq_true h2.1
        have e2 := Nat.eq_of_beq_eq_true h2.2.1
        have e3 := Nat.eq_of_beq_eq_true h2.2.2
        exact ⟨fun _ => by omega, fun z => by cases z⟩
    · rw [h1] at h; cases h
      rw [Bool.or_eq_true] at h1
      refine ⟨fun z => (by cases z), fun _ => ?_⟩
      rcases h1 with e | e <;> (have := blt_lt e; omega)
  · show (r = true → ¬ x = y) ∧ (r = false → ¬ ¬ x = y)
    simp only [] at h
    cases h1 : (Nat.blt p.2 q.1 || Nat.blt q.2 p.1)
    · rw [h1] at h
      simp only [cond_false] at h
      cases h2 : (Nat.beq p.1 p.2 && (Nat.beq q.1 q.2 && Nat.beq p.1 q.1))
      · rw [h2] at h; cases h
      · rw [h2] at h; cases h
        rw [Bool.and_eq_true, Bool.and_eq_true] at h2
        have e1 := Nat.eq_of_beq_eq_true h2.1
        have e2 := Nat.eq_of_beq_eq_true h2.2.1
        have e3 := Nat.eq_of_beq_eq_true h2.2.2
        exact ⟨fun z => (by cases z), fun _ => by omega⟩
    · rw [h1] at h; cases h
      rw [Bool.or_eq_true] at h1
      refine ⟨fun _ => ?_, fun z => (by cases z)⟩
      rcases h1 with e | e <;> (have := blt_lt e; omega)
  · show (r = true → x < y) ∧ (r = false → ¬ x < y)
    simp only [] at h
    cases h1 : Nat.blt p.2 q.1
    · rw [h1] at h
      simp only [cond_false] at h
      cases h2 : Nat.ble q.2 p.1
      · rw [h2] at h; cases h
      · rw [h2] at h; cases h
        have := Nat.le_of_ble_eq_true h2
        exact ⟨fun z => (by cases z), fun _ => by omega⟩
    · rw [h1] at h; cases h
      have := blt_lt h1
      exact ⟨fun _ => by omega, fun z => by cases z⟩
  · show (r = true → y ≤ x) ∧ (r = false → ¬ y ≤ x)
    simp only [] at h
    cases h1 : Nat.blt p.2 q.1
    · rw [h1] at h
      simp only [cond_false] at h
      cases h2 : Nat.ble q.2 p.1
      · rw [h2] at h; cases h
      · rw [h2] at h; cases h
        have := Nat.le_of_ble_eq_true h2
        exact ⟨fun _ => by omega, fun z => by cases z⟩
    · rw [h1] at h; cases h
      have := blt_lt h1
      exact ⟨fun z => (by cases z), fun _ => by omega⟩
  · show (r = true → y < x) ∧ (r = false → ¬ y < x)
    simp only [] at h
    cases h1 : Nat.blt q.2 p.1
    · rw [h1] at h
      simp only [cond_false] at h
      cases h2 : Nat.ble p.2 q.1
      · rw [h2] at h; cases h
      · rw [h2] at h; cases h
        have := Nat.le_of_ble_eq_true h2
        exact ⟨fun z => (by cases z), fun _ => by omega⟩
    · rw [h1] at h; cases h
      have := blt_lt h1
      exact ⟨fun _ => by omega, fun z => by cases z⟩
  · show (r = true → x ≤ y) ∧ (r = false → ¬ x ≤ y)
    simp only [] at h
    cases h1 : Nat.blt q.2 p.1
    · rw [h1] at h
      simp only [cond_false] at h
      cases h2 : Nat.ble p.2 q.1
      · rw [h2] at h; cases h
      · rw [h2] at h; cases h
        have := Nat.le_of_ble_eq_true h2
        exact ⟨fun _ => by omega, fun z => by cases z⟩
    · rw [h1] at h; cases h
      have := blt_lt h1
      exact ⟨fun z => (by cases z), fun _ => by omega⟩
theorem addB_ok {B : BD} {e : AE} {lo hi : Nat} (hB : BOK ρ σ B) (h : lo ≤ ov ρ σ e ∧ ov ρ σ e ≤ hi) : BOK ρ σ (addB e lo hi B) := by
  unfold addB
  cases (aK e)
  · intro q hq
    rcases List.mem_cons.mp hq with e1 | e1
    · rw [e1]; exact h
    · exact hB q e1
  · exact hB
theorem ov_F {a b : AE} (ha : (aI a) = true) (hb : (aI b) = true) : ov ρ σ (kO 11 a b) = 9223372036854775808 + (if ov ρ σ a = ov ρ σ b then 1 else 0) := by
  have h1 := ov_I (ρ := ρ) (σ := σ) ha
  have h2 := ov_I (ρ := ρ) (σ := σ) hb
  have h3 := ov_I (ρ := ρ) (σ := σ) (e := kO 11 a b) rfl
  have h4 : (eP ρ σ (kO 11 a b)).1 = (if (eP ρ σ a).1 = (eP ρ σ b).1 then nI 1 else nI 0) := rfl
  rw [h4] at h3
  by_cases e : (eP ρ σ a).1 = (eP ρ σ b).1
  · rw [if_pos e, nI_tI (by omega)] at h3
    rw [if_pos (by rw [e] at h1; omega)]
    omega
  · rw [if_neg e, nI_tI (by omega)] at h3
    rw [if_neg (fun z => e (Int32.toInt_inj.mp (by omega)))]
    omega
theorem addF_ok {B : BD} {a b : AE} {x : Nat} (hB : BOK ρ σ B) (h : x = if ov ρ σ a = ov ρ σ b then 1 else 0) : BOK ρ σ (addF a b x B) := by
  unfold addF
  cases hc : ((aI a) && (aI b))
  · exact hB
  · rw [Bool.and_eq_true] at hc
    intro q hq
    rcases List.mem_cons.mp hq with e1 | e1
    · rw [e1]
      show 9223372036854775808 + x ≤ ov ρ σ (kO 11 a b) ∧ ov ρ σ (kO 11 a b) ≤ 9223372036854775808 + x
      rw [ov_F hc.1 hc.2, ← h]
      exact ⟨Nat.le_refl _, Nat.le_refl _⟩
    · exact hB q e1
theorem getF_ok {B : BD} {a b : AE} {r : Bool} (hB : BOK ρ σ B) (h : getF a b B = some r) : (r = true → ov ρ σ a = ov ρ σ b) ∧ (r = false → ¬ ov ρ σ a = ov ρ σ b) := by
  unfold getF at h
  cases hc : ((aI a) && (aI b))
  · rw [hc] at h; cases h
  · rw [hc] at h
    simp only [cond_true] at h
    rw [Bool.and_eq_true] at hc
    have hf := ov_F (ρ := ρ) (σ := σ) hc.1 hc.2
    have hany : (0, 18446744073709551615).1 ≤ ov ρ σ (kO 11 a b) ∧ ov ρ σ (kO 11 a b) ≤ (0, 18446744073709551615).2 := by
      rw [hf]
      split <;> simp only [] <;> omega
    have hb := bdL_ok (d := (0, 18446744073709551615)) hany hB
    generalize bdL B (kO 11 a b) (0, 18446744073709551615) = w at h hb
    obtain ⟨lo, hi⟩ := w
    simp only [] at h hb
    cases h1 : Nat.beq lo hi
    · rw [h1] at h; cases h
    · rw [h1] at h
      simp only [cond_true] at h
      have e1 := Nat.eq_of_beq_eq_true h1
      cases h2 : Nat.beq lo 9223372036854775809
      · rw [h2] at h
        simp only [cond_false] at h
        cases h3 : Nat.beq lo 9223372036854775808
        · rw [h3] at h; cases h
        · rw [h3] at h
          cases h
          have e3 := Nat.eq_of_beq_eq_true h3
          refine ⟨fun z => (by cases z), fun _ z => ?_⟩
          rw [if_pos z] at hf
          omega
      · rw [h2] at h
        cases h
        have e2 := Nat.eq_of_beq_eq_true h2
        refine ⟨fun _ => ?_, fun z => by cases z⟩
        by_cases z : ov ρ σ a = ov ρ σ b
        · exact z
        · rw [if_neg z] at hf
          omega
theorem cmpF_ok {cn : Jvm.ClassFile.Cond} {B : BD} {a b : AE} {r : Bool} (hB : BOK ρ σ B) (h : cmpF cn a b B = some r) : (r = true → relN cn (ov ρ σ a) (ov ρ σ b)) ∧ (r = false → ¬ relN cn (ov ρ σ a) (ov ρ σ b)) := by
  unfold cmpF at h
  split at h
  · exact getF_ok hB h
  · cases hg : getF a b B with
    | none => rw [hg] at h; cases h
    | some x =>
      rw [hg] at h
      cases h
      have q := getF_ok (ρ := ρ) (σ := σ) hB hg
      cases x
      · exact ⟨fun _ => q.2 rfl, fun z => by cases z⟩
      · exact ⟨fun z => (by cases z), fun _ n => n (q.1 rfl)⟩
  · cases h
theorem refB_ok {B : BD} {cn : Jvm.ClassFile.Cond} {a b : AE} (hB : BOK ρ σ B) (h : relN cn (ov ρ σ a) (ov ρ σ b)) : BOK ρ σ (refB cn a b B) := by
  have hp := bd_ok hB a
  have hq := bd_ok hB b
  unfold refB
  cases cn
  · have h' : ov ρ σ a = ov ρ σ b := h
    exact addB_ok (addB_ok (addF_ok hB (by rw [if_pos h'])) (by omega)) (by omega)
  · have h' : ¬ ov ρ σ a = ov ρ σ b := h
    simp only []
    cases h1 : Nat.beq (bd B b).1 (bd B b).2
    · exact addF_ok hB (by rw [if_neg h'])
    · have e1 := Nat.eq_of_beq_eq_true h1
      refine addB_ok (addF_ok hB (by rw [if_neg h'])) ⟨?_, ?_⟩
      · cases h2 : Nat.beq (bd B a).1 (bd B b).1
        · exact hp.1
        · have e2 := Nat.eq_of_beq_eq_true h2
          simp only [cond_true]; omega
      · cases h2 : Nat.beq (bd B a).2 (bd B b).1
        · exact hp.2
        · have e2 := Nat.eq_of_beq_eq_true h2
          simp only [cond_true]; omega
  · have h' : ov ρ σ a < ov ρ σ b := h
    exact addB_ok (addB_ok hB (by omega)) (by omega)
  · have h' : ov ρ σ b ≤ ov ρ σ a := h
    exact addB_ok (addB_ok hB (by omega)) (by omega)
  · have h' : ov ρ σ b < ov ρ σ a := h
    exact addB_ok (addB_ok hB (by omega)) (by omega)
  · have h' : ov ρ σ a ≤ ov ρ σ b := h
    exact addB_ok (addB_ok hB (by omega)) (by omega)
theorem negC_ok {cn : Jvm.ClassFile.Cond} {x y : Nat} (h : ¬ relN cn x y) : relN (negC cn) x y := by
  cases cn
  · exact h
  · exact Classical.not_not.mp h
  · exact Nat.not_lt.mp h
  · exact Nat.not_le.mp h
  · exact Nat.not_lt.mp h
  · exact Nat.not_le.mp h
/-- a value of which only one number is left -/
def idxE (B : BD) (e : AE) : Option Nat := match e with
  | .leaf (0, j) => bif Nat.blt j 2147483648 then some j else none
  | e => let p := bd B e; bif aI e && (Nat.beq p.1 p.2 && Nat.ble 9223372036854775808 p.1) then some (p.1 - 9223372036854775808) else none
theorem idxE_ok {B : BD} {e : AE} {j : Nat} (hB : BOK ρ σ B) (h : idxE B e = some j) : (aI e) = true ∧ (eP ρ σ e).1 = nI j ∧ j < 2147483648 := by
  unfold idxE at h
  split at h
  · rename_i n
    cases hb : Nat.blt n 2147483648
    · rw [hb] at h; cases h
    · rw [hb] at h; cases h
      exact ⟨rfl, rfl, blt_lt hb⟩
  · simp only [] at h
    cases hb : ((aI e) && (Nat.beq (bd B e).1 (bd B e).2 && Nat.ble 9223372036854775808 (bd B e).1))
    · rw [hb] at h; cases h
    · rw [hb] at h
      simp only [cond_true, Option.some.injEq] at h
      rw [Bool.and_eq_true, Bool.and_eq_true] at hb
      have e1 := Nat.eq_of_beq_eq_true hb.2.1
      have e2 := Nat.le_of_ble_eq_true hb.2.2
      have h1 := bd_ok hB e
      have h2 := ov_I (ρ := ρ) (σ := σ) hb.1
      have h3 := i32_b (eP ρ σ e).1
      have h4 : j < 2147483648 := by omega
      refine ⟨hb.1, ?_, h4⟩
      apply Int32.toInt_inj.mp
      rw [nI_tI h4]
      omega
/-- an index of which only the bounds are known -/
def idxB (B : BD) (e : AE) (m : Nat) : Bool := (aI e) && (Nat.ble 9223372036854775808 (bd B e).1 && (Nat.blt (bd B e).2 (9223372036854775808 + m) && Nat.blt m 2147483648))
theorem idxB_ok {B : BD} {e : AE} {m : Nat} (hB : BOK ρ σ B) (h : idxB B e m = true) : (aI e) = true ∧ ∃ j, (eP ρ σ e).1 = nI j ∧ j < m ∧ m < 2147483648 := by
  unfold idxB at h
  rw [Bool.and_eq_true, Bool.and_eq_true, Bool.and_eq_true] at h
  have c1 := Nat.le_of_ble_eq_true h.2.1
  have c2 := blt_lt h.2.2.1
  have c3 := blt_lt h.2.2.2
  have h1 := bd_ok hB e
  have h2 := ov_I (ρ := ρ) (σ := σ) h.1
  refine ⟨h.1, ov ρ σ e - 9223372036854775808, ?_, by omega, c3⟩
  apply Int32.toInt_inj.mp
  rw [nI_tI (by omega)]
  omega
end AXB2
