/-! operations on longs, and between ints and longs -/
def vx_opJ (s : VS) (k : Nat) (p q : LE) : OPR := match k with
  | 20 => .inl (vx_add p q)
  | 21 => .inl (vx_sub p q)
  | 22 => (match q, p with
    | (.ofNat m, []), p => bif Nat.blt m 9223372036854775808 then vx_and p (vx_bnd s p fJ) m else .inr fJ
    | q, (.ofNat m, []) => bif Nat.blt m 9223372036854775808 then vx_and q (vx_bnd s q fJ) m else .inr fJ
    | _, _ => .inr fJ)
  | 23 => vx_or (vx_bnd s p fJ) (vx_bnd s q fJ) fJ 63
  | 24 => (match q with
    | (.ofNat c, []) => bif Nat.blt c 64 then .inl (vx_sc (Int.ofNat (2 ^ c)) p) else .inr fJ
    | _ => .inr fJ)
  | _ => .inr fJ
theorem vx_shl64 (x : Int64) {k : Nat} (hk : k < 64) : x <<< ((nI k).toInt64 &&& 63) = lN (2 ^ k) * x := by
  obtain ⟨n, hn, rfl⟩ := wb_of x
  rw [wb_shl n hk]
  apply wb_inj
  show _ = BitVec.ofNat 64 (2 ^ k) * BitVec.ofNat 64 n
  rw [wb_tb]
  apply BitVec.eq_of_toNat_eq
  rw [BitVec.toNat_mul, BitVec.toNat_ofNat, BitVec.toNat_ofNat, BitVec.toNat_ofNat, Nat.mul_comm, ← Nat.mul_mod]
section VXJ
variable {D : ft_G} {κ : Nat → Nat × Nat} {h : ft_H} {ρ : Nat → Int} {τ : Nat → Nat} {s : VS}
theorem vx_opJ_ok (V : VOk D κ h ρ τ s) {k : Nat} {p q : LE} (hp : vx_lt (vs_n s) p) (hq : vx_lt (vs_n s) q) (hk : k ≤ 23) : vx_sayJ ρ (vs_n s) (vx_opJ s k p q) (opP k (0, Int64.ofInt (vx_ev ρ p)) (0, Int64.ofInt (vx_ev ρ q))).2 := by
  have bp : ∀ z, vx_bnd s p fJ = some z → z.1 ≤ vx_ev ρ p ∧ vx_ev ρ p ≤ z.2 ∧ fJ.1 ≤ z.1 ∧ z.2 ≤ fJ.2 := fun z hz => V.bnd hp hz
  have bq : ∀ z, vx_bnd s q fJ = some z → z.1 ≤ vx_ev ρ q ∧ vx_ev ρ q ≤ z.2 ∧ fJ.1 ≤ z.1 ∧ z.2 ≤ fJ.2 := fun z hz => V.bnd hq hz
  unfold vx_opJ
  split
  · refine ⟨vx_add_lt hp hq, ?_⟩
    rw [vx_add_ev]; exact Int64.ofInt_add _ _
  · refine ⟨vx_sub_lt hp hq, ?_⟩
    rw [vx_sub_ev]; exact Int64.ofInt_sub _ _
  · split
    · rename_i p' m
      cases hb : Nat.blt m 9223372036854775808
      · exact vx_fJ _
      · have ev2 : vx_ev ρ (Int.ofNat m, []) = (m : Int) := vx_c_ev _
        rw [ev2]
        exact vx_andJ hp bp (blt_lt hb)
    · rename_i q' m _
      cases hb : Nat.blt m 9223372036854775808
      · exact vx_fJ _
      · have ev2 : vx_ev ρ (Int.ofNat m, []) = (m : Int) := vx_c_ev _
        rw [ev2]
        have := vx_andJ (ρ := ρ) hq bq (blt_lt hb)
        show vx_sayJ ρ _ _ (Int64.ofInt (m : Int) &&& Int64.ofInt (vx_ev ρ q))
        rw [Int64.and_comm]
        exact this
    · exact vx_fJ _
  · exact vx_orJ bp bq
  · omega
  · exact vx_fJ _
theorem vx_opS_ok {k : Nat} {p q : LE} (hp : vx_lt (vs_n s) p) (hk : 24 ≤ k) : vx_sayJ ρ (vs_n s) (vx_opJ s k p q) (opP k (0, Int64.ofInt (vx_ev ρ p)) (Int32.ofInt (vx_ev ρ q), 0)).2 := by
  unfold vx_opJ
  split
  · omega
  · omega
  · omega
  · omega
  · split
    · rename_i c
      cases hb : Nat.blt c 64
      · exact vx_fJ _
      · refine ⟨vx_sc_lt hp, ?_⟩
        have ev2 : vx_ev ρ (Int.ofNat c, []) = (c : Int) := vx_c_ev _
        rw [vx_sc_ev, Int64.ofInt_mul, ev2]
        show Int64.ofInt ((2 ^ c : Nat) : Int) * _ = Int64.ofInt (vx_ev ρ p) <<< ((Int32.ofInt (c : Int)).toInt64 &&& 63)
        rw [Int64.ofInt_eq_ofNat, Int32.ofInt_eq_ofNat]
        exact (vx_shl64 _ (blt_lt hb)).symm
    · exact vx_fJ _
  · exact vx_fJ _
def vx_i2l (s : VS) (p : LE) : OPR := bif vx_in s p fI.1 fI.2 then .inl p else .inr fI
theorem vx_i2l_ok (V : VOk D κ h ρ τ s) {p : LE} (hp : vx_lt (vs_n s) p) : vx_sayJ ρ (vs_n s) (vx_i2l s p) (Int32.ofInt (vx_ev ρ p)).toInt64 := by
  unfold vx_i2l
  cases hb : vx_in s p fI.1 fI.2
  · show fI.1 ≤ (Int32.toInt64 _).toInt ∧ (Int32.toInt64 _).toInt ≤ fI.2
    rw [Int32.toInt_toInt64]; exact vx_fI _
  · obtain ⟨b1, b2⟩ := V.inn hp hb
    refine ⟨hp, ?_⟩
    apply Int64.toInt_inj.mp
    have b1' : -2147483648 ≤ vx_ev ρ p := b1
    have b2' : vx_ev ρ p ≤ 2147483647 := b2
    rw [Int32.toInt_toInt64, vx_oI b1' b2', vx_oJ (by omega) (by omega)]
theorem vx_l2i_ok {p : LE} : (Int64.ofInt (vx_ev ρ p)).toInt32 = Int32.ofInt (vx_ev ρ p) := Int64.toInt32_ofInt
def vx_i2b (s : VS) (p : LE) : OPR := bif vx_in s p (Int.negSucc 127) (Int.ofNat 127) then .inl p else .inr (Int.negSucc 127, Int.ofNat 127)
theorem vx_i2b_ok (V : VOk D κ h ρ τ s) {p : LE} (hp : vx_lt (vs_n s) p) : vx_sayI ρ (vs_n s) (vx_i2b s p) (Int32.ofInt (vx_ev ρ p)).toInt8.toInt32 := by
  have q0 : ∀ x : Int32, x.toInt8.toInt32.toInt = x.toInt.bmod (2 ^ 8) := fun x => by rw [Int8.toInt_toInt32, Int32.toInt_toInt8]
  unfold vx_i2b
  cases hb : vx_in s p (Int.negSucc 127) (Int.ofNat 127)
  · show (-128 : Int) ≤ _ ∧ _ ≤ (127 : Int)
    have h1 := Int8.le_toInt (Int32.ofInt (vx_ev ρ p)).toInt8
    have h2 := Int8.toInt_le (Int32.ofInt (vx_ev ρ p)).toInt8
    rw [Int8.toInt_toInt32]
    have e1 : Int8.maxValue.toInt = 127 := rfl
    exact ⟨h1, h2⟩
  · obtain ⟨b1, b2⟩ := V.inn hp hb
    have b1' : -128 ≤ vx_ev ρ p := b1
    have b2' : vx_ev ρ p ≤ 127 := b2
    refine ⟨hp, ?_⟩
    apply Int32.toInt_inj.mp
    rw [q0, vx_oI (by omega) (by omega), Int.bmod_eq_of_le (by omega) (by omega)]
/-- an exact term, or a fresh name -/
def vx_fin (s : VS) (o : OPR) : Option (VS × LE) := match o with
  | .inl l => some (s, l)
  | .inr b => vx_new s b.1 b.2
theorem vx_finI (V : VOk D κ h ρ τ s) {o : OPR} {x : Int32} (ho : vx_sayI ρ (vs_n s) o x) {s' : VS} {l : LE} (e : vx_fin s o = some (s', l)) : ∃ ρ', vx_on D κ h ρ τ s s' ρ' τ ∧ vx_lt (vs_n s') l ∧ Int32.ofInt (vx_ev ρ' l) = x ∧ vs_M s' = vs_M s ∧ vs_K s' = vs_K s := by
  unfold vx_fin at e
  split at e
  · cases e
    exact ⟨ρ, V.on, ho.1, ho.2, rfl, rfl⟩
  · obtain ⟨h1, h2, h3, h4, h5⟩ := V.new ho.1 ho.2 e
    exact ⟨_, h1, h2, by rw [h3]; exact Int32.ofInt_toInt x, h4, h5⟩
theorem vx_finJ (V : VOk D κ h ρ τ s) {o : OPR} {x : Int64} (ho : vx_sayJ ρ (vs_n s) o x) {s' : VS} {l : LE} (e : vx_fin s o = some (s', l)) : ∃ ρ', vx_on D κ h ρ τ s s' ρ' τ ∧ vx_lt (vs_n s') l ∧ Int64.ofInt (vx_ev ρ' l) = x ∧ vs_M s' = vs_M s ∧ vs_K s' = vs_K s := by
  unfold vx_fin at e
  split at e
  · cases e
    exact ⟨ρ, V.on, ho.1, ho.2, rfl, rfl⟩
  · obtain ⟨h1, h2, h3, h4, h5⟩ := V.new ho.1 ho.2 e
    exact ⟨_, h1, h2, by rw [h3]; exact Int64.ofInt_toInt x, h4, h5⟩
theorem vx_sign {x y : Int} (hx : -9223372036854775808 ≤ x ∧ x ≤ 9223372036854775807) (hy : -9223372036854775808 ≤ y ∧ y ≤ 9223372036854775807) : lg_cmp (Int64.ofInt x) (Int64.ofInt y) = Int32.ofInt (Int.sign (x - y)) := by
  have ex := vx_oJ hx.1 hx.2
  have ey := vx_oJ hy.1 hy.2
  unfold lg_cmp
  by_cases h1 : Int64.ofInt x > Int64.ofInt y
  · have g := Int64.lt_iff_toInt_lt.mp h1
    rw [ex, ey] at g
    rw [if_pos h1, Int.sign_eq_one_of_pos (by omega)]; rfl
  · rw [if_neg h1]
    have g : ¬ y < x := fun z => h1 (Int64.lt_iff_toInt_lt.mpr (by rw [ex, ey]; exact z))
    by_cases h2 : Int64.ofInt x = Int64.ofInt y
    · have g2 := congrArg Int64.toInt h2
      rw [ex, ey] at g2
      rw [if_pos h2, g2, Int.sub_self]; rfl
    · have g2 : x ≠ y := fun z => h2 (by rw [z])
      rw [if_neg h2, Int.sign_eq_neg_one_of_neg (by omega)]; rfl
end VXJ
