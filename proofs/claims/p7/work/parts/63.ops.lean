/-! operations on numbers: an exact term, or bounds of what comes out -/
abbrev OPR : Type := LE ⊕ (Int × Int)
def vx_LB (B : TR (Int × Int)) (l : LE) : List LE → Option Int → Option Int
  | [], x => x
  | f :: r, x => vx_LB B l r (match x, vx_lo B (vx_sub l f) with
    | some a, some b => some (vx_max a b)
    | some a, none => some a
    | none, b => b)
abbrev vx_low (s : VS) (l : LE) : Option Int := vx_LB (vs_B s) l (vs_F s) (vx_lo (vs_B s) l)
/-- bounds, if they lie within others -/
def vx_bnd (s : VS) (l : LE) (R : Int × Int) : Option (Int × Int) := match vx_low s l, vx_low s (vx_neg l) with
  | some a, some b => bif vx_ile R.1 a && vx_ile (-b) R.2 then some (a, -b) else none
  | _, _ => none
def vx_in (s : VS) (l : LE) (lo hi : Int) : Bool := vx_g s (vx_k l (-lo)) && vx_g s (vx_sub (vx_c hi) l)
abbrev fI : Int × Int := (Int.negSucc 2147483647, Int.ofNat 2147483647)
abbrev fJ : Int × Int := (Int.negSucc 9223372036854775807, Int.ofNat 9223372036854775807)
section VXO
variable {D : ft_G} {κ : Nat → Nat × Nat} {h : ft_H} {ρ : Nat → Int} {τ : Nat → Nat} {s : VS}
theorem vx_LB_ok {n : Nat} {B : TR (Int × Int)} (hB : BOk n ρ B) {l : LE} (hl : vx_lt n l) : ∀ {F : List LE} {x : Option Int} {y : Int}, FOk n ρ F → (∀ a, x = some a → a ≤ vx_ev ρ l) → vx_LB B l F x = some y → y ≤ vx_ev ρ l
  | [], x, y, _, hx, e => hx y e
  | f :: r, x, y, hF, hx, e => by
    refine vx_LB_ok hB hl (F := r) (fun z hz => hF z (List.mem_cons_of_mem _ hz)) (fun a ha => ?_) e
    have hf := hF f List.mem_cons_self
    have hb : ∀ b, vx_lo B (vx_sub l f) = some b → b ≤ vx_ev ρ l := fun b eb => by
      have q := vx_lo_ok hB (vx_sub_lt hl hf.1) eb
      rw [vx_sub_ev] at q
      have := hf.2
      omega
    split at ha
    · rename_i a1 b1 e1
      cases ha
      exact vx_max_ok (hx a1 rfl) (hb b1 e1)
    · cases ha; rename_i a1 e1; exact hx _ rfl
    · exact hb a ha
theorem VOk.low (V : VOk D κ h ρ τ s) {l : LE} (hl : vx_lt (vs_n s) l) {x : Int} (e : vx_low s l = some x) : x ≤ vx_ev ρ l := vx_LB_ok V.1 hl V.2.1 (fun _ ha => vx_lo_ok V.1 hl ha) e
theorem VOk.bnd (V : VOk D κ h ρ τ s) {l : LE} (hl : vx_lt (vs_n s) l) {R b : Int × Int} (e : vx_bnd s l R = some b) : b.1 ≤ vx_ev ρ l ∧ vx_ev ρ l ≤ b.2 ∧ R.1 ≤ b.1 ∧ b.2 ≤ R.2 := by
  unfold vx_bnd at e
  split at e
  · rename_i a c e1 e2
    cases hb : (vx_ile R.1 a && vx_ile (-c) R.2)
    · rw [hb] at e; cases e
    · rw [hb] at e; cases e
      rw [Bool.and_eq_true] at hb
      have q1 := V.low hl e1
      have q2 := V.low (vx_neg_lt hl) e2
      rw [vx_neg_ev] at q2
      exact ⟨q1, by show vx_ev ρ l ≤ -c; omega, vx_ile_ok hb.1, vx_ile_ok hb.2⟩
  · cases e
theorem VOk.inn (V : VOk D κ h ρ τ s) {l : LE} (hl : vx_lt (vs_n s) l) {lo hi : Int} (e : vx_in s l lo hi = true) : lo ≤ vx_ev ρ l ∧ vx_ev ρ l ≤ hi := by
  unfold vx_in at e
  rw [Bool.and_eq_true] at e
  have q1 := V.ge (vx_k_lt hl) e.1
  have q2 := V.ge (vx_sub_lt vx_c_lt hl) e.2
  rw [vx_k_ev] at q1
  rw [vx_sub_ev, vx_c_ev] at q2
  omega
end VXO
theorem vx_oI {x : Int} (h1 : -2147483648 ≤ x) (h2 : x ≤ 2147483647) : (Int32.ofInt x).toInt = x := Int32.toInt_ofInt_of_le (by omega) (by omega)
theorem vx_oJ {x : Int} (h1 : -9223372036854775808 ≤ x) (h2 : x ≤ 9223372036854775807) : (Int64.ofInt x).toInt = x := Int64.toInt_ofInt_of_le (by omega) (by omega)
theorem vx_fI (x : Int32) : fI.1 ≤ x.toInt ∧ x.toInt ≤ fI.2 := i32_b x
theorem vx_fJ (x : Int64) : fJ.1 ≤ x.toInt ∧ x.toInt ≤ fJ.2 := i64_b x
/-- what an exact term, or bounds, say of an int -/
def vx_sayI (ρ : Nat → Int) (n : Nat) (o : OPR) (x : Int32) : Prop := match o with
  | .inl l => vx_lt n l ∧ Int32.ofInt (vx_ev ρ l) = x
  | .inr b => b.1 ≤ x.toInt ∧ x.toInt ≤ b.2
def vx_sayJ (ρ : Nat → Int) (n : Nat) (o : OPR) (x : Int64) : Prop := match o with
  | .inl l => vx_lt n l ∧ Int64.ofInt (vx_ev ρ l) = x
  | .inr b => b.1 ≤ x.toInt ∧ x.toInt ≤ b.2
/-- how many bits a number has -/
def vx_bits : Nat → Nat → Nat
  | 0, _ => 0
  | f + 1, n => bif Nat.beq n 0 then 0 else vx_bits f (n / 2) + 1
theorem vx_bits_ok : ∀ (f n : Nat), n < 2 ^ f → n < 2 ^ vx_bits f n
  | 0, n, h => by
    have : n = 0 := by simpa using h
    subst this; exact Nat.one_pos
  | f + 1, n, h => by
    unfold vx_bits
    cases hb : Nat.beq n 0
    · simp only [cond_false]
      have := vx_bits_ok f (n / 2) (by rw [Nat.pow_succ] at h; omega)
      rw [Nat.pow_succ]; omega
    · rw [Nat.eq_of_beq_eq_true hb]; exact Nat.one_pos
/-- and, with a mask that is known; or and xor; shifts; division: of numbers that are known to be 0 or more -/
def vx_and (p : LE) (b : Option (Int × Int)) (m : Nat) : OPR := match b with
  | some (.ofNat a, .ofNat c) => let w := vx_bits 64 m
    bif Nat.beq (m + 1) (2 ^ w) && Nat.beq (a / 2 ^ w) (c / 2 ^ w) then .inl (vx_k p (-(Int.ofNat (a / 2 ^ w * 2 ^ w)))) else .inr (Int.ofNat 0, Int.ofNat (Nat.min m c))
  | _ => .inr (Int.ofNat 0, Int.ofNat m)
def vx_or (b c : Option (Int × Int)) (full : Int × Int) (W : Nat) : OPR := match b, c with
  | some (.ofNat _, .ofNat x), some (.ofNat _, .ofNat y) => let w := vx_bits 64 (Nat.max x y)
    bif Nat.ble w W then .inr (Int.ofNat 0, Int.ofNat (2 ^ w - 1)) else .inr full
  | _, _ => .inr full
theorem vx_andI {ρ : Nat → Int} {n : Nat} {p : LE} (hp : vx_lt n p) {b : Option (Int × Int)} (hb : ∀ z, b = some z → z.1 ≤ vx_ev ρ p ∧ vx_ev ρ p ≤ z.2 ∧ fI.1 ≤ z.1 ∧ z.2 ≤ fI.2) {m : Nat} (hm : m < 2147483648) : vx_sayI ρ n (vx_and p b m) (Int32.ofInt (vx_ev ρ p) &&& Int32.ofInt (m : Int)) := by
  have hmn : Int32.ofInt (m : Int) = nI m := Int32.ofInt_eq_ofNat
  have q0 := and_b32 (Int32.ofInt (vx_ev ρ p)) hm
  rw [hmn]
  unfold vx_and
  split
  · rename_i a c
    obtain ⟨b1, b2, b3, b4⟩ := hb _ rfl
    have c2 : fI.2 = 2147483647 := rfl
    have z1 : ((a : Nat) : Int) ≤ vx_ev ρ p := b1
    have z2 : vx_ev ρ p ≤ ((c : Nat) : Int) := b2
    have z4 : ((c : Nat) : Int) ≤ 2147483647 := b4
    obtain ⟨u, hu⟩ : ∃ u : Nat, vx_ev ρ p = (u : Int) := ⟨(vx_ev ρ p).toNat, by omega⟩
    rw [hu] at z1 z2 q0 ⊢
    have e1 : Int32.ofInt (u : Int) = nI u := Int32.ofInt_eq_ofNat
    have e2 : nI u &&& nI m = nI (u &&& m) := by
      rw [nI_andE, Nat.mod_eq_of_lt (by omega), Nat.mod_eq_of_lt (by omega)]; rfl
    simp only []
    cases hc : (Nat.beq (m + 1) (2 ^ vx_bits 64 m) && Nat.beq (a / 2 ^ vx_bits 64 m) (c / 2 ^ vx_bits 64 m))
    · simp only [cond_false]
      refine ⟨q0.1, ?_⟩
      rw [e1, e2] at q0 ⊢
      have q1 : u &&& m ≤ u := Nat.and_le_left
      have q2 : (nI (u &&& m)).toInt = ((u &&& m : Nat) : Int) := nI_tI (by omega)
      have q3 : u &&& m ≤ m := Nat.and_le_right
      show (nI (u &&& m)).toInt ≤ ((Nat.min m c : Nat) : Int)
      rw [q2]
      have : u &&& m ≤ Nat.min m c := Nat.le_min.mpr ⟨q3, by omega⟩
      omega
    · simp only [cond_true]
      rw [Bool.and_eq_true] at hc
      have c1 := Nat.eq_of_beq_eq_true hc.1
      have c3 := Nat.eq_of_beq_eq_true hc.2
      refine ⟨vx_k_lt hp, ?_⟩
      rw [vx_k_ev, hu, e1, e2]
      have hw : u / 2 ^ vx_bits 64 m = a / 2 ^ vx_bits 64 m := by
        have l1 : a / 2 ^ vx_bits 64 m ≤ u / 2 ^ vx_bits 64 m := Nat.div_le_div_right (by omega)
        have l2 : u / 2 ^ vx_bits 64 m ≤ c / 2 ^ vx_bits 64 m := Nat.div_le_div_right (by omega)
        omega
      have hmod : u &&& m = u % 2 ^ vx_bits 64 m := by
        rw [show m = 2 ^ vx_bits 64 m - 1 from by omega, Nat.and_two_pow_sub_one_eq_mod]
        rw [show 2 ^ vx_bits 64 m - 1 = m from by omega]
      rw [hmod, ← hw]
      have hd := Nat.div_add_mod u (2 ^ vx_bits 64 m)
      rw [Nat.mul_comm] at hd
      have : (u : Int) + -(Int.ofNat (u / 2 ^ vx_bits 64 m * 2 ^ vx_bits 64 m)) = ((u % 2 ^ vx_bits 64 m : Nat) : Int) := by
        show (u : Int) + -((u / 2 ^ vx_bits 64 m * 2 ^ vx_bits 64 m : Nat) : Int) = _
        omega
      rw [this]
      exact Int32.ofInt_eq_ofNat
  · exact q0

theorem vx_bits_mono {x y : Nat} (hy : y < 2 ^ 64) (h : x ≤ y) : x < 2 ^ vx_bits 64 y := Nat.lt_of_le_of_lt h (vx_bits_ok 64 y hy)
theorem vx_natI {x : Int} {a c : Nat} (h1 : Int.ofNat a ≤ x) (h2 : x ≤ Int.ofNat c) (h3 : c < 2147483648) : ∃ u : Nat, x = (u : Int) ∧ a ≤ u ∧ u ≤ c ∧ Int32.ofInt x = nI u := by
  have h1' : (a : Int) ≤ x := h1
  have h2' : x ≤ (c : Int) := h2
  refine ⟨x.toNat, by omega, by omega, by omega, ?_⟩
  rw [show x = ((x.toNat : Nat) : Int) from by omega]
  simp only [Int.toNat_natCast]
  exact Int32.ofInt_eq_ofNat
theorem vx_natJ {x : Int} {a c : Nat} (h1 : Int.ofNat a ≤ x) (h2 : x ≤ Int.ofNat c) : ∃ u : Nat, x = (u : Int) ∧ a ≤ u ∧ u ≤ c ∧ Int64.ofInt x = lN u := by
  have h1' : (a : Int) ≤ x := h1
  have h2' : x ≤ (c : Int) := h2
  refine ⟨x.toNat, by omega, by omega, by omega, ?_⟩
  rw [show x = ((x.toNat : Nat) : Int) from by omega]
  simp only [Int.toNat_natCast]
  exact Int64.ofInt_eq_ofNat
theorem vx_xorI {ρ : Nat → Int} {n : Nat} {p q : LE} {b c : Option (Int × Int)} (hb : ∀ z, b = some z → z.1 ≤ vx_ev ρ p ∧ vx_ev ρ p ≤ z.2 ∧ fI.1 ≤ z.1 ∧ z.2 ≤ fI.2) (hc : ∀ z, c = some z → z.1 ≤ vx_ev ρ q ∧ vx_ev ρ q ≤ z.2 ∧ fI.1 ≤ z.1 ∧ z.2 ≤ fI.2) : vx_sayI ρ n (vx_or b c fI 31) (Int32.ofInt (vx_ev ρ p) ^^^ Int32.ofInt (vx_ev ρ q)) := by
  unfold vx_or
  split
  · rename_i _ x _ y
    obtain ⟨b1, b2, b3, b4⟩ := hb _ rfl
    obtain ⟨c1, c2, c3, c4⟩ := hc _ rfl
    have b4' : (x : Int) ≤ 2147483647 := b4
    have c4' : (y : Int) ≤ 2147483647 := c4
    simp only []
    cases hw : Nat.ble (vx_bits 64 (Nat.max x y)) 31
    · exact vx_fI _
    · have hw' := Nat.le_of_ble_eq_true hw
      obtain ⟨u, -, -, u2, u3⟩ := vx_natI b1 b2 (by omega)
      obtain ⟨v, -, -, v2, v3⟩ := vx_natI c1 c2 (by omega)
      have hm : Nat.max x y < 2 ^ 64 := Nat.max_lt.mpr ⟨by omega, by omega⟩
      have l1 : u < 2 ^ vx_bits 64 (Nat.max x y) := vx_bits_mono hm (Nat.le_trans u2 (Nat.le_max_left _ _))
      have l2 : v < 2 ^ vx_bits 64 (Nat.max x y) := vx_bits_mono hm (Nat.le_trans v2 (Nat.le_max_right _ _))
      have l3 : u ^^^ v < 2 ^ vx_bits 64 (Nat.max x y) := Nat.xor_lt_two_pow l1 l2
      have l4 : 2 ^ vx_bits 64 (Nat.max x y) ≤ 2 ^ 31 := Nat.pow_le_pow_right (by decide) hw'
      have e : nI u ^^^ nI v = nI (u ^^^ v) := by
        apply Int32.toBitVec_inj.mp
        show BitVec.ofNat 32 u ^^^ BitVec.ofNat 32 v = BitVec.ofNat 32 _
        apply BitVec.eq_of_toNat_eq
        rw [BitVec.toNat_xor, BitVec.toNat_ofNat, BitVec.toNat_ofNat, BitVec.toNat_ofNat, Nat.mod_eq_of_lt (by omega), Nat.mod_eq_of_lt (by omega), Nat.mod_eq_of_lt (by omega)]
      rw [u3, v3, e]
      have e2 : (nI (u ^^^ v)).toInt = ((u ^^^ v : Nat) : Int) := nI_tI (by omega)
      show (0 : Int) ≤ _ ∧ _ ≤ ((2 ^ vx_bits 64 (Nat.max x y) - 1 : Nat) : Int)
      rw [e2]; omega
  · exact vx_fI _
theorem vx_orJ {ρ : Nat → Int} {n : Nat} {p q : LE} {b c : Option (Int × Int)} (hb : ∀ z, b = some z → z.1 ≤ vx_ev ρ p ∧ vx_ev ρ p ≤ z.2 ∧ fJ.1 ≤ z.1 ∧ z.2 ≤ fJ.2) (hc : ∀ z, c = some z → z.1 ≤ vx_ev ρ q ∧ vx_ev ρ q ≤ z.2 ∧ fJ.1 ≤ z.1 ∧ z.2 ≤ fJ.2) : vx_sayJ ρ n (vx_or b c fJ 63) (Int64.ofInt (vx_ev ρ p) ||| Int64.ofInt (vx_ev ρ q)) := by
  unfold vx_or
  split
  · rename_i _ x _ y
    obtain ⟨b1, b2, b3, b4⟩ := hb _ rfl
    obtain ⟨c1, c2, c3, c4⟩ := hc _ rfl
    have b4' : (x : Int) ≤ 9223372036854775807 := b4
    have c4' : (y : Int) ≤ 9223372036854775807 := c4
    simp only []
    cases hw : Nat.ble (vx_bits 64 (Nat.max x y)) 63
    · exact vx_fJ _
    · have hw' := Nat.le_of_ble_eq_true hw
      obtain ⟨u, -, -, u2, u3⟩ := vx_natJ b1 b2
      obtain ⟨v, -, -, v2, v3⟩ := vx_natJ c1 c2
      have hm : Nat.max x y < 2 ^ 64 := Nat.max_lt.mpr ⟨by omega, by omega⟩
      have l1 : u < 2 ^ vx_bits 64 (Nat.max x y) := vx_bits_mono hm (Nat.le_trans u2 (Nat.le_max_left _ _))
      have l2 : v < 2 ^ vx_bits 64 (Nat.max x y) := vx_bits_mono hm (Nat.le_trans v2 (Nat.le_max_right _ _))
      have l3 : u ||| v < 2 ^ vx_bits 64 (Nat.max x y) := Nat.or_lt_two_pow l1 l2
      have l4 : 2 ^ vx_bits 64 (Nat.max x y) ≤ 2 ^ 63 := Nat.pow_le_pow_right (by decide) hw'
      rw [u3, v3, wb_or (by omega) (by omega)]
      have e2 : (lN (u ||| v)).toInt = ((u ||| v : Nat) : Int) := lN_tI (by omega)
      show (0 : Int) ≤ _ ∧ _ ≤ ((2 ^ vx_bits 64 (Nat.max x y) - 1 : Nat) : Int)
      rw [e2]; omega
  · exact vx_fJ _
theorem vx_andJ {ρ : Nat → Int} {n : Nat} {p : LE} (hp : vx_lt n p) {b : Option (Int × Int)} (hb : ∀ z, b = some z → z.1 ≤ vx_ev ρ p ∧ vx_ev ρ p ≤ z.2 ∧ fJ.1 ≤ z.1 ∧ z.2 ≤ fJ.2) {m : Nat} (hm : m < 9223372036854775808) : vx_sayJ ρ n (vx_and p b m) (Int64.ofInt (vx_ev ρ p) &&& Int64.ofInt (m : Int)) := by
  have hmn : Int64.ofInt (m : Int) = lN m := Int64.ofInt_eq_ofNat
  have q0 := and_b64 (Int64.ofInt (vx_ev ρ p)) hm
  rw [hmn]
  unfold vx_and
  split
  · rename_i a c
    obtain ⟨b1, b2, b3, b4⟩ := hb _ rfl
    have b4' : (c : Int) ≤ 9223372036854775807 := b4
    obtain ⟨u, hu, u1, u2, u3⟩ := vx_natJ b1 b2
    rw [u3] at q0 ⊢
    have e2 : lN u &&& lN m = lN (u &&& m) := wb_and (by omega) (by omega)
    simp only []
    cases hc : (Nat.beq (m + 1) (2 ^ vx_bits 64 m) && Nat.beq (a / 2 ^ vx_bits 64 m) (c / 2 ^ vx_bits 64 m))
    · simp only [cond_false]
      refine ⟨q0.1, ?_⟩
      rw [e2]
      have q1 : u &&& m ≤ u := Nat.and_le_left
      have q3 : u &&& m ≤ m := Nat.and_le_right
      have q2 : (lN (u &&& m)).toInt = ((u &&& m : Nat) : Int) := lN_tI (by omega)
      show (lN (u &&& m)).toInt ≤ ((Nat.min m c : Nat) : Int)
      rw [q2]
      have : u &&& m ≤ Nat.min m c := Nat.le_min.mpr ⟨q3, by omega⟩
      omega
    · simp only [cond_true]
      rw [Bool.and_eq_true] at hc
      have c1 := Nat.eq_of_beq_eq_true hc.1
      have c3 := Nat.eq_of_beq_eq_true hc.2
      refine ⟨vx_k_lt hp, ?_⟩
      rw [vx_k_ev, hu, e2]
      have hw : u / 2 ^ vx_bits 64 m = a / 2 ^ vx_bits 64 m := by
        have l1 : a / 2 ^ vx_bits 64 m ≤ u / 2 ^ vx_bits 64 m := Nat.div_le_div_right (by omega)
        have l2 : u / 2 ^ vx_bits 64 m ≤ c / 2 ^ vx_bits 64 m := Nat.div_le_div_right (by omega)
        omega
      have hmod : u &&& m = u % 2 ^ vx_bits 64 m := by
        rw [show m = 2 ^ vx_bits 64 m - 1 from by omega, Nat.and_two_pow_sub_one_eq_mod]
        rw [show 2 ^ vx_bits 64 m - 1 = m from by omega]
      rw [hmod, ← hw]
      have hd := Nat.div_add_mod u (2 ^ vx_bits 64 m)
      rw [Nat.mul_comm] at hd
      have : (u : Int) + -(Int.ofNat (u / 2 ^ vx_bits 64 m * 2 ^ vx_bits 64 m)) = ((u % 2 ^ vx_bits 64 m : Nat) : Int) := by
        show (u : Int) + -((u / 2 ^ vx_bits 64 m * 2 ^ vx_bits 64 m : Nat) : Int) = _
        omega
      rw [this]
      exact Int64.ofInt_eq_ofNat
  · exact q0
/-- the operations, by their numbers: 0 add, 1 sub, 2 mul, 3 and, 4 or, 5 xor, 6 shl, 7 shr, 8 div, 9 rem of ints -/
def vx_opI (s : VS) (k : Nat) (p q : LE) : Option OPR := match k with
  | 0 => some (.inl (vx_add p q))
  | 1 => some (.inl (vx_sub p q))
  | 2 => some (match q.2, p.2 with
    | [], _ => .inl (vx_sc q.1 p)
    | _, [] => .inl (vx_sc p.1 q)
    | _, _ => .inr fI)
  | 3 => some (match q, p with
    | (.ofNat m, []), p => bif Nat.blt m 2147483648 then vx_and p (vx_bnd s p fI) m else .inr fI
    | q, (.ofNat m, []) => bif Nat.blt m 2147483648 then vx_and q (vx_bnd s q fI) m else .inr fI
    | _, _ => .inr fI)
  | 4 => some (.inr fI)
  | 5 => some (vx_or (vx_bnd s p fI) (vx_bnd s q fI) fI 31)
  | 6 => some (match q with
    | (.ofNat c, []) => bif Nat.blt c 32 then .inl (vx_sc (Int.ofNat (2 ^ c)) p) else .inr fI
    | _ => .inr fI)
  | 7 => some (match q with
    | (.ofNat c, []) => (match vx_bnd s p fI with
      | some (.ofNat a, .ofNat b) => bif Nat.blt c 32 then .inr (Int.ofNat (a / 2 ^ c), Int.ofNat (b / 2 ^ c)) else .inr fI
      | _ => .inr fI)
    | _ => .inr fI)
  | 8 => (match q with
    | (.ofNat (c + 1), []) => bif Nat.blt (c + 1) 2147483648 then some (.inr fI) else none
    | _ => none)
  | 9 => (match q with
    | (.ofNat (c + 1), []) => bif Nat.blt (c + 1) 2147483648 then some (match vx_bnd s p fI with
      | some (.ofNat _, .ofNat _) => .inr (Int.ofNat 0, Int.ofNat c)
      | _ => .inr fI) else none
    | _ => none)
  | _ => none
theorem vx_smod32 : ∀ k, k < 32 → (((nI k &&& 31 : Int32)).toBitVec.smod 32).toNat = k := by decide +kernel
theorem vx_shl32 (x : Int32) {k : Nat} (hk : k < 32) : x <<< (nI k &&& 31) = nI (2 ^ k) * x := by
  obtain ⟨n, hn, rfl⟩ := wb_of32 x
  apply Int32.toBitVec_inj.mp
  apply BitVec.eq_of_toNat_eq
  rw [pk_shl _ _ k (vx_smod32 k hk), nI_mulE, Nat.mul_comm (2 ^ k) n]
  show (BitVec.ofNat 32 n).toNat * 2 ^ k % 2 ^ 32 = (BitVec.ofNat 32 (n * 2 ^ k)).toNat
  rw [BitVec.toNat_ofNat, BitVec.toNat_ofNat, Nat.mod_eq_of_lt hn]
section VXOP
variable {D : ft_G} {κ : Nat → Nat × Nat} {h : ft_H} {ρ : Nat → Int} {τ : Nat → Nat} {s : VS}
theorem vx_evc {l : LE} (h : l.2 = []) : vx_ev ρ l = l.1 := by
  unfold vx_ev
  rw [h]
  show l.1 + 0 = l.1
  omega
theorem vx_opI_ok (V : VOk D κ h ρ τ s) {k : Nat} {p q : LE} (hp : vx_lt (vs_n s) p) (hq : vx_lt (vs_n s) q) {o : OPR} (e : vx_opI s k p q = some o) : vx_sayI ρ (vs_n s) o (opP k (Int32.ofInt (vx_ev ρ p), 0) (Int32.ofInt (vx_ev ρ q), 0)).1 ∧ (8 ≤ k → ¬ Int32.ofInt (vx_ev ρ q) = 0) := by
  have bp : ∀ z, vx_bnd s p fI = some z → z.1 ≤ vx_ev ρ p ∧ vx_ev ρ p ≤ z.2 ∧ fI.1 ≤ z.1 ∧ z.2 ≤ fI.2 := fun z hz => V.bnd hp hz
  have bq : ∀ z, vx_bnd s q fI = some z → z.1 ≤ vx_ev ρ q ∧ vx_ev ρ q ≤ z.2 ∧ fI.1 ≤ z.1 ∧ z.2 ≤ fI.2 := fun z hz => V.bnd hq hz
  unfold vx_opI at e
  split at e
  · cases e
    refine ⟨⟨vx_add_lt hp hq, ?_⟩, fun z => by omega⟩
    rw [vx_add_ev]; exact Int32.ofInt_add _ _
  · cases e
    refine ⟨⟨vx_sub_lt hp hq, ?_⟩, fun z => by omega⟩
    rw [vx_sub_ev]; exact Int32.ofInt_sub _ _
  · cases e
    refine ⟨?_, fun z => by omega⟩
    split
    · rename_i hq0
      refine ⟨vx_sc_lt hp, ?_⟩
      rw [vx_sc_ev, Int32.ofInt_mul, vx_evc hq0, Int32.mul_comm]; rfl
    · rename_i hp0 _
      refine ⟨vx_sc_lt hq, ?_⟩
      rw [vx_sc_ev, Int32.ofInt_mul, vx_evc hp0]; rfl
    · exact vx_fI _
  · cases e
    refine ⟨?_, fun z => by omega⟩
    split
    · rename_i p' m
      cases hb : Nat.blt m 2147483648
      · exact vx_fI _
      · have ev2 : vx_ev ρ (Int.ofNat m, []) = (m : Int) := vx_c_ev _
        rw [ev2]
        exact vx_andI hp bp (blt_lt hb)
    · rename_i q' m _
      cases hb : Nat.blt m 2147483648
      · exact vx_fI _
      · have ev2 : vx_ev ρ (Int.ofNat m, []) = (m : Int) := vx_c_ev _
        rw [ev2]
        have := vx_andI (ρ := ρ) hq bq (blt_lt hb)
        show vx_sayI ρ _ _ (Int32.ofInt (m : Int) &&& Int32.ofInt (vx_ev ρ q))
        rw [Int32.and_comm]
        exact this
    · exact vx_fI _
  · cases e
    exact ⟨vx_fI _, fun z => by omega⟩
  · cases e
    exact ⟨vx_xorI bp bq, fun z => by omega⟩
  · cases e
    refine ⟨?_, fun z => by omega⟩
    split
    · rename_i c
      cases hb : Nat.blt c 32
      · exact vx_fI _
      · refine ⟨vx_sc_lt hp, ?_⟩
        have ev2 : vx_ev ρ (Int.ofNat c, []) = (c : Int) := vx_c_ev _
        rw [vx_sc_ev, Int32.ofInt_mul, ev2]
        show Int32.ofInt ((2 ^ c : Nat) : Int) * _ = Int32.ofInt (vx_ev ρ p) <<< (Int32.ofInt (c : Int) &&& 31)
        rw [Int32.ofInt_eq_ofNat, Int32.ofInt_eq_ofNat]
        exact (vx_shl32 _ (blt_lt hb)).symm
    · exact vx_fI _
  · cases e
    refine ⟨?_, fun z => by omega⟩
    split
    · rename_i c
      split
      · rename_i a b hbb
        cases hb : Nat.blt c 32
        · exact vx_fI _
        · obtain ⟨b1, b2, b3, b4⟩ := bp _ hbb
          have b4' : (b : Int) ≤ 2147483647 := b4
          obtain ⟨u, hu, u1, u2, u3⟩ := vx_natI b1 b2 (by omega)
          have ev2 : vx_ev ρ (Int.ofNat c, []) = (c : Int) := vx_c_ev _
          rw [ev2]
          show vx_sayI ρ _ _ (Int32.ofInt (vx_ev ρ p) >>> (Int32.ofInt (c : Int) &&& 31))
          rw [u3, Int32.ofInt_eq_ofNat]
          have e3 : nI u >>> (nI c &&& 31) = nI (u / 2 ^ c) := pk_shrN (by omega) _ c (vx_smod32 c (blt_lt hb))
          have e4 : Int32.ofNat c = nI c := rfl
          rw [e4, e3]
          have l1 : a / 2 ^ c ≤ u / 2 ^ c := Nat.div_le_div_right u1
          have l2 : u / 2 ^ c ≤ b / 2 ^ c := Nat.div_le_div_right u2
          have l3 : u / 2 ^ c ≤ u := Nat.div_le_self _ _
          have e5 : (nI (u / 2 ^ c)).toInt = ((u / 2 ^ c : Nat) : Int) := nI_tI (by omega)
          show ((a / 2 ^ c : Nat) : Int) ≤ _ ∧ _ ≤ ((b / 2 ^ c : Nat) : Int)
          rw [e5]; omega
      · exact vx_fI _
    · exact vx_fI _
  · split at e
    · rename_i c
      cases hb : Nat.blt (c + 1) 2147483648
      · rw [hb] at e; cases e
      · rw [hb] at e
        cases e
        refine ⟨vx_fI _, fun _ z => ?_⟩
        have ev2 : vx_ev ρ (Int.ofNat (c + 1), []) = ((c + 1 : Nat) : Int) := vx_c_ev _
        rw [ev2, Int32.ofInt_eq_ofNat] at z
        have z2 := congrArg Int32.toInt z
        have z3 : (nI (c + 1)).toInt = ((c + 1 : Nat) : Int) := nI_tI (blt_lt hb)
        have z4 : (0 : Int32).toInt = 0 := rfl
        have z5 : (Int32.ofNat (c + 1)).toInt = ((c + 1 : Nat) : Int) := z3
        rw [z5, z4] at z2
        omega
    · cases e
  · split at e
    · rename_i c
      cases hb : Nat.blt (c + 1) 2147483648
      · rw [hb] at e; cases e
      · rw [hb] at e
        cases e
        have ev2 : vx_ev ρ (Int.ofNat (c + 1), []) = ((c + 1 : Nat) : Int) := vx_c_ev _
        rw [ev2, Int32.ofInt_eq_ofNat]
        have z3 : (nI (c + 1)).toInt = ((c + 1 : Nat) : Int) := nI_tI (blt_lt hb)
        refine ⟨?_, fun _ z => ?_⟩
        · split
          · rename_i a b hbb
            obtain ⟨b1, b2, b3, b4⟩ := bp _ hbb
            have b4' : (b : Int) ≤ 2147483647 := b4
            obtain ⟨u, hu, u1, u2, u3⟩ := vx_natI b1 b2 (by omega)
            show vx_sayI ρ _ _ (Int32.ofInt (vx_ev ρ p) - Int32.ofInt (vx_ev ρ p) / nI (c + 1) * nI (c + 1))
            rw [u3, pk_rem (by omega) (Nat.succ_pos c) (by have := blt_lt hb; omega)]
            have l1 : u % (c + 1) < c + 1 := Nat.mod_lt _ (Nat.succ_pos c)
            have l2 := blt_lt hb
            have e5 : (nI (u % (c + 1))).toInt = ((u % (c + 1) : Nat) : Int) := nI_tI (by omega)
            show (0 : Int) ≤ _ ∧ _ ≤ (c : Int)
            rw [e5]; omega
          · exact vx_fI _
        · have z2 := congrArg Int32.toInt z
          have z4 : (0 : Int32).toInt = 0 := rfl
          have z5 : (Int32.ofNat (c + 1)).toInt = ((c + 1 : Nat) : Int) := z3
          rw [z5, z4] at z2
          omega
    · cases e
  · cases e
end VXOP
