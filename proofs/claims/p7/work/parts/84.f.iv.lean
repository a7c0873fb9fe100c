/-! the heap behind both constructors: every place has its form -/
def iv_int (n : Nat) : Int := bif Nat.blt n 2147483648 then Int.ofNat n else Int.negSucc (4294967295 - n)
def iv_lng (n : Nat) : Int := bif Nat.blt n 9223372036854775808 then Int.ofNat n else Int.negSucc (18446744073709551615 - n)
def iv_ae (H : AH) (m : Nat) (f : FM) (a : AE) : Bool := match f.1 with
  | 0 => (match a with
    | .leaf (0, n) => Nat.blt n 4294967296 && (vx_ile f.2.1 (iv_int n) && vx_ile (iv_int n) f.2.2)
    | a => aI a && (vx_ile f.2.1 fI.1 && vx_ile fI.2 f.2.2))
  | 1 => (match a with
    | .leaf (1, n) => Nat.blt n 18446744073709551616 && (vx_ile f.2.1 (iv_lng n) && vx_ile (iv_lng n) f.2.2)
    | a => aL a && (vx_ile f.2.1 fJ.1 && vx_ile fJ.2 f.2.2))
  | 2 => (match a with
    | .leaf (2, o) => (match tG H.2 o with
      | some c => Nat.beq c.1 f.2.1.toNat && Nat.beq c.2.1 f.2.2.toNat
      | none => false)
    | _ => false)
  | 3 => (match a with
    | .leaf (2, o) => (match tG H.2 o with
      | some c => Nat.beq c.1 f.2.1.toNat && Nat.beq c.2.1 (f.2.2.toNat * m)
      | none => false)
    | _ => false)
  | 4 => (match a with
    | .leaf (0, n) => Nat.beq n m
    | _ => false)
  | _ => true
def iv_cell (H : AH) (c : CE) : Bool := bif Nat.blt 12 c.1 then (bif Nat.ble c.2.1 60 then (List.range c.2.1).all (fun j => iv_ae H c.2.1 (vx_fm c.1 j) (cA c j)) else match tG vx_fO c.1, c.2.2.1 with
    | none, some (a, _) => (bif Nat.beq c.1 kd_M_due then iv_ae H c.2.1 (0, Int.ofNat 0, Int.ofNat 7) a && iv_ae H c.2.1 (0, fI.1, fI.2) a else iv_ae H c.2.1 (vx_fm c.1 0) a) && (tL c.2.2.2).all (fun q => iv_ae H c.2.1 (vx_fm c.1 q.1) q.2)
    | _, _ => false)
  else Nat.blt 0 c.1 && (List.range 66).all (fun j => iv_ae H c.2.1 (vx_fm c.1 j) (cA c j))
def iv_all (H : AH) : Bool := (tL H.2).all (fun q => iv_cell H q.2)
theorem iv_fO : ((tL vx_fO).all fun q => (tL q.2).all fun z => Nat.blt z.1 66) = true := by decide +kernel
theorem iv_big {c j : Nat} (hj : 66 ≤ j) (hc : Nat.blt 12 c = false) (hd : Nat.beq c kd_M_due = false) (hR : tG vx_fR c = none) : vx_fm c j = (9, Int.ofNat 0, Int.ofNat 0) := by
  unfold vx_fm
  rw [hd]
  simp only [cond_false]
  split
  · rename_i t ht
    split
    · rename_i f hf
      have := blt_lt (List.all_eq_true.mp (List.all_eq_true.mp iv_fO _ (tL_ok ht)) _ (tL_ok hf))
      omega
    · rfl
  · rw [hR]
section IVV
variable {D : ft_G} {ρ : Nat → Int32} {σ : Nat → Int64} {h0 : ft_H}
theorem iv_intE {n : Nat} (h : n < 4294967296) : Int32.ofInt (iv_int n) = nI n := by
  unfold iv_int
  cases hb : Nat.blt n 2147483648
  · simp only [cond_false]
    have q := blt_nlt hb
    apply Int32.toInt_inj.mp
    have e : (Int.negSucc (4294967295 - n) : Int) = (n : Int) - 4294967296 := by rw [Int.negSucc_eq]; omega
    rw [e, vx_oI (by omega) (by omega), nI_tI2]
    unfold sgn
    omega
  · exact Int32.ofInt_eq_ofNat
theorem iv_lngE {n : Nat} (h : n < 18446744073709551616) : Int64.ofInt (iv_lng n) = lN n := vx_kJ_ok h
theorem iv_ae_ok {H : AH} {m : Nat} {f : FM} {a : AE} (e : iv_ae H m f a = true) : vx_fok (hD D ρ σ h0 H).2.1 m f (aD D ρ σ a) := by
  unfold iv_ae at e
  unfold vx_fok
  split at e
  · rename_i e0
    rw [e0]
    split at e
    · rename_i n
      rw [Bool.and_eq_true, Bool.and_eq_true] at e
      refine ⟨iv_int n, vx_ile_ok e.2.1, vx_ile_ok e.2.2, ?_⟩
      rw [aD_I rfl, iv_intE (blt_lt e.1)]; rfl
    · rw [Bool.and_eq_true, Bool.and_eq_true] at e
      rw [aD_I e.1]
      have hx := vx_fI (eP ρ σ a).1
      refine ⟨(eP ρ σ a).1.toInt, Int.le_trans (vx_ile_ok e.2.1) hx.1, Int.le_trans hx.2 (vx_ile_ok e.2.2), by rw [Int32.ofInt_toInt]⟩
  · rename_i e0
    rw [e0]
    split at e
    · rename_i n
      rw [Bool.and_eq_true, Bool.and_eq_true] at e
      refine ⟨iv_lng n, vx_ile_ok e.2.1, vx_ile_ok e.2.2, ?_⟩
      rw [aD_L rfl, iv_lngE (blt_lt e.1)]; rfl
    · rw [Bool.and_eq_true, Bool.and_eq_true] at e
      rw [aD_L e.1]
      have hx := vx_fJ (eP ρ σ a).2
      refine ⟨(eP ρ σ a).2.toInt, Int.le_trans (vx_ile_ok e.2.1) hx.1, Int.le_trans hx.2 (vx_ile_ok e.2.2), by rw [Int64.ofInt_toInt]⟩
  · rename_i e0
    rw [e0]
    split at e
    · rename_i o
      split at e
      · rename_i c hc
        rw [Bool.and_eq_true] at e
        refine ⟨ft_B D + o, rfl, ?_⟩
        rw [hD_K hc]
        exact Prod.ext (Nat.eq_of_beq_eq_true e.1) (Nat.eq_of_beq_eq_true e.2)
      · cases e
    · cases e
  · rename_i e0
    rw [e0]
    split at e
    · rename_i o
      split at e
      · rename_i c hc
        rw [Bool.and_eq_true] at e
        refine ⟨ft_B D + o, rfl, ?_⟩
        rw [hD_K hc]
        exact Prod.ext (Nat.eq_of_beq_eq_true e.1) (Nat.eq_of_beq_eq_true e.2)
      · cases e
    · cases e
  · rename_i e0
    rw [e0]
    split at e
    · rename_i n
      rw [← Nat.eq_of_beq_eq_true e, aD_I rfl]
      show Value.int (nI n) = Value.int (Int32.ofInt (n : Int))
      rw [Int32.ofInt_eq_ofNat]; rfl
    · cases e
  · rename_i n0 n1 n2 n3 n4
    split
    · rename_i q; exact absurd q n0
    · rename_i q; exact absurd q n1
    · rename_i q; exact absurd q n2
    · rename_i q; exact absurd q n3
    · rename_i q; exact absurd q n4
    · trivial
theorem iv_R12 : ((tL vx_fR).all fun q => Nat.blt 12 q.1) = true := by decide +kernel
theorem iv_cell_ok {H : AH} {c : CE} (e : iv_cell H c = true) : c.1 ≠ 0 ∧ ∀ j : Nat, (Nat.blt 12 c.1 = true → j < c.2.1) → vx_fok (hD D ρ σ h0 H).2.1 c.2.1 (vx_fm c.1 j) (aD D ρ σ (cA c j)) := by
  unfold iv_cell at e
  cases hb : Nat.blt 12 c.1
  · rw [hb] at e
    simp only [cond_false] at e
    rw [Bool.and_eq_true] at e
    have c0 := blt_lt e.1
    refine ⟨by omega, fun j _ => ?_⟩
    by_cases hj : j < 66
    · exact iv_ae_ok (List.all_eq_true.mp e.2 j (List.mem_range.mpr hj))
    · have hd : Nat.beq c.1 kd_M_due = false := by
        cases hq : Nat.beq c.1 kd_M_due
        · rfl
        · have := Nat.eq_of_beq_eq_true hq
          rw [this] at hb; cases hb
      have hR : tG vx_fR c.1 = none := by
        cases hq : tG vx_fR c.1 with
        | none => rfl
        | some f =>
          have := List.all_eq_true.mp iv_R12 _ (tL_ok hq)
          have h2 : Nat.blt 12 c.1 = true := this
          rw [hb] at h2; cases h2
      rw [iv_big (by omega) hb hd hR]
      trivial
  · rw [hb] at e
    simp only [cond_true] at e
    have c12 := blt_lt hb
    refine ⟨by omega, fun j hj => ?_⟩
    have hj' := hj rfl
    cases hs : Nat.ble c.2.1 60
    case true =>
      rw [hs] at e
      simp only [cond_true] at e
      exact iv_ae_ok (List.all_eq_true.mp e j (List.mem_range.mpr hj'))
    case false =>
    rw [hs] at e
    simp only [cond_false] at e
    split at e
    · rename_i a b hO hc
      rw [Bool.and_eq_true] at e
      unfold cA
      split
      · rename_i v hv
        exact iv_ae_ok (List.all_eq_true.mp e.2 _ (tL_ok hv))
      · rw [hc]
        have hlt : Nat.blt j c.2.1 = true := Nat.ble_eq_true_of_le hj'
        simp only [hlt, cond_true]
        have e1 := e.1
        cases hd : Nat.beq c.1 kd_M_due
        · rw [hd] at e1
          simp only [cond_false] at e1
          have hu : vx_fm c.1 j = vx_fm c.1 0 := by
            unfold vx_fm
            rw [hd, hO]
            rfl
          rw [hu]
          exact iv_ae_ok e1
        · rw [hd] at e1
          simp only [cond_true] at e1
          rw [Bool.and_eq_true] at e1
          unfold vx_fm
          rw [hd]
          simp only [cond_true]
          cases Nat.beq (j % 8) 0
          · exact iv_ae_ok e1.2
          · exact iv_ae_ok e1.1
    · cases e
theorem iv_ok {H : AH} (e : iv_all H = true) (hk : ∀ a, h0.2.1 a = (0, 0)) : vx_I D (hD D ρ σ h0 H).2.1 (hD D ρ σ h0 H).2.2 (hD D ρ σ h0 H) := by
  have cell : ∀ a, ((hD D ρ σ h0 H).2.1 a).1 ≠ 0 → ∃ o c, a = ft_B D + o ∧ tG H.2 o = some c := fun a ha => by
    have ha' : ((if a < ft_B D then h0.2.1 a else match tG H.2 (a - ft_B D) with
      | some c => (c.1, c.2.1)
      | none => h0.2.1 a) : Nat × Nat).1 ≠ 0 := ha
    by_cases hlt : a < ft_B D
    · rw [if_pos hlt, hk] at ha'
      exact absurd rfl ha'
    · rw [if_neg hlt] at ha'
      split at ha'
      · rename_i c hc
        exact ⟨a - ft_B D, c, by omega, hc⟩
      · rw [hk] at ha'
        exact absurd rfl ha'
  refine ⟨rfl, fun a ha => ?_, fun a k ha hkk => ?_⟩
  · obtain ⟨o, c, rfl, -⟩ := cell a ha
    exact Nat.le_add_right _ _
  · obtain ⟨o, c, rfl, hc⟩ := cell a ha
    have q := (iv_cell_ok (D := D) (ρ := ρ) (σ := σ) (h0 := h0) (List.all_eq_true.mp e _ (tL_ok hc))).2 k
    rw [hD_K hc, hD_V hc] at *
    exact q hkk
end IVV
set_option maxRecDepth 100000 in
theorem iv_hp3 : iv_all hp3 = true := by decide +kernel
