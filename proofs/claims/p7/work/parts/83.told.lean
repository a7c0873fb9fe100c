/-! Math.floorMod by a positive number, told -/
theorem vx_xs (x : Int32) {c : Nat} (hc : c < 2147483648) : (0 : Int32) ≤ x ^^^ nI c ↔ 0 ≤ x.toInt := by
  have mb : (BitVec.ofNat 32 c).msb = false := by
    rw [BitVec.msb_eq_toInt]
    have : (nI c).toInt = (c : Int) := nI_tI hc
    have e : (BitVec.ofNat 32 c).toInt = (c : Int) := this
    rw [e]
    exact decide_eq_false (by omega)
  have m1 : (x.toBitVec ^^^ BitVec.ofNat 32 c).msb = x.toBitVec.msb := by rw [BitVec.msb_xor, mb, Bool.xor_false]
  rw [BitVec.msb_eq_toInt, BitVec.msb_eq_toInt, decide_eq_decide] at m1
  rw [Int32.le_iff_toInt_le]
  have e1 : (x ^^^ nI c).toInt = (x.toBitVec ^^^ BitVec.ofNat 32 c).toInt := rfl
  have e2 : x.toInt = x.toBitVec.toInt := rfl
  have e3 : (0 : Int32).toInt = 0 := rfl
  rw [e1, e2, e3]
  omega
theorem vx_rm (x : Int32) {c : Nat} (h0 : 0 < c) (hc : c < 2147483648) : ∃ m : Int, x - x / nI c * nI c = Int32.ofInt m ∧ (0 ≤ x.toInt → 0 ≤ m ∧ m < (c : Int)) ∧ (x.toInt < 0 → -(c : Int) < m ∧ m ≤ 0) := by
  have hx := i32_b x
  have hcI : nI c = Int32.ofInt (c : Int) := Int32.ofInt_eq_ofNat.symm
  have q : x / nI c = Int32.ofInt (x.toInt.tdiv (c : Int)) := by
    apply Int32.toInt_inj.mp
    rw [Int32.toInt_div_of_ne_right _ _ (by
      intro e
      have := congrArg Int32.toInt e
      rw [nI_tI hc] at this
      have h2 : (-1 : Int32).toInt = -1 := by decide
      omega), nI_tI hc]
    have b1 : (x.toInt.tdiv (c : Int)).natAbs ≤ x.toInt.natAbs := Int.natAbs_tdiv_le_natAbs _ _
    by_cases hs : 0 ≤ x.toInt
    · have := Int.tdiv_nonneg hs (Int.natCast_nonneg c)
      rw [vx_oI (by omega) (by omega)]
    · have h3 : x.toInt.tdiv (c : Int) ≤ 0 := by
        have := Int.tdiv_nonneg (a := -x.toInt) (by omega) (Int.natCast_nonneg c)
        rw [Int.neg_tdiv] at this
        omega
      rw [vx_oI (by omega) (by omega)]
  refine ⟨x.toInt.tmod (c : Int), ?_, fun hs => ⟨Int.tmod_nonneg _ hs, Int.tmod_lt_of_pos _ (by omega)⟩, fun hs => ?_⟩
  · rw [q, hcI, ← Int32.ofInt_mul]
    have e : x = Int32.ofInt x.toInt := (Int32.ofInt_toInt x).symm
    have e2 : x.toInt.tmod (c : Int) = x.toInt - x.toInt.tdiv (c : Int) * (c : Int) := by
      have := Int.tdiv_mul_add_tmod x.toInt (c : Int)
      omega
    rw [e2, Int32.ofInt_sub]
    rw [← e]
  · have h1 := Int.tmod_nonneg (a := -x.toInt) (c : Int) (by omega)
    have h2 := Int.tmod_lt_of_pos (-x.toInt) (b := (c : Int)) (by omega)
    rw [Int.neg_tmod] at h1 h2
    omega
section VXFM
variable {D : ft_G} {κ : Nat → Nat × Nat} {n : Nat}
theorem vx_fm2 {h : ft_H} {x : Int32} {c : Nat} (h0 : 0 < c) (hc : c < 2147483648) : sm D y_Math_floorMod 0 (lv_args 0 [.int x, .int (nI c)]) [] h 0 0 (fun v h' => (∃ m : Int, 0 ≤ m ∧ m < (c : Int) ∧ v = some (.int (Int32.ofInt m))) ∧ h' = h) := by
  obtain ⟨m, m1, m2, m3⟩ := vx_rm x h0 hc
  have hne : ¬ nI c = 0 := fun z => by
    have := congrArg Int32.toInt z
    rw [nI_tI hc] at this
    have z3 : (0 : Int32).toInt = 0 := rfl
    omega
  refine ft_run_ok k_Math_floorMod 7 _ _ _ _ [] rfl ⟨hne, trivial⟩ ?_
  refine r_if k_Math_floorMod rfl rfl (fun c1 => ?_) (fun c1 => ?_)
  · refine ft_run_ok k_Math_floorMod 1 _ _ _ _ [] rfl trivial ?_
    have c1' : 0 ≤ x.toInt := (vx_xs x hc).mp c1
    exact r_ret (v := some (.int _)) k_Math_floorMod rfl trivial (Nat.le_of_ble_eq_true rfl) (Nat.le_of_ble_eq_true rfl) ⟨⟨m, (m2 c1').1, (m2 c1').2, by rw [m1]⟩, rfl⟩
  · refine ft_run_ok k_Math_floorMod 1 _ _ _ _ [] rfl trivial ?_
    have c1' : x.toInt < 0 := Int.not_le.mp (fun z => c1 ((vx_xs x hc).mpr z))
    obtain ⟨m4, m5⟩ := m3 c1'
    refine r_if k_Math_floorMod rfl rfl (fun c2 => ?_) (fun c2 => ?_)
    · refine ft_run_ok k_Math_floorMod 1 _ _ _ _ [] rfl trivial ?_
      have c2' : x - x / nI c * nI c = 0 := c2
      exact r_ret (v := some (.int _)) k_Math_floorMod rfl trivial (Nat.le_of_ble_eq_true rfl) (Nat.le_of_ble_eq_true rfl) ⟨⟨0, by omega, by omega, by rw [c2']; rfl⟩, rfl⟩
    · refine ft_run_ok k_Math_floorMod 3 _ _ _ _ [] rfl trivial ?_
      have c2' : ¬ x - x / nI c * nI c = 0 := c2
      have m6 : m ≠ 0 := fun z => c2' (by rw [m1, z]; rfl)
      refine r_ret (v := some (.int _)) k_Math_floorMod rfl trivial (Nat.le_of_ble_eq_true rfl) (Nat.le_of_ble_eq_true rfl) ⟨⟨m + (c : Int), by omega, by omega, ?_⟩, rfl⟩
      rw [m1, Int32.ofInt_add]
      have : Int32.ofInt (c : Int) = nI c := Int32.ofInt_eq_ofNat
      rw [this]
theorem vx_fmC {c : Nat} (h0 : 0 < c) (hc : c < 2147483648) {C : CT} (e1 : C.2.1 = [(0, vx_v 0, 0), (0, vx_c (Int.ofNat c), 0)]) (e2 : C.1.1 = 1) (e3 : C.2.2.2 = [((2, 1, (tN (tN tE (some (Int.ofNat 0, Int.ofNat (c - 1))) tE) none tE), [], tE, []), some (0, vx_v 1, 0))]) (e4 : vs_r C.1 = 1) : CV D κ n 2 C := by
  intro ρ τ h I V
  rw [e1]
  have ea : vx_dS D ρ τ [(0, vx_v 0, 0), (0, vx_c (Int.ofNat c), 0)] = [.int (Int32.ofInt (vx_ev ρ (vx_v 0))), .int (nI c)] := by
    show [Value.int _, Value.int (Int32.ofInt (vx_ev ρ (vx_c (Int.ofNat c))))] = _
    rw [vx_c_ev, ft_k32]
  rw [ea]
  refine (vx_fm2 h0 hc).mono ?_
  rintro v h' ⟨⟨m, m1, m2, hv⟩, rfl⟩
  refine ⟨I, vx_fr.refl, _, by rw [e3]; exact List.mem_singleton.mpr rfl, vx_upd ρ 1 m, τ, ?_, vx_agr.refl, ⟨fun i b hi hb => ?_, fun f hf => (by cases hf), fun r k hk => (by cases hk), fun z hz => (by cases hz), (show 2 + 1 < 4096 by decide), (show 1 + 1 < 4096 by decide)⟩, ?_⟩
  · rw [show vs_n C.1 = 1 from e2]; exact vx_upd_agr
  · have hi' : i < 2 := hi
    rcases (show i = 0 ∨ i = 1 by omega) with q | q
    · rw [q] at hb; cases hb
    · rw [q] at hb
      have hb' : some (Int.ofNat 0, Int.ofNat (c - 1)) = some b := hb
      cases hb'
      rw [q]
      show (0 : Int) ≤ (if 1 = 1 then m else ρ 1) ∧ (if 1 = 1 then m else ρ 1) ≤ ((c - 1 : Nat) : Int)
      rw [if_pos rfl]; omega
  · rw [hv]
    show some (Value.int (Int32.ofInt m)) = some (Value.int (Int32.ofInt (vx_ev (vx_upd ρ 1 m) (vx_v 1))))
    rw [vx_v_ev]
    rfl
end VXFM
