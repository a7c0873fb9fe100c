/-! the forms of the places (written by wip/vx/gen_forms.py): ints and longs within bounds, cells of a kind -/
def vx_fO1 : TR FM := (tN (tN (tN tE (some (0, Int.ofNat 0, Int.ofNat 220)) tE) (some (2, Int.ofNat 17, Int.ofNat 2)) tE) (some (2, Int.ofNat 9, Int.ofNat 0)) (tN tE (some (2, Int.ofNat 18, Int.ofNat 220)) tE))
def vx_fO2 : TR FM := (tN (tN (tN tE (some (2, Int.ofNat 3, Int.ofNat 0)) tE) (some (2, Int.ofNat 19, Int.ofNat 8)) tE) (some (0, Int.ofNat 0, Int.ofNat 1)) (tN (tN tE (some (0, Int.negSucc 2147483647, Int.ofNat 2147483647)) tE) (some (2, Int.ofNat 4, Int.ofNat 0)) tE))
def vx_fO3 : TR FM := (tN (tN tE (some (0, Int.ofNat 0, Int.ofNat 3)) tE) (some (2, Int.ofNat 20, Int.ofNat 3)) tE)
def vx_fO4 : TR FM := (tN (tN tE (some (0, Int.ofNat 0, Int.ofNat 12)) tE) (some (2, Int.ofNat 21, Int.ofNat 84)) tE)
def vx_fO5 : TR FM := (tN (tN (tN tE (some (0, Int.negSucc 2147483647, Int.ofNat 2147483647)) tE) (some (3, Int.ofNat 22, Int.ofNat 40)) tE) (some (4, Int.ofNat 0, Int.ofNat 0)) (tN (tN tE (some (0, Int.negSucc 2147483647, Int.ofNat 2147483647)) tE) (some (3, Int.ofNat 23, Int.ofNat 1)) tE))
def vx_fO6 : TR FM := (tN (tN (tN (tN (tN tE (some (0, Int.negSucc 2147483647, Int.ofNat 2147483647)) tE) (some (2, Int.ofNat 24, Int.ofNat 5)) tE) (some (2, Int.ofNat 11, Int.ofNat 0)) (tN tE (some (1, Int.negSucc 9223372036854775807, Int.ofNat 9223372036854775807)) tE)) (some (2, Int.ofNat 9, Int.ofNat 0)) (tN (tN (tN tE (some (0, Int.negSucc 2147483647, Int.ofNat 2147483647)) tE) (some (0, Int.negSucc 2147483647, Int.ofNat 2147483647)) tE) (some (2, Int.ofNat 5, Int.ofNat 20)) (tN tE (some (0, Int.negSucc 2147483647, Int.ofNat 2147483647)) tE))) (some (0, Int.ofNat 0, Int.ofNat 1)) (tN (tN (tN (tN tE (some (0, Int.negSucc 2147483647, Int.ofNat 2147483647)) tE) (some (0, Int.negSucc 2147483647, Int.ofNat 2147483647)) tE) (some (2, Int.ofNat 8, Int.ofNat 0)) (tN tE (some (1, Int.negSucc 9223372036854775807, Int.ofNat 9223372036854775807)) tE)) (some (2, Int.ofNat 2, Int.ofNat 0)) (tN (tN tE (some (0, Int.negSucc 2147483647, Int.ofNat 2147483647)) tE) (some (2, Int.ofNat 5, Int.ofNat 40)) (tN tE (some (0, Int.negSucc 2147483647, Int.ofNat 2147483647)) tE))))
def vx_fO7 : TR FM := (tN (tN (tN tE (some (0, Int.ofNat 0, Int.ofNat 1)) tE) (some (2, Int.ofNat 3, Int.ofNat 0)) (tN tE (some (0, Int.ofNat 0, Int.ofNat 1)) tE)) (some (0, Int.ofNat 1, Int.ofNat 4)) (tN (tN tE (some (0, Int.ofNat 0, Int.ofNat 1)) tE) (some (0, Int.negSucc 2147483647, Int.ofNat 2147483647)) (tN tE (some (1, Int.negSucc 9223372036854775807, Int.ofNat 9223372036854775807)) tE)))
def vx_fO8 : TR FM := (tN (tN (tN (tN tE (some (0, Int.negSucc 2147483647, Int.ofNat 2147483647)) tE) (some (0, Int.negSucc 2147483647, Int.ofNat 2147483647)) tE) (some (0, Int.negSucc 2147483647, Int.ofNat 2147483647)) (tN tE (some (0, Int.negSucc 2147483647, Int.ofNat 2147483647)) tE)) (some (2, Int.ofNat 25, Int.ofNat 256)) (tN (tN tE (some (0, Int.negSucc 2147483647, Int.ofNat 2147483647)) tE) (some (0, Int.negSucc 2147483647, Int.ofNat 2147483647)) (tN tE (some (1, Int.negSucc 9223372036854775807, Int.ofNat 9223372036854775807)) tE)))
def vx_fO9 : TR FM := (tN (tN (tN tE (some (0, Int.ofNat 0, Int.ofNat 60)) tE) (some (0, Int.negSucc 2147483647, Int.ofNat 2147483647)) (tN tE (some (2, Int.ofNat 10, Int.ofNat 0)) tE)) (some (2, Int.ofNat 26, Int.ofNat 60)) (tN (tN tE (some (2, Int.ofNat 10, Int.ofNat 0)) tE) (some (0, Int.negSucc 2147483647, Int.ofNat 2147483647)) tE))
def vx_fO10 : TR FM := (tN (tN (tN tE (some (0, Int.negSucc 2147483647, Int.ofNat 2147483647)) tE) (some (0, Int.ofNat 0, Int.ofNat 220)) tE) (some (2, Int.ofNat 27, Int.ofNat 220)) (tN tE (some (0, Int.negSucc 2147483647, Int.ofNat 2147483647)) tE))
def vx_fO11 : TR FM := (tN (tN (tN tE (some (1, Int.negSucc 9223372036854775807, Int.ofNat 9223372036854775807)) tE) (some (1, Int.negSucc 9223372036854775807, Int.ofNat 9223372036854775807)) (tN tE (some (2, Int.ofNat 29, Int.ofNat 4096)) tE)) (some (0, Int.ofNat 0, Int.ofNat 1)) (tN (tN tE (some (2, Int.ofNat 28, Int.ofNat 256)) tE) (some (1, Int.negSucc 9223372036854775807, Int.ofNat 9223372036854775807)) tE))
def vx_fO12 : TR FM := (tN (tN (tN (tN (tN (tN (tN tE (some (0, Int.ofNat 0, Int.ofNat 256)) tE) (some (2, Int.ofNat 57, Int.ofNat 2)) tE) (some (2, Int.ofNat 41, Int.ofNat 2)) (tN tE (some (2, Int.ofNat 73, Int.ofNat 2)) tE)) (some (2, Int.ofNat 34, Int.ofNat 220)) (tN (tN tE (some (2, Int.ofNat 65, Int.ofNat 2)) tE) (some (2, Int.ofNat 49, Int.ofNat 20)) (tN tE (some (2, Int.ofNat 81, Int.ofNat 2)) tE))) (some (2, Int.ofNat 30, Int.ofNat 61)) (tN (tN (tN tE (some (2, Int.ofNat 61, Int.ofNat 2)) tE) (some (2, Int.ofNat 45, Int.ofNat 512)) (tN tE (some (2, Int.ofNat 77, Int.ofNat 2)) tE)) (some (2, Int.ofNat 37, Int.ofNat 2)) (tN (tN tE (some (2, Int.ofNat 69, Int.ofNat 2)) tE) (some (2, Int.ofNat 53, Int.ofNat 192)) (tN tE (some (0, Int.ofNat 0, Int.ofNat 256)) tE)))) (some (0, Int.negSucc 2147483647, Int.ofNat 2147483647)) (tN (tN (tN (tN tE (some (2, Int.ofNat 59, Int.ofNat 3200)) tE) (some (2, Int.ofNat 43, Int.ofNat 512)) (tN tE (some (2, Int.ofNat 75, Int.ofNat 2)) tE)) (some (2, Int.ofNat 35, Int.ofNat 2)) (tN (tN tE (some (2, Int.ofNat 67, Int.ofNat 2)) tE) (some (2, Int.ofNat 51, Int.ofNat 20)) (tN tE (some (0, Int.ofNat 0, Int.ofNat 3)) tE))) (some (2, Int.ofNat 32, Int.ofNat 61)) (tN (tN (tN tE (some (2, Int.ofNat 63, Int.ofNat 2)) tE) (some (2, Int.ofNat 47, Int.ofNat 20)) (tN tE (some (2, Int.ofNat 79, Int.ofNat 2)) tE)) (some (2, Int.ofNat 39, Int.ofNat 2)) (tN (tN tE (some (2, Int.ofNat 71, Int.ofNat 2)) tE) (some (2, Int.ofNat 55, Int.ofNat 40)) (tN tE (some (2, Int.ofNat 84, Int.ofNat 40)) tE))))) (some (0, Int.negSucc 2147483647, Int.ofNat 2147483647)) (tN (tN (tN (tN (tN (tN tE (some (2, Int.ofNat 86, Int.ofNat 256)) tE) (some (2, Int.ofNat 58, Int.ofNat 80)) tE) (some (2, Int.ofNat 42, Int.ofNat 512)) (tN tE (some (2, Int.ofNat 74, Int.ofNat 2)) tE)) (some (0, Int.ofNat 0, Int.ofNat 220)) (tN (tN tE (some (2, Int.ofNat 66, Int.ofNat 2)) tE) (some (2, Int.ofNat 50, Int.ofNat 20)) (tN tE (some (2, Int.ofNat 82, Int.ofNat 4)) tE))) (some (2, Int.ofNat 31, Int.ofNat 61)) (tN (tN (tN tE (some (2, Int.ofNat 62, Int.ofNat 2)) tE) (some (2, Int.ofNat 46, Int.ofNat 20)) (tN tE (some (2, Int.ofNat 78, Int.ofNat 2)) tE)) (some (2, Int.ofNat 38, Int.ofNat 2)) (tN (tN tE (some (2, Int.ofNat 70, Int.ofNat 2)) tE) (some (2, Int.ofNat 54, Int.ofNat 2)) (tN tE (some (0, Int.ofNat 0, Int.ofNat 120)) tE)))) (some (0, Int.ofNat 0, Int.ofNat 60)) (tN (tN (tN (tN tE (some (2, Int.ofNat 60, Int.ofNat 2)) tE) (some (2, Int.ofNat 44, Int.ofNat 512)) (tN tE (some (2, Int.ofNat 76, Int.ofNat 2)) tE)) (some (2, Int.ofNat 36, Int.ofNat 2)) (tN (tN tE (some (2, Int.ofNat 68, Int.ofNat 2)) tE) (some (2, Int.ofNat 52, Int.ofNat 2)) (tN tE (some (2, Int.ofNat 83, Int.ofNat 256)) tE))) (some (2, Int.ofNat 33, Int.ofNat 15616)) (tN (tN (tN tE (some (2, Int.ofNat 64, Int.ofNat 2)) tE) (some (2, Int.ofNat 48, Int.ofNat 60)) (tN tE (some (2, Int.ofNat 80, Int.ofNat 2)) tE)) (some (2, Int.ofNat 40, Int.ofNat 2)) (tN (tN tE (some (2, Int.ofNat 72, Int.ofNat 2)) tE) (some (2, Int.ofNat 56, Int.ofNat 1600)) (tN tE (some (2, Int.ofNat 85, Int.ofNat 256)) tE))))))
def vx_fO : TR (TR FM) := (tN (tN (tN (tN tE (some vx_fO7) tE) (some vx_fO3) (tN tE (some vx_fO11) tE)) (some vx_fO1) (tN (tN tE (some vx_fO9) tE) (some vx_fO5) tE)) none (tN (tN (tN tE (some vx_fO8) tE) (some vx_fO4) (tN tE (some vx_fO12) tE)) (some vx_fO2) (tN (tN tE (some vx_fO10) tE) (some vx_fO6) tE)))
def vx_fR : TR FM := (tN (tN (tN (tN (tN (tN (tN tE (some (0, Int.negSucc 2147483647, Int.ofNat 2147483647)) tE) (some (0, Int.negSucc 2147483647, Int.ofNat 2147483647)) tE) none (tN (tN tE (some (0, Int.negSucc 2147483647, Int.ofNat 2147483647)) tE) (some (0, Int.ofNat 0, Int.ofNat 3)) tE)) none (tN (tN (tN tE (some (0, Int.negSucc 2147483647, Int.ofNat 2147483647)) tE) (some (1, Int.ofNat 0, Int.ofNat 281474976710655)) tE) (some (0, Int.ofNat 0, Int.ofNat 40)) (tN tE (some (0, Int.ofNat 0, Int.ofNat 40)) tE))) none (tN (tN (tN (tN tE (some (0, Int.negSucc 2147483647, Int.ofNat 2147483647)) tE) (some (0, Int.negSucc 2147483647, Int.ofNat 2147483647)) tE) (some (2, Int.ofNat 7, Int.ofNat 0)) (tN (tN tE (some (0, Int.ofNat 0, Int.ofNat 255)) tE) (some (1, Int.negSucc 9223372036854775807, Int.ofNat 9223372036854775807)) tE)) none (tN (tN (tN tE (some (0, Int.negSucc 2147483647, Int.ofNat 2147483647)) tE) (some (0, Int.negSucc 2147483647, Int.ofNat 2147483647)) tE) (some (0, Int.ofNat 0, Int.ofNat 255)) (tN tE (some (0, Int.negSucc 2147483647, Int.ofNat 2147483647)) tE)))) none (tN (tN (tN (tN (tN tE (some (1, Int.negSucc 9223372036854775807, Int.ofNat 9223372036854775807)) tE) (some (0, Int.ofNat 0, Int.ofNat 255)) tE) (some (2, Int.ofNat 6, Int.ofNat 0)) (tN (tN tE (some (0, Int.negSucc 2147483647, Int.ofNat 2147483647)) tE) (some (0, Int.ofNat 0, Int.ofNat 1)) tE)) none (tN (tN (tN tE (some (0, Int.negSucc 2147483647, Int.ofNat 2147483647)) tE) (some (1, Int.negSucc 9223372036854775807, Int.ofNat 9223372036854775807)) tE) (some (0, Int.negSucc 127, Int.ofNat 127)) (tN tE (some (0, Int.ofNat 0, Int.ofNat 2147483647)) tE))) none (tN (tN (tN (tN tE (some (0, Int.negSucc 2147483647, Int.ofNat 2147483647)) tE) (some (1, Int.negSucc 9223372036854775807, Int.ofNat 9223372036854775807)) tE) (some (0, Int.negSucc 2147483647, Int.ofNat 2147483647)) (tN (tN tE (some (0, Int.ofNat 0, Int.ofNat 255)) tE) none tE)) none (tN (tN (tN tE (some (0, Int.negSucc 2147483647, Int.ofNat 2147483647)) tE) (some (1, Int.negSucc 9223372036854775807, Int.ofNat 9223372036854775807)) tE) (some (1, Int.negSucc 9223372036854775807, Int.ofNat 9223372036854775807)) (tN tE (some (0, Int.negSucc 2147483647, Int.ofNat 2147483647)) tE))))) none (tN (tN (tN (tN (tN (tN tE (some (0, Int.ofNat 0, Int.ofNat 1)) tE) (some (0, Int.ofNat 0, Int.ofNat 256)) tE) none (tN (tN tE (some (0, Int.negSucc 2147483647, Int.ofNat 2147483647)) tE) (some (0, Int.negSucc 2147483647, Int.ofNat 2147483647)) tE)) none (tN (tN (tN tE (some (0, Int.ofNat 0, Int.ofNat 1)) tE) (some (1, Int.negSucc 9223372036854775807, Int.ofNat 9223372036854775807)) tE) (some (0, Int.negSucc 2147483647, Int.ofNat 2147483647)) (tN tE (some (0, Int.negSucc 2147483647, Int.ofNat 2147483647)) tE))) none (tN (tN (tN (tN tE (some (0, Int.negSucc 2147483647, Int.ofNat 2147483647)) tE) (some (1, Int.negSucc 9223372036854775807, Int.ofNat 9223372036854775807)) tE) (some (0, Int.negSucc 2147483647, Int.ofNat 2147483647)) (tN (tN tE (some (0, Int.negSucc 2147483647, Int.ofNat 2147483647)) tE) (some (0, Int.ofNat 0, Int.ofNat 12)) tE)) none (tN (tN (tN tE (some (0, Int.negSucc 2147483647, Int.ofNat 2147483647)) tE) (some (0, Int.ofNat 0, Int.ofNat 1)) tE) (some (0, Int.negSucc 127, Int.ofNat 127)) (tN tE (some (0, Int.negSucc 2147483647, Int.ofNat 2147483647)) tE)))) none (tN (tN (tN (tN (tN tE (some (0, Int.negSucc 2147483647, Int.ofNat 2147483647)) tE) (some (0, Int.ofNat 0, Int.ofNat 255)) tE) (some (0, Int.ofNat 0, Int.ofNat 255)) (tN (tN tE (some (0, Int.negSucc 2147483647, Int.ofNat 2147483647)) tE) (some (0, Int.ofNat 0, Int.ofNat 1)) tE)) none (tN (tN (tN tE (some (0, Int.negSucc 2147483647, Int.ofNat 2147483647)) tE) (some (0, Int.ofNat 0, Int.ofNat 1)) tE) (some (2, Int.ofNat 10, Int.ofNat 0)) (tN tE (some (0, Int.ofNat 0, Int.ofNat 40)) tE))) none (tN (tN (tN (tN tE (some (0, Int.negSucc 2147483647, Int.ofNat 2147483647)) tE) (some (0, Int.ofNat 0, Int.ofNat 1)) tE) (some (0, Int.negSucc 2147483647, Int.ofNat 2147483647)) (tN (tN tE (some (0, Int.ofNat 0, Int.ofNat 1)) tE) (some (0, Int.ofNat 0, Int.ofNat 20)) tE)) none (tN (tN (tN tE (some (0, Int.negSucc 2147483647, Int.ofNat 2147483647)) tE) (some (0, Int.negSucc 2147483647, Int.ofNat 2147483647)) tE) (some (0, Int.ofNat 0, Int.ofNat 1)) (tN tE (some (0, Int.negSucc 2147483647, Int.ofNat 2147483647)) tE))))))
def vx_fm (c k : Nat) : FM := bif Nat.beq c kd_M_due then (bif Nat.beq (k % 8) 0 then (0, Int.ofNat 0, Int.ofNat 7) else (0, fI.1, fI.2)) else match tG vx_fO c with
  | some t => (match tG t k with
    | some f => f
    | none => (9, Int.ofNat 0, Int.ofNat 0))
  | none => (match tG vx_fR c with
    | some f => f
    | none => (9, Int.ofNat 0, Int.ofNat 0))
def vx_by8 : List (Nat × Int) → Bool
  | [] => true
  | (_, c) :: r => (match c with
    | .ofNat n => Nat.beq (n % 8) 0
    | .negSucc n => Nat.beq ((n + 1) % 8) 0) && vx_by8 r
def vx_fa (c : Nat) (i : LE) : Option FM := bif Nat.beq c kd_M_due then (bif vx_by8 i.2 then (match i.1 with
    | .ofNat k => bif Nat.beq (k % 8) 0 then some (0, Int.ofNat 0, Int.ofNat 7) else some (0, fI.1, fI.2)
    | .negSucc _ => none) else none) else match tG vx_fO c with
  | some t => (match i with
    | (.ofNat k, []) => tG t k
    | _ => none)
  | none => tG vx_fR c
theorem vx_by8_ok {ρ : Nat → Int} : ∀ {t : List (Nat × Int)}, vx_by8 t = true → vx_evT ρ t % 8 = 0
  | [], _ => rfl
  | (v, c) :: r, h => by
    unfold vx_by8 at h
    rw [Bool.and_eq_true] at h
    have i1 := vx_by8_ok (ρ := ρ) h.2
    show (c * ρ v + vx_evT ρ r) % 8 = 0
    have hc : c % 8 = 0 := by
      split at h
      · rename_i n
        have := Nat.eq_of_beq_eq_true h.1
        show (n : Int) % 8 = 0
        omega
      · rename_i n
        have := Nat.eq_of_beq_eq_true h.1
        have e : Int.negSucc n = -((n : Int) + 1) := Int.negSucc_eq n
        rw [e]; omega
    obtain ⟨d, hd⟩ : ∃ d, c = 8 * d := ⟨c / 8, by omega⟩
    rw [hd, Int.mul_assoc]
    omega
theorem vx_fa_ok {ρ : Nat → Int} {c : Nat} {i : LE} {f : FM} (h : vx_fa c i = some f) (h0 : 0 ≤ vx_ev ρ i) : vx_fm c (vx_ev ρ i).toNat = f := by
  unfold vx_fa at h
  unfold vx_fm
  cases hd : Nat.beq c kd_M_due
  · rw [hd] at h
    simp only [cond_false] at h ⊢
    split at h
    · rename_i t ht
      split at h
      · rename_i k
        have e : vx_ev ρ (Int.ofNat k, []) = (k : Int) := vx_c_ev _
        rw [e]
        simp only [Int.toNat_natCast]
        rw [h]
      · cases h
    · rw [h]
  · rw [hd] at h
    simp only [cond_true] at h ⊢
    cases hb : vx_by8 i.2
    · rw [hb] at h; cases h
    · rw [hb] at h
      simp only [cond_true] at h
      split at h
      · rename_i k hk
        have q := vx_by8_ok (ρ := ρ) hb
        have e : vx_ev ρ i = (k : Int) + vx_evT ρ i.2 := by unfold vx_ev; rw [hk]; rfl
        have e2 : (vx_ev ρ i).toNat % 8 = k % 8 := by omega
        rw [e2]
        cases hz : Nat.beq (k % 8) 0
        · rw [hz] at h; cases h; rfl
        · rw [hz] at h; cases h; rfl
      · cases h
/-- the whole heap: every place has its form -/
def vx_I (D : ft_G) (κ : Nat → Nat × Nat) (n : Nat) (h : ft_H) : Prop := h.2 = (κ, n) ∧ (∀ a : Nat, (κ a).1 ≠ 0 → ft_B D ≤ a) ∧ ∀ a k : Nat, (κ a).1 ≠ 0 → (Nat.blt 12 (κ a).1 = true → k < (κ a).2) → vx_fok κ (κ a).2 (vx_fm (κ a).1 k) (h.1 a k)
abbrev MD : Type := List (Nat × Int × Int)
/-- only these places may have changed -/
def vx_fr (κ : Nat → Nat × Nat) (md : MD) (h h' : ft_H) : Prop := ∀ a k : Nat, (∀ q ∈ md, ¬ ((κ a).1 = q.1 ∧ q.2.1 ≤ (k : Int) ∧ (k : Int) ≤ q.2.2)) → h'.1 a k = h.1 a k
def vx_find (r : Nat) (i : LE) : List ME → Option AV
  | [] => none
  | e :: t => bif Nat.beq e.1 r && vx_eq e.2.1 i then some e.2.2 else vx_find r i t
theorem vx_find_ok {r : Nat} {i : LE} {v : AV} : ∀ {l : List ME}, vx_find r i l = some v → (r, i, v) ∈ l
  | [], h => by cases h
  | e :: t, h => by
    unfold vx_find at h
    cases hb : (Nat.beq e.1 r && vx_eq e.2.1 i)
    · rw [hb] at h; exact List.mem_cons_of_mem _ (vx_find_ok h)
    · rw [hb] at h
      cases h
      rw [Bool.and_eq_true] at hb
      rw [← Nat.eq_of_beq_eq_true hb.1, ← vx_eq_ok hb.2]
      exact List.mem_cons_self
def vx_mem (s : VS) (e : ME) : VS := (s.1, s.2.1, vs_B s, vs_F s, vs_K s, e :: vs_M s)
/-- a form's value, fresh -/
def vx_make (s : VS) (m : Nat) (f : FM) : Option (VS × AV) := match f.1 with
  | 0 => (vx_new s f.2.1 f.2.2).map (fun q => (q.1, av_i q.2))
  | 1 => (vx_new s f.2.1 f.2.2).map (fun q => (q.1, av_l q.2))
  | 2 => (vx_newr s f.2.1.toNat f.2.2.toNat).map (fun q => (q.1, av_r q.2))
  | 3 => (vx_newr s f.2.1.toNat (f.2.2.toNat * m)).map (fun q => (q.1, av_r q.2))
  | 4 => some (s, av_i (vx_c (Int.ofNat m)))
  | _ => none
/-- a place is read: as it is known, or by its form -/
def vx_read (s : VS) (r : Nat) (i : LE) : Option (VS × AV) := match vx_find r i (vs_M s) with
  | some v => bif Nat.blt 0 r then some (s, v) else none
  | none => bif vx_g s (vx_k i (Int.negSucc 999999)) then (match tG (vs_K s) r, vx_new s (Int.ofNat 0) (Int.ofNat 1) with
      | some _, some q => bif Nat.blt 0 r then some (vx_mem q.1 (r, i, av_i q.2), av_i q.2) else none
      | _, _ => none)
    else match tG (vs_K s) r with
    | none => none
    | some k => bif Nat.blt 0 r && (Nat.blt 0 k.1 && (vx_g s i && (vx_g s (vx_sub (vx_c (Int.ofNat 999999)) i) && (!Nat.blt 12 k.1 || vx_g s (vx_sub (vx_c (Int.ofNat k.2)) (vx_k i (Int.ofNat 1))))))) then (match vx_fa k.1 i with
      | none => none
      | some f => match vx_make s k.2 f with
        | none => none
        | some q => some (vx_mem q.1 (r, i, q.2), q.2)) else none
section VXH
variable {D : ft_G} {κ : Nat → Nat × Nat} {n : Nat} {h : ft_H} {ρ : Nat → Int} {τ : Nat → Nat} {s : VS}
theorem vx_make_ok (V : VOk D κ h ρ τ s) {m : Nat} {f : FM} {w : Value} (hw : vx_fok κ m f w) {s' : VS} {v : AV} (e : vx_make s m f = some (s', v)) : ∃ ρ' τ', vx_on D κ h ρ τ s s' ρ' τ' ∧ vx_alt (vs_n s') (vs_r s') v ∧ w = vx_d D ρ' τ' v ∧ vs_M s' = vs_M s := by
  unfold vx_make at e
  unfold vx_fok at hw
  split at e
  · rename_i e0
    rw [e0] at hw
    obtain ⟨x, x1, x2, x3⟩ := hw
    cases hn : vx_new s f.2.1 f.2.2 with
    | none => rw [hn] at e; cases e
    | some q =>
      rw [hn] at e
      cases e
      obtain ⟨h1, h2, h3, h4, h5⟩ := V.new x1 x2 (s' := q.1) (l := q.2) hn
      exact ⟨_, τ, h1, ⟨h2, fun z => by cases z⟩, by rw [x3]; show _ = Value.int (Int32.ofInt (vx_ev _ q.2)); rw [h3], h4⟩
  · rename_i e0
    rw [e0] at hw
    obtain ⟨x, x1, x2, x3⟩ := hw
    cases hn : vx_new s f.2.1 f.2.2 with
    | none => rw [hn] at e; cases e
    | some q =>
      rw [hn] at e
      cases e
      obtain ⟨h1, h2, h3, h4, h5⟩ := V.new x1 x2 (s' := q.1) (l := q.2) hn
      exact ⟨_, τ, h1, ⟨h2, fun z => by cases z⟩, by rw [x3]; show _ = Value.long (Int64.ofInt (vx_ev _ q.2)); rw [h3], h4⟩
  · rename_i e0
    rw [e0] at hw
    obtain ⟨a, x1, x2⟩ := hw
    cases hn : vx_newr s f.2.1.toNat f.2.2.toNat with
    | none => rw [hn] at e; cases e
    | some q =>
      rw [hn] at e
      cases e
      obtain ⟨h1, h2, h3, h4, h5⟩ := V.newr x2 (s' := q.1) (r := q.2) hn
      exact ⟨ρ, _, h1, ⟨vx_c_lt, fun _ => h2⟩, by rw [x1]; show _ = Value.ref (vx_updr τ (vs_r s) a q.2); rw [h3], h4⟩
  · rename_i e0
    rw [e0] at hw
    obtain ⟨a, x1, x2⟩ := hw
    cases hn : vx_newr s f.2.1.toNat (f.2.2.toNat * m) with
    | none => rw [hn] at e; cases e
    | some q =>
      rw [hn] at e
      cases e
      obtain ⟨h1, h2, h3, h4, h5⟩ := V.newr x2 (s' := q.1) (r := q.2) hn
      exact ⟨ρ, _, h1, ⟨vx_c_lt, fun _ => h2⟩, by rw [x1]; show _ = Value.ref (vx_updr τ (vs_r s) a q.2); rw [h3], h4⟩
  · rename_i e0
    rw [e0] at hw
    cases e
    exact ⟨ρ, τ, V.on, ⟨vx_c_lt, fun z => by cases z⟩, by rw [hw]; show _ = Value.int (Int32.ofInt (vx_ev ρ (vx_c _))); rw [vx_c_ev]; rfl, rfl⟩
  · cases e
theorem VOk.mem (V : VOk D κ h ρ τ s) {e : ME} (h1 : vx_lt (vs_n s) e.2.1) (h2 : vx_alt (vs_n s) (vs_r s) e.2.2) (h3 : e.1 < vs_r s) (h4 : vx_mok D h ρ τ e) : VOk D κ h ρ τ (vx_mem s e) := by
  refine ⟨V.1, V.2.1, V.2.2.1, fun z hz => ?_, V.2.2.2.2⟩
  rcases List.mem_cons.mp hz with q | q
  · rw [q]; exact ⟨h1, h2, h3, h4⟩
  · exact V.2.2.2.1 z q
theorem vx_look_lo {a : Nat} {k : Int} (hk : k < 1000000) : vx_look h a k = h.1 a k.toNat := by
  unfold vx_look; rw [if_pos hk]
theorem vx_read_ok (V : VOk D κ h ρ τ s) (I : vx_I D κ n h) {r : Nat} {i : LE} (hi : vx_lt (vs_n s) i) {s' : VS} {v : AV} (e : vx_read s r i = some (s', v)) : ∃ ρ' τ', vx_on D κ h ρ τ s s' ρ' τ' ∧ vx_alt (vs_n s') (vs_r s') v ∧ vx_look h (τ r) (vx_ev ρ i) = vx_d D ρ' τ' v ∧ r < vs_r s ∧ 0 ≤ vx_ev ρ i ∧ (r, i, v) ∈ vs_M s' ∧ r ≠ 0 := by
  unfold vx_read at e
  split at e
  · rename_i w hw
    cases hr : Nat.blt 0 r
    · rw [hr] at e; cases e
    · rw [hr] at e
      cases e
      have hm := vx_find_ok hw
      obtain ⟨m1, m2, m3, m4⟩ := V.2.2.2.1 _ hm
      have r0 := blt_lt hr
      have m5 := m4.2
      have r1 : ¬ r = 0 := by omega
      simp only [if_neg r1] at m5
      exact ⟨ρ, τ, V.on, m2, m5, m3, m4.1, hm, r1⟩
  · cases hv : vx_g s (vx_k i (Int.negSucc 999999))
    · rw [hv] at e
      simp only [cond_false] at e
      split at e
      · cases e
      · rename_i k hk
        obtain ⟨k1, k2⟩ := V.2.2.1 r k hk
        cases hb : (Nat.blt 0 r && (Nat.blt 0 k.1 && (vx_g s i && (vx_g s (vx_sub (vx_c (Int.ofNat 999999)) i) && (!Nat.blt 12 k.1 || vx_g s (vx_sub (vx_c (Int.ofNat k.2)) (vx_k i (Int.ofNat 1))))))))
        · rw [hb] at e; cases e
        · rw [hb] at e
          simp only [cond_true] at e
          rw [Bool.and_eq_true, Bool.and_eq_true, Bool.and_eq_true, Bool.and_eq_true] at hb
          have r0 := blt_lt hb.1
          have c0 := blt_lt hb.2.1
          have i0 := V.ge hi hb.2.2.1
          have i1 := V.ge (vx_sub_lt vx_c_lt hi) hb.2.2.2.1
          rw [vx_sub_ev, vx_c_ev] at i1
          have i1' : vx_ev ρ i < 1000000 := by
            have : (Int.ofNat 999999 : Int) = 999999 := rfl
            omega
          have i2 : Nat.blt 12 k.1 = true → (vx_ev ρ i).toNat < k.2 := fun hz => by
            have q := hb.2.2.2.2
            rw [hz] at q
            have q2 := V.ge (vx_sub_lt vx_c_lt (vx_k_lt hi)) (by simpa using q)
            rw [vx_sub_ev, vx_c_ev, vx_k_ev] at q2
            have : (Int.ofNat 1 : Int) = 1 := rfl
            have e2 : (Int.ofNat k.2 : Int) = (k.2 : Int) := rfl
            omega
          split at e
          · cases e
          · rename_i f hf
            split at e
            · cases e
            · rename_i q hq
              cases e
              have w := I.2.2 (τ r) (vx_ev ρ i).toNat (by rw [k2]; omega) (by rw [k2]; exact i2)
              rw [k2, vx_fa_ok hf i0] at w
              obtain ⟨ρ', τ', o1, o2, o3, o4⟩ := vx_make_ok V w (s' := q.1) (v := q.2) hq
              have hl : vx_look h (τ r) (vx_ev ρ i) = vx_d D ρ' τ' q.2 := by rw [vx_look_lo i1', o3]
              have hr' : r < vs_r q.1 := Nat.lt_of_lt_of_le k1 o1.2.2.2.2
              have r1 : ¬ r = 0 := by omega
              refine ⟨ρ', τ', ⟨o1.1, o1.2.1, o1.2.2.1.mem (hi.mono o1.2.2.2.1) o2 hr' ⟨?_, ?_⟩, o1.2.2.2⟩, o2, hl, k1, i0, List.mem_cons_self, r1⟩
              · show 0 ≤ vx_ev ρ' i
                rw [vx_ev_agr o1.1 hi]; exact i0
              · show (if r = 0 then _ else vx_look h (τ' r) (vx_ev ρ' i) = vx_d D ρ' τ' q.2)
                rw [if_neg r1, vx_ev_agr o1.1 hi, o1.2.1 r k1]; exact hl
    · rw [hv] at e
      simp only [cond_true] at e
      split at e
      · rename_i k q hk hq
        obtain ⟨k1, k2⟩ := V.2.2.1 r k hk
        cases hr : Nat.blt 0 r
        · rw [hr] at e; cases e
        · rw [hr] at e
          cases e
          have r0 := blt_lt hr
          have r1 : ¬ r = 0 := by omega
          have i0 := V.ge (vx_k_lt hi) hv
          rw [vx_k_ev] at i0
          have i0' : 1000000 ≤ vx_ev ρ i := by
            have : (Int.negSucc 999999 : Int) = -1000000 := rfl
            omega
          have hx : ∃ x : Int, 0 ≤ x ∧ x ≤ 1 ∧ vx_look h (τ r) (vx_ev ρ i) = .int (Int32.ofInt x) := by
            unfold vx_look
            rw [if_neg (by omega)]
            by_cases hw : vx_whole (h.1 (τ r)) (vx_ev ρ i - 1000000).toNat
            · exact ⟨1, by omega, by omega, by rw [if_pos hw]⟩
            · exact ⟨0, by omega, by omega, by rw [if_neg hw]⟩
          obtain ⟨x, x1, x2, x3⟩ := hx
          obtain ⟨o1, o2, o3, o4, o5⟩ := V.new (lo := Int.ofNat 0) (hi := Int.ofNat 1) x1 x2 (s' := q.1) (l := q.2) hq
          have hl : vx_look h (τ r) (vx_ev ρ i) = vx_d D (vx_upd ρ (vs_n s) x) τ (av_i q.2) := by
            rw [x3]; show _ = Value.int (Int32.ofInt (vx_ev _ q.2)); rw [o3]
          refine ⟨_, τ, ⟨o1.1, o1.2.1, o1.2.2.1.mem (hi.mono o1.2.2.2.1) ⟨o2, fun z => by cases z⟩ (Nat.lt_of_lt_of_le k1 o1.2.2.2.2) ⟨?_, ?_⟩, o1.2.2.2⟩, ⟨o2, fun z => by cases z⟩, hl, k1, by omega, List.mem_cons_self, r1⟩
          · show 0 ≤ vx_ev _ i
            rw [vx_ev_agr o1.1 hi]; omega
          · show (if r = 0 then _ else vx_look h (τ r) (vx_ev _ i) = vx_d D _ τ (av_i q.2))
            rw [if_neg r1, vx_ev_agr o1.1 hi]; exact hl
      · cases e
end VXH
