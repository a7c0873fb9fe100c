/-! the forms of the places, by kinds: written by wip/gen_inv.py -/
def iv_O : List (List (Nat × Nat × Nat)) := [[(4, 9, 0), (4, 17, 2), (4, 18, 220), (1, 220, 0)],
  [(0, 0, 0), (4, 19, 8), (4, 4, 0), (4, 3, 0), (0, 0, 0)],
  [(4, 20, 3), (1, 3, 0)],
  [(4, 21, 84), (1, 12, 0)],
  [(8, 0, 0), (9, 22, 40), (9, 23, 1), (0, 0, 0), (0, 0, 0)],
  [(1, 1, 0), (4, 9, 0), (4, 2, 0), (4, 11, 0), (4, 8, 0), (4, 5, 20), (4, 5, 40), (4, 24, 5), (0, 0, 0), (0, 0, 0), (0, 0, 0), (2, 0, 0), (2, 0, 0), (0, 0, 0), (0, 0, 0), (0, 0, 0), (0, 0, 0), (0, 0, 0)],
  [(0, 0, 0), (4, 3, 0), (0, 0, 0), (0, 0, 0), (0, 0, 0), (0, 0, 0), (2, 0, 0)],
  [(4, 25, 256), (0, 0, 0), (0, 0, 0), (0, 0, 0), (0, 0, 0), (0, 0, 0), (2, 0, 0), (0, 0, 0)],
  [(4, 26, 60), (0, 0, 0), (6, 0, 0), (1, 60, 0), (4, 10, 0), (4, 10, 0)],
  [(4, 27, 220), (1, 220, 0), (0, 0, 0), (0, 0, 0)],
  [(0, 0, 0), (2, 0, 0), (2, 0, 0), (2, 0, 0), (4, 28, 256), (4, 29, 256)],
  [(0, 0, 0), (6, 1, 0), (1, 60, 0), (4, 30, 61), (4, 31, 61), (4, 32, 61), (4, 33, 15616), (4, 34, 220), (1, 220, 0), (4, 35, 2), (4, 36, 2), (4, 37, 2), (4, 38, 2), (4, 39, 2), (4, 40, 2), (4, 41, 2), (4, 42, 512), (4, 43, 512), (4, 44, 512), (4, 45, 512), (4, 46, 20), (4, 47, 20), (4, 48, 60), (4, 49, 20), (4, 50, 20), (4, 51, 20), (4, 52, 2), (4, 53, 192), (4, 54, 2), (4, 55, 40), (4, 56, 1600), (4, 57, 2), (4, 58, 80), (4, 59, 3200), (4, 60, 2), (4, 61, 2), (4, 62, 2), (4, 63, 2), (4, 64, 2), (4, 65, 2), (4, 66, 2), (4, 67, 2), (4, 68, 2), (4, 69, 2), (4, 70, 2), (4, 71, 2), (4, 72, 2), (4, 73, 2), (4, 74, 2), (4, 75, 2), (4, 76, 2), (4, 77, 2), (4, 78, 2), (4, 79, 2), (4, 80, 2), (4, 81, 2), (4, 82, 4), (1, 3, 0), (4, 83, 256), (6, 3, 0), (6, 4, 0), (4, 84, 40), (4, 85, 256), (6, 7, 0), (4, 86, 256)]]
def iv_R : List (Nat × Nat × Nat) := [(5, 0, 0), (5, 0, 0), (5, 0, 0), (5, 0, 0), (4, 6, 0), (1, 255, 0), (4, 7, 0), (0, 0, 0), (0, 0, 0), (0, 0, 0), (1, 40, 0), (0, 0, 0), (0, 0, 0), (4, 10, 0), (1, 255, 0), (0, 0, 0), (2, 0, 0), (1, 1, 0), (0, 0, 0), (1, 256, 0), (1, 255, 0), (1, 255, 0), (0, 0, 0), (2, 0, 0), (2, 0, 0), (0, 0, 0), (3, 0, 0), (2, 0, 0), (2, 0, 0), (0, 0, 0), (0, 0, 0), (0, 0, 0), (2, 0, 0), (0, 0, 0), (1, 3, 0), (0, 0, 0), (0, 0, 0), (0, 0, 0), (2, 0, 0), (1, 12, 0), (0, 0, 0), (1, 20, 0), (1, 40, 0), (0, 0, 0), (7, 2, 0), (1, 40, 0), (0, 0, 0), (0, 0, 0), (0, 0, 0), (0, 0, 0), (0, 0, 0), (0, 0, 0), (2, 0, 0), (0, 0, 0), (0, 0, 0), (0, 0, 0), (0, 0, 0), (0, 0, 0), (0, 0, 0), (0, 0, 0), (0, 0, 0), (0, 0, 0), (0, 0, 0), (0, 0, 0), (0, 0, 0), (0, 0, 0), (0, 0, 0), (0, 0, 0), (0, 0, 0), (0, 0, 0), (1, 255, 0), (0, 0, 0), (0, 0, 0), (0, 0, 0)]
def iv_code (c k : Nat) : Nat × Nat × Nat :=
  if c = 53 then (if k % 8 = 0 then (1, 7, 0) else (0, 0, 0))
  else if c = 85 then (if k = 0 then (6, 5, 0) else if k = 1 then (6, 6, 0) else (1, 255, 0))
  else if c ≤ 12 then (iv_O.getD (c - 1) []).getD k (5, 0, 0) else iv_R.getD (c - 13) (5, 0, 0)
/-- forms: (0) an int; (1, b) a number up to b; (2) a long; (3) a long below 2^48; (4, c, n) a reference to a cell of kind c and length n that is whole; (5) anything; (6, i) the number P i; (7, i) a number up to P i; (8) the cell's own length; (9, c, n) a reference to a cell of kind c and n times the own length -/
def iv_ok (κ : Nat → Nat × Nat) (E : Nat → Prop) (P : Nat → Nat) (m : Nat) (c : Nat × Nat × Nat) (v : Value) : Prop := match c.1 with
  | 0 => ∃ x : Int32, v = .int x
  | 1 => ∃ n : Nat, n ≤ c.2.1 ∧ v = .int (nI n)
  | 2 => ∃ x : Int64, v = .long x
  | 3 => ∃ n : Nat, n < 281474976710656 ∧ v = .long (lN n)
  | 4 => ∃ q : Nat, v = .ref q ∧ κ q = (c.2.1, c.2.2) ∧ ¬ E q
  | 6 => v = .int (nI (P c.2.1))
  | 7 => ∃ n : Nat, n ≤ P c.2.1 ∧ v = .int (nI n)
  | 8 => v = .int (nI m)
  | 9 => ∃ q : Nat, v = .ref q ∧ κ q = (c.2.1, c.2.2 * m) ∧ ¬ E q
  | _ => True
/-- the whole pictured heap but for the cells of E, which are being made: kinds κ, next address n, numbers P -/
def Iv (D : ft_G) (κ : Nat → Nat × Nat) (n : Nat) (E : Nat → Prop) (P : Nat → Nat) (h : ft_H) : Prop :=
  h.2 = (κ, n) ∧ (∀ a : Nat, (κ a).1 ≠ 0 → ft_B D ≤ a) ∧ (∀ a k : Nat, (κ a).1 ≠ 0 → ¬ E a → iv_ok κ E P (κ a).2 (iv_code (κ a).1 k) (h.1 a k))
section IV
variable {D : ft_G} {κ : Nat → Nat × Nat} {n : Nat} {E : Nat → Prop} {P : Nat → Nat} {h : ft_H}
theorem Iv.kinds (I : Iv D κ n E P h) : h.2.1 = κ := by rw [I.1]
theorem Iv.K (I : Iv D κ n E P h) {a c m : Nat} (ha : κ a = (c, m)) : (h.2.1 a).1 = c := by rw [I.kinds, ha]
theorem Iv.Kn (I : Iv D κ n E P h) {a c m : Nat} (ha : κ a = (c, m)) : (h.2.1 a).2 = m := by rw [I.kinds, ha]
theorem Iv.Kd (I : Iv D κ n E P h) {a c m : Nat} (ha : κ a = (c, m)) {x : Option (Nat ⊕ FieldType)} (hx : ft_kd c = x) : ft_kd (h.2.1 a).1 = x := by rw [I.K ha]; exact hx
theorem Iv.vi (I : Iv D κ n E P h) {a c m j : Nat} (ha : κ a = (c, m)) (hj : j < m) (hm : m < 2 ^ 31) : vp_in (nI j) (h.2.1 a).2 := by rw [I.Kn ha]; exact vp_in_nI hj hm
theorem Iv.B (I : Iv D κ n E P h) {a c m : Nat} (ha : κ a = (c + 1, m)) : ft_B D ≤ a := I.2.1 a (by rw [ha]; exact Nat.succ_ne_zero c)
theorem Iv.get (I : Iv D κ n E P h) {a c m : Nat} (ha : κ a = (c + 1, m)) (hE : ¬ E a) (k : Nat) : iv_ok κ E P m (iv_code (c + 1) k) (h.1 a k) := by
  have q := I.2.2 a k (by rw [ha]; exact Nat.succ_ne_zero c) hE
  rw [ha] at q
  exact q
theorem iv_ok.mono {Q : Nat → Nat} {m : Nat} {c : Nat × Nat × Nat} {v : Value} (q : iv_ok κ E P m c v) (hq : ∀ i, c.1 = 6 ∧ c.2.1 = i → Q i = P i) (hq7 : ∀ i, P i ≤ Q i ∨ c.1 ≠ 7 ∨ c.2.1 ≠ i) : iv_ok κ E Q m c v := by
  unfold iv_ok at q ⊢
  split at q <;> simp_all
  · obtain ⟨z, h1, h2⟩ := q
    rename_i h7
    rcases hq7 c.2.1 with h | h
    · exact ⟨z, Nat.le_trans h1 h, h2⟩
    · exact absurd rfl h
theorem Iv.set (I : Iv D κ n E P h) {a c m k : Nat} {v : Value} (ha : κ a = (c + 1, m)) (hv : iv_ok κ E P m (iv_code (c + 1) k) v) : Iv D κ n E P (ft_set h a k v) := by
  refine ⟨I.1, I.2.1, fun b j hb hE => ?_⟩
  by_cases e : b = a ∧ j = k
  · obtain ⟨e1, e2⟩ := e
    subst e1; subst e2
    rw [ha]
    simp only [ft_set, and_self, if_true]
    exact hv
  · simp only [ft_set, if_neg e]
    exact I.2.2 b j hb hE
/-- a place whose form is one of the numbers: the number changes with it; no other cell of any kind has that form there -/
theorem Iv.setP (I : Iv D κ n E P h) {Q : Nat → Nat} {a c m k : Nat} {v : Value} (ha : κ a = (c + 1, m)) (hv : iv_ok κ E Q m (iv_code (c + 1) k) v) (ho : ∀ b j : Nat, (κ b).1 ≠ 0 → ¬ E b → ¬ (b = a ∧ j = k) → iv_ok κ E P (κ b).2 (iv_code (κ b).1 j) (h.1 b j) → iv_ok κ E Q (κ b).2 (iv_code (κ b).1 j) (h.1 b j)) : Iv D κ n E Q (ft_set h a k v) := by
  refine ⟨I.1, I.2.1, fun b j hb hE => ?_⟩
  by_cases e : b = a ∧ j = k
  · obtain ⟨e1, e2⟩ := e
    subst e1; subst e2
    rw [ha]
    simp only [ft_set, and_self, if_true]
    exact hv
  · simp only [ft_set, if_neg e]
    exact ho b j hb hE e (I.2.2 b j hb hE)
end IV
