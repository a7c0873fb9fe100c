/-! the forms of the places, by kinds: written by wip/gen_inv.py -/
def iv_O : List (List (Nat × Nat × Nat)) := [[(4, 9, 0), (4, 17, 2), (4, 18, 220), (1, 220, 0)],
  [(0, 0, 0), (4, 19, 8), (4, 4, 0), (4, 3, 0), (0, 0, 0)],
  [(4, 20, 3), (1, 3, 0)],
  [(4, 21, 84), (1, 12, 0)],
  [(8, 0, 0), (9, 22, 40), (9, 23, 1), (0, 0, 0), (0, 0, 0)],
  [(1, 1, 0), (4, 9, 0), (4, 2, 0), (4, 11, 0), (4, 8, 0), (4, 5, 20), (4, 5, 40), (4, 24, 5), (0, 0, 0), (0, 0, 0), (0, 0, 0), (2, 0, 0), (2, 0, 0), (0, 0, 0), (0, 0, 0), (0, 0, 0), (0, 0, 0), (0, 0, 0)],
  [(0, 0, 0), (4, 3, 0), (0, 0, 0), (0, 0, 0), (0, 0, 0), (0, 0, 0), (2, 0, 0)],
  [(4, 25, 256), (0, 0, 0), (0, 0, 0), (0, 0, 0), (0, 0, 0), (0, 0, 0), (2, 0, 0), (0, 0, 0)],
  [(4, 26, 60), (0, 0, 0), (6, 0, 0), (1, 60, 0), (4, 10, 0), (4, 10, 0)],
  [(4, 27, 220), (1, 220, 0), (0, 0, 0), (0, 0, 0)],
  [(0, 0, 0), (2, 0, 0), (2, 0, 0), (2, 0, 0), (4, 28, 256), (4, 29, 256)],
  [(0, 0, 0), (6, 1, 0), (1, 60, 0), (4, 30, 61), (4, 31, 61), (4, 32, 61), (4, 33, 15616), (4, 34, 220), (1, 220, 0), (4, 35, 2), (4, 36, 2), (4, 37, 2), (4, 38, 2), (4, 39, 2), (4, 40, 2), (4, 41, 2), (4, 42, 512), (4, 43, 512), (4, 44, 512), (4, 45, 512), (4, 46, 20), (4, 47, 20), (4, 48, 60), (4, 49, 20), (4, 50, 20), (4, 51, 20), (4, 52, 2), (4, 53, 192), (4, 54, 2), (4, 55, 40), (4, 56, 1600), (4, 57, 2), (4, 58, 80), (4, 59, 3200), (4, 60, 2), (4, 61, 2), (4, 62, 2), (4, 63, 2), (4, 64, 2), (4, 65, 2), (4, 66, 2), (4, 67, 2), (4, 68, 2), (4, 69, 2), (4, 70, 2), (4, 71, 2), (4, 72, 2), (4, 73, 2), (4, 74, 2), (4, 75, 2), (4, 76, 2), (4, 77, 2), (4, 78, 2), (4, 79, 2), (4, 80, 2), (4, 81, 2), (4, 82, 4), (1, 3, 0), (4, 83, 256), (6, 3, 0), (6, 4, 0), (4, 84, 40), (4, 85, 256), (6, 7, 0), (4, 86, 256)]]
def iv_R : List (Nat × Nat × Nat) := [(5, 0, 0), (5, 0, 0), (5, 0, 0), (5, 0, 0), (4, 6, 0), (1, 255, 0), (4, 7, 0), (0, 0, 0), (0, 0, 0), (0, 0, 0), (1, 40, 0), (0, 0, 0), (0, 0, 0), (4, 10, 0), (1, 255, 0), (0, 0, 0), (2, 0, 0), (1, 1, 0), (0, 0, 0), (1, 256, 0), (1, 255, 0), (1, 255, 0), (0, 0, 0), (2, 0, 0), (2, 0, 0), (0, 0, 0), (3, 0, 0), (2, 0, 0), (2, 0, 0), (0, 0, 0), (0, 0, 0), (0, 0, 0), (2, 0, 0), (0, 0, 0), (1, 3, 0), (0, 0, 0), (0, 0, 0), (0, 0, 0), (2, 0, 0), (1, 12, 0), (0, 0, 0), (1, 20, 0), (1, 40, 0), (0, 0, 0), (7, 2, 0), (1, 40, 0), (0, 0, 0), (0, 0, 0), (0, 0, 0), (0, 0, 0), (0, 0, 0), (0, 0, 0), (2, 0, 0), (0, 0, 0), (0, 0, 0), (0, 0, 0), (0, 0, 0), (0, 0, 0), (0, 0, 0), (0, 0, 0), (0, 0, 0), (0, 0, 0), (0, 0, 0), (0, 0, 0), (0, 0, 0), (0, 0, 0), (0, 0, 0), (0, 0, 0), (0, 0, 0), (0, 0, 0), (1, 255, 0), (0, 0, 0), (0, 0, 0), (0, 0, 0)]
def iv_code (c k : Nat) : Nat × Nat × Nat :=
  if c = 53 then (if k % 8 = 0 then (1, 7, 0) else (0, 0, 0))
  else if c = 85 then (if k = 0 then (6, 5, 0) else if k = 1 then (6, 6, 0) else (1, 255, 0))
  else if c = 54 then (if k = 0 then (6, 8, 0) else if k = 1 then (6, 9, 0) else (5, 0, 0))
  else if c ≤ 12 then (iv_O.getD (c - 1) []).getD k (5, 0, 0) else iv_R.getD (c - 13) (5, 0, 0)
/-- forms: (0) an int; (1, b) a number up to b; (2) a long; (3) a long below 2^48; (4, c, n) a reference to a cell of kind c and length n that is whole; (5) anything; (6, i) the number P i; (7, i) a number up to P i; (8) the cell's own length; (9, c, n) a reference to a cell of kind c and n times the own length -/
def iv_ok (κ : Nat → Nat × Nat) (E : Nat → Prop) (P : Nat → Nat) (m : Nat) (c : Nat × Nat × Nat) (v : Value) : Prop := match c.1 with
  | 0 => ∃ x : Int32, v = .int x
  | 1 => ∃ n : Nat, n ≤ c.2.1 ∧ v = .int (nI n)
  | 2 => ∃ x : Int64, v = .long x
  | 3 => ∃ n : Nat, n < 281474976710656 ∧ v = .long (lN n)
  | 4 => ∃ q : Nat, v = .ref q ∧ κ q = (c.2.1, c.2.2) ∧ ¬ E q
  | 6 => v = .int (nI (P c.2.1))
  | 7 => ∃ n : Nat, n ≤ P c.2.1 ∧ v = .int (nI n)
  | 8 => v = .int (nI m)
  | 9 => ∃ q : Nat, v = .ref q ∧ κ q = (c.2.1, c.2.2 * m) ∧ ¬ E q
  | _ => True
/-- kinds of which there is one cell only -/
def iv_one (c : Nat) : Bool := c == kd_M || c == kd_Li || c == kd_M_came || c == kd_M_toSend
/-- how large the numbers may be -/
def Pok (P : Nat → Nat) : Prop := P 5 ≤ 255 ∧ P 6 ≤ 255 ∧ P 7 ≤ 256 ∧ P 8 ≤ 20 ∧ P 9 ≤ 20
/-- the whole pictured heap but for the cells of E, which are being made: kinds κ, next address n, numbers P -/
def Iv (D : ft_G) (κ : Nat → Nat × Nat) (n : Nat) (E : Nat → Prop) (P : Nat → Nat) (h : ft_H) : Prop :=
  h.2 = (κ, n) ∧ (∀ a : Nat, (κ a).1 ≠ 0 → ft_B D ≤ a) ∧ (∀ a k : Nat, (κ a).1 ≠ 0 → ¬ E a → iv_ok κ E P (κ a).2 (iv_code (κ a).1 k) (h.1 a k)) ∧ (∀ a b : Nat, (κ a).1 = (κ b).1 → iv_one (κ a).1 = true → a = b) ∧ Pok P
section IV
variable {D : ft_G} {κ : Nat → Nat × Nat} {n : Nat} {E : Nat → Prop} {P : Nat → Nat} {h : ft_H}
theorem Iv.kinds (I : Iv D κ n E P h) : h.2.1 = κ := by rw [I.1]
theorem Iv.K (I : Iv D κ n E P h) {a c m : Nat} (ha : κ a = (c, m)) : (h.2.1 a).1 = c := by rw [I.kinds, ha]
theorem Iv.Kn (I : Iv D κ n E P h) {a c m : Nat} (ha : κ a = (c, m)) : (h.2.1 a).2 = m := by rw [I.kinds, ha]
theorem Iv.Kd (I : Iv D κ n E P h) {a c m : Nat} (ha : κ a = (c, m)) {x : Option (Nat ⊕ FieldType)} (hx : ft_kd c = x) : ft_kd (h.2.1 a).1 = x := by rw [I.K ha]; exact hx
theorem Iv.vi (I : Iv D κ n E P h) {a c m j : Nat} (ha : κ a = (c, m)) (hj : j < m) (hm : m < 2 ^ 31) : vp_in (nI j) (h.2.1 a).2 := by rw [I.Kn ha]; exact vp_in_nI hj hm
theorem Iv.B (I : Iv D κ n E P h) {a c m : Nat} (ha : κ a = (c + 1, m)) : ft_B D ≤ a := I.2.1 a (by rw [ha]; exact Nat.succ_ne_zero c)
theorem Iv.get (I : Iv D κ n E P h) {a c m : Nat} (ha : κ a = (c + 1, m)) (hE : ¬ E a) (k : Nat) : iv_ok κ E P m (iv_code (c + 1) k) (h.1 a k) := by
  have q := I.2.2.1 a k (by rw [ha]; exact Nat.succ_ne_zero c) hE
  rw [ha] at q
  exact q
theorem iv_ok.mono {Q : Nat → Nat} {m : Nat} {c : Nat × Nat × Nat} {v : Value} (q : iv_ok κ E P m c v) (hq : ∀ i, c.1 = 6 ∧ c.2.1 = i → Q i = P i) (hq7 : ∀ i, P i ≤ Q i ∨ c.1 ≠ 7 ∨ c.2.1 ≠ i) : iv_ok κ E Q m c v := by
  unfold iv_ok at q ⊢
  split at q <;> simp_all
  · obtain ⟨z, h1, h2⟩ := q
    rename_i h7
    rcases hq7 c.2.1 with h | h
    · exact ⟨z, Nat.le_trans h1 h, h2⟩
    · exact absurd rfl h
theorem Iv.set (I : Iv D κ n E P h) {a c m k : Nat} {v : Value} (ha : κ a = (c + 1, m)) (hv : iv_ok κ E P m (iv_code (c + 1) k) v) : Iv D κ n E P (ft_set h a k v) := by
  refine ⟨I.1, I.2.1, fun b j hb hE => ?_, I.2.2.2.1, I.2.2.2.2⟩
  by_cases e : b = a ∧ j = k
  · obtain ⟨e1, e2⟩ := e
    subst e1; subst e2
    rw [ha]
    simp only [ft_set, and_self, if_true]
    exact hv
  · simp only [ft_set, if_neg e]
    exact I.2.2.1 b j hb hE
/-- a place whose form is one of the numbers: the number changes with it; no other cell of any kind has that form there -/
theorem Iv.setP (I : Iv D κ n E P h) {Q : Nat → Nat} (hQ : Pok Q) {a c m k : Nat} {v : Value} (ha : κ a = (c + 1, m)) (hv : iv_ok κ E Q m (iv_code (c + 1) k) v) (ho : ∀ b j : Nat, (κ b).1 ≠ 0 → ¬ E b → ¬ (b = a ∧ j = k) → iv_ok κ E P (κ b).2 (iv_code (κ b).1 j) (h.1 b j) → iv_ok κ E Q (κ b).2 (iv_code (κ b).1 j) (h.1 b j)) : Iv D κ n E Q (ft_set h a k v) := by
  refine ⟨I.1, I.2.1, fun b j hb hE => ?_, I.2.2.2.1, hQ⟩
  by_cases e : b = a ∧ j = k
  · obtain ⟨e1, e2⟩ := e
    subst e1; subst e2
    rw [ha]
    simp only [ft_set, and_self, if_true]
    exact hv
  · simp only [ft_set, if_neg e]
    exact ho b j hb hE e (I.2.2.1 b j hb hE)
theorem Iv.vx (I : Iv D κ n E P h) {a c m j : Nat} {x : Int32} (ha : κ a = (c, m)) (hx : x = nI j) (hj : j < m) (hm : m < 2 ^ 31) : vp_in x (h.2.1 a).2 := by rw [hx]; exact I.vi ha hj hm
def Pu (P : Nat → Nat) (i x : Nat) : Nat → Nat := fun j => if j = i then x else P j
theorem Pu_s {i x : Nat} : Pu P i x i = x := by simp [Pu]
theorem Pu_n {i j x : Nat} (hj : j ≠ i) : Pu P i x j = P j := by simp [Pu, hj]
/-- where the numbers stand -/
def iv_where : List (Nat × Nat × Nat) := [(0, kd_Li, pl_Li_time), (1, kd_M, pl_M_now), (3, kd_M, pl_M_madeSize), (4, kd_M, pl_M_optionBytes), (5, kd_M_came, 0), (6, kd_M_came, 1), (7, kd_M, pl_M_cameSize), (8, kd_M_toSend, 0), (9, kd_M_toSend, 1)]
theorem iv_R6 : ∀ x ∈ iv_R, x.1 ≠ 6 ∧ (x.1 = 7 → x.2.1 = 2) := by decide
def iv_at (c j : Nat) : Nat × Nat × Nat := (iv_O.getD (c - 1) []).getD j (5, 0, 0)
theorem iv_O6b : ((List.range 13).all fun c => (List.range 66).all fun j => ((iv_at c j).1 != 6) || iv_where.contains ((iv_at c j).2.1, (if c = 0 then 1 else c), j)) = true := by decide +kernel
theorem iv_O7b : ((List.range 13).all fun c => (List.range 66).all fun j => ((iv_at c j).1 != 7)) = true := by decide +kernel
theorem iv_O6 (c : Nat) (hc : c < 13) (j : Nat) (hj : j < 66) (h6 : ((iv_O.getD (c - 1) []).getD j (5, 0, 0)).1 = 6) : (((iv_O.getD (c - 1) []).getD j (5, 0, 0)).2.1, (if c = 0 then 1 else c), j) ∈ iv_where := by
  have q := List.all_eq_true.mp (List.all_eq_true.mp iv_O6b c (List.mem_range.mpr hc)) j (List.mem_range.mpr hj)
  have h6' : (iv_at c j).1 = 6 := h6
  rw [h6'] at q
  have q2 : iv_where.contains ((iv_at c j).2.1, (if c = 0 then 1 else c), j) = true := by simpa using q
  exact List.contains_iff_mem.mp q2
theorem iv_O7 (c : Nat) (hc : c < 13) (j : Nat) (hj : j < 66) : ((iv_O.getD (c - 1) []).getD j (5, 0, 0)).1 ≠ 7 := by
  have q := List.all_eq_true.mp (List.all_eq_true.mp iv_O7b c (List.mem_range.mpr hc)) j (List.mem_range.mpr hj)
  have q2 : (iv_at c j).1 ≠ 7 := by simpa using q
  exact q2
theorem iv_Olen : ∀ l ∈ iv_O, l.length ≤ 66 := by decide
theorem iv_big {c j : Nat} (hj : 66 ≤ j) : (iv_O.getD (c - 1) []).getD j (5, 0, 0) = (5, 0, 0) := by
  have hl : (iv_O.getD (c - 1) []).length ≤ 66 := by
    rw [List.getD_eq_getElem?_getD]
    cases hq : iv_O[c - 1]? with
    | none => simp
    | some l => exact iv_Olen l (List.mem_of_getElem? hq)
  rw [List.getD_eq_getElem?_getD, List.getElem?_eq_none (by omega)]
  rfl
theorem iv_getR {c : Nat} : iv_R.getD c (5, 0, 0) ∈ iv_R ∨ iv_R.getD c (5, 0, 0) = (5, 0, 0) := by
  rw [List.getD_eq_getElem?_getD]
  cases hq : iv_R[c]? with
  | none => exact Or.inr rfl
  | some l => exact Or.inl (List.mem_of_getElem? hq)
theorem iv_six {c j : Nat} (h0 : c ≠ 0) (h6 : (iv_code c j).1 = 6) : ((iv_code c j).2.1, c, j) ∈ iv_where := by
  unfold iv_code at h6 ⊢
  split at h6
  · split at h6 <;> simp at h6
  · rename_i n1
    rw [if_neg n1]
    split at h6
    · rename_i e2
      rw [if_pos e2]
      subst e2
      split at h6
      · rename_i e3
        rw [if_pos e3]; subst e3; decide
      · rename_i n3
        rw [if_neg n3]
        split at h6
        · rename_i e4
          rw [if_pos e4]; subst e4; decide
        · simp at h6
    · rename_i n2
      rw [if_neg n2]
      split at h6
      · rename_i e2
        rw [if_pos e2]
        subst e2
        split at h6
        · rename_i e3
          rw [if_pos e3]; subst e3; decide
        · rename_i n3
          rw [if_neg n3]
          split at h6
          · rename_i e4
            rw [if_pos e4]; subst e4; decide
          · simp at h6
      rename_i n2'
      rw [if_neg n2']
      split at h6
      · rename_i e5
        rw [if_pos e5]
        by_cases hj : j < 66
        · have q := iv_O6 c (by omega) j hj h6
          rw [if_neg h0] at q
          exact q
        · rw [iv_big (by omega)] at h6
          simp at h6
      · rcases iv_getR (c := c - 13) with q | q
        · exact absurd h6 (iv_R6 _ q).1
        · rw [q] at h6; simp at h6
theorem iv_seven {c j : Nat} (h7 : (iv_code c j).1 = 7) : (iv_code c j).2.1 = 2 := by
  unfold iv_code at h7 ⊢
  split at h7
  · split at h7 <;> simp at h7
  · rename_i n1
    rw [if_neg n1]
    split at h7
    · split at h7
      · simp at h7
      · split at h7 <;> simp at h7
    · rename_i n2
      rw [if_neg n2]
      split at h7
      · split at h7
        · simp at h7
        · split at h7 <;> simp at h7
      rename_i n2'
      rw [if_neg n2']
      split at h7
      · rename_i e5
        by_cases hj : j < 66
        · exact absurd h7 (iv_O7 c (by omega) j hj)
        · rw [iv_big (by omega)] at h7
          simp at h7
      · rename_i n5
        rw [if_neg n5]
        rcases iv_getR (c := c - 13) with q | q
        · exact (iv_R6 _ q).2 h7
        · rw [q] at h7; simp at h7
theorem iv_where1 : ∀ q ∈ iv_where, ∀ r ∈ iv_where, q.1 = r.1 → q = r := by decide
theorem iv_whereO : ∀ q ∈ iv_where, iv_one q.2.1 = true := by decide
/-- one of the numbers changes, at its place -/
theorem Iv.upd (I : Iv D κ n E P h) {o c m k : Nat} (i x : Nat) (hQ : Pok (Pu P i x)) (ho : κ o = (c + 1, m)) (hw : (i, c + 1, k) ∈ iv_where) (h2 : i ≠ 2) (hv : iv_ok κ E (Pu P i x) m (iv_code (c + 1) k) (.int (nI x))) : Iv D κ n E (Pu P i x) (ft_set h o k (.int (nI x))) := by
  refine I.setP hQ ho hv (fun b j hb hE hne q => q.mono (fun i' hi => ?_) (fun i' => ?_))
  · by_cases e : i' = i
    · subst e
      exfalso
      have q1 := iv_six hb hi.1
      rw [hi.2] at q1
      have q2 := iv_where1 _ q1 _ hw rfl
      have q3 : (κ b).1 = c + 1 := congrArg (fun z => z.2.1) q2
      have q4 : j = k := congrArg (fun z => z.2.2) q2
      exact hne ⟨I.2.2.2.1 b o (by rw [q3, ho]) (by rw [q3]; exact iv_whereO _ hw), q4⟩
    · exact Pu_n e
  · by_cases h7 : (iv_code (κ b).1 j).1 = 7
    · have q7 := iv_seven h7
      by_cases e : i' = 2
      · subst e
        exact Or.inl (by rw [Pu_n (Ne.symm h2)]; exact Nat.le_refl _)
      · exact Or.inr (Or.inr (by rw [q7]; exact fun z => e z.symm))
    · exact Or.inr (Or.inl h7)
end IV
theorem Pok.pu {P : Nat → Nat} {i x : Nat} (h : Pok P) (hi : i < 5) : Pok (Pu P i x) := by
  obtain ⟨h5, h6, h7, h8, h9⟩ := h
  refine ⟨?_, ?_, ?_, ?_, ?_⟩ <;> rw [Pu_n (by omega)] <;> assumption
section IV2
variable {D : ft_G} {κ : Nat → Nat × Nat} {n : Nat} {E : Nat → Prop} {P : Nat → Nat} {h : ft_H}
theorem Iv.ok (I : Iv D κ n E P h) : Pok P := I.2.2.2.2
/-- how many datagrams there are to send -/
theorem Iv.ts (I : Iv D κ n E P h) {a e m : Nat} (ha : κ a = (kd_M_toSend, m)) (hE : ¬ E a) (he : e < 2) : h.1 a (nI e).toNatClampNeg = .int (nI (P (8 + e))) := by
  rcases (show e = 0 ∨ e = 1 by omega) with rfl | rfl
  · exact I.get ha hE 0
  · exact I.get ha hE 1
theorem Iv.tsb (I : Iv D κ n E P h) {e : Nat} (he : e < 2) : P (8 + e) ≤ 20 := by
  rcases (show e = 0 ∨ e = 1 by omega) with rfl | rfl
  · exact I.ok.2.2.2.1
  · exact I.ok.2.2.2.2
theorem Iv.tset (I : Iv D κ n E P h) {a e m x : Nat} (ha : κ a = (kd_M_toSend, m)) (he : e < 2) (hx : x ≤ 20) : Iv D κ n E (Pu P (8 + e) x) (ft_set h a (nI e).toNatClampNeg (.int (nI x))) := by
  have hq : Pok (Pu P (8 + e) x) := by
    obtain ⟨h5, h6, h7, h8, h9⟩ := I.ok
    rcases (show e = 0 ∨ e = 1 by omega) with rfl | rfl
    · exact ⟨by rw [Pu_n (by omega)]; exact h5, by rw [Pu_n (by omega)]; exact h6, by rw [Pu_n (by omega)]; exact h7, by rw [Pu_s]; exact hx, by rw [Pu_n (by omega)]; exact h9⟩
    · exact ⟨by rw [Pu_n (by omega)]; exact h5, by rw [Pu_n (by omega)]; exact h6, by rw [Pu_n (by omega)]; exact h7, by rw [Pu_n (by omega)]; exact h8, by rw [Pu_s]; exact hx⟩
  rcases (show e = 0 ∨ e = 1 by omega) with rfl | rfl
  · exact I.upd 8 x hq ha (k := 0) (by decide) (by decide) (by show Value.int (nI x) = Value.int (nI (Pu P 8 x 8)); rw [Pu_s])
  · exact I.upd 9 x hq ha (k := 1) (by decide) (by decide) (by show Value.int (nI x) = Value.int (nI (Pu P 9 x 9)); rw [Pu_s])
/-- a byte of the packet that came -/
theorem Iv.came (I : Iv D κ n E P h) {a m : Nat} (ha : κ a = (kd_M_came, m)) (hE : ¬ E a) (k : Nat) : ∃ x : Nat, x ≤ 255 ∧ h.1 a k = .int (nI x) := by
  by_cases h0 : k = 0
  · subst h0; exact ⟨_, I.ok.1, I.get ha hE 0⟩
  · by_cases h1 : k = 1
    · subst h1; exact ⟨_, I.ok.2.1, I.get ha hE 1⟩
    · have q := I.get ha hE k
      rw [show iv_code kd_M_came k = (1, 255, 0) from by unfold iv_code; rw [if_neg (by decide), if_pos rfl, if_neg h0, if_neg h1]] at q
      obtain ⟨x, hx, hv⟩ := q
      exact ⟨x, hx, hv⟩
/-- what is due: its length, and any byte of it -/
theorem Iv.due0 (I : Iv D κ n E P h) {a m : Nat} (ha : κ a = (kd_M_due, m)) (hE : ¬ E a) {k : Nat} (hk : k % 8 = 0) : ∃ x : Nat, x ≤ 7 ∧ h.1 a k = .int (nI x) := by
  have q := I.get ha hE k
  rw [show iv_code kd_M_due k = (1, 7, 0) from by unfold iv_code; rw [if_pos rfl, if_pos hk]] at q
  obtain ⟨x, hx, hv⟩ := q
  exact ⟨x, hx, hv⟩
theorem Iv.due (I : Iv D κ n E P h) {a m : Nat} (ha : κ a = (kd_M_due, m)) (hE : ¬ E a) (k : Nat) : ∃ x : Int32, h.1 a k = .int x := by
  by_cases hk : k % 8 = 0
  · obtain ⟨x, _, hv⟩ := I.due0 ha hE hk
    exact ⟨_, hv⟩
  · have q := I.get ha hE k
    rw [show iv_code kd_M_due k = (0, 0, 0) from by unfold iv_code; rw [if_pos rfl, if_neg hk]] at q
    exact q
theorem Iv.dset (I : Iv D κ n E P h) {a m k : Nat} {x : Int32} (ha : κ a = (kd_M_due, m)) (hx : k % 8 = 0 → ∃ z : Nat, z ≤ 7 ∧ x = nI z) : Iv D κ n E P (ft_set h a k (.int x)) := by
  refine I.set ha ?_
  by_cases hk : k % 8 = 0
  · rw [show iv_code kd_M_due k = (1, 7, 0) from by unfold iv_code; rw [if_pos rfl, if_pos hk]]
    obtain ⟨z, hz, e⟩ := hx hk
    exact ⟨z, hz, by rw [e]⟩
  · rw [show iv_code kd_M_due k = (0, 0, 0) from by unfold iv_code; rw [if_pos rfl, if_neg hk]]
    exact ⟨_, rfl⟩
end IV2
theorem sm_sub {D : ft_G} {y pc : Nat} {lv lv' : List (Nat × Value)} {st : List Value} {h : ft_H} {uc us : Nat} {Q : Option Value → ft_H → Prop} (ks : List Nat) (hl : lv_pick lv ks = lv') (k : sm D y pc lv' st h uc us Q) : sm D y pc lv st h uc us Q := by
  intro p l e R s m args below meth c H locs Z ls C rt hls hA hS
  exact k p l e R s m args below meth c H locs Z ls C rt (lv_sub hls ks hl) hA hS
theorem ft_nb {b : Nat} (hb : b ≤ 1) : narrow .boolean (.int (nI b)) = .int (nI b) := by
  rcases (show b = 0 ∨ b = 1 by omega) with rfl | rfl <;> rfl
