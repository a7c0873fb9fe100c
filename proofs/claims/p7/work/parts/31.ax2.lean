/-! a row by numbers, as a tree: a node is a branch of its own value and of its two halves -/
abbrev TR (α : Type) : Type := Lean.RArray (Option α)
abbrev tE {α : Type} : TR α := .leaf none
abbrev tN {α : Type} (l : TR α) (v : Option α) (r : TR α) : TR α := .branch 0 (.leaf v) (.branch 0 l r)
def tG {α : Type} : TR α → Nat → Option α
  | .branch _ (.leaf v) (.branch _ l r), k => bif Nat.beq k 0 then v else bif Nat.beq (k % 2) 1 then tG l (k / 2) else tG r (k / 2 - 1)
  | _, _ => none
def tLf {α : Type} : TR α → TR α
  | .branch _ (.leaf _) (.branch _ l _) => l
  | _ => tE
def tRg {α : Type} : TR α → TR α
  | .branch _ (.leaf _) (.branch _ _ r) => r
  | _ => tE
def tTp {α : Type} : TR α → Option α
  | .branch _ (.leaf v) (.branch _ _ _) => v
  | _ => none
def tS {α : Type} : Nat → TR α → Nat → α → TR α
  | 0, t, _, _ => t
  | f + 1, t, k, a => bif Nat.beq k 0 then tN (tLf t) (some a) (tRg t) else bif Nat.beq (k % 2) 1 then tN (tS f (tLf t) (k / 2) a) (tTp t) (tRg t) else tN (tLf t) (tTp t) (tS f (tRg t) (k / 2 - 1) a)
theorem tG_N {α : Type} (l : TR α) (v : Option α) (r : TR α) (k : Nat) : tG (tN l v r) k = if k = 0 then v else if k % 2 = 1 then tG l (k / 2) else tG r (k / 2 - 1) := by
  show (bif Nat.beq k 0 then v else bif Nat.beq (k % 2) 1 then tG l (k / 2) else tG r (k / 2 - 1)) = _
  cases h : Nat.beq k 0
  · rw [if_neg (Nat.ne_of_beq_eq_false h)]
    cases h2 : Nat.beq (k % 2) 1
    · rw [if_neg (Nat.ne_of_beq_eq_false h2)]; rfl
    · rw [if_pos (Nat.eq_of_beq_eq_true h2)]; rfl
  · rw [if_pos (Nat.eq_of_beq_eq_true h)]; rfl
theorem tG_at {α : Type} (t : TR α) (k : Nat) : tG t k = if k = 0 then tTp t else if k % 2 = 1 then tG (tLf t) (k / 2) else tG (tRg t) (k / 2 - 1) := by
  have hn : ∀ j : Nat, tG (tE : TR α) j = none := fun _ => rfl
  match t with
  | .leaf _ => show none = if k = 0 then none else if k % 2 = 1 then tG tE _ else tG tE _; rw [hn, hn]; simp
  | .branch _ (.leaf v) (.leaf _) => show none = if k = 0 then none else if k % 2 = 1 then tG tE _ else tG tE _; rw [hn, hn]; simp
  | .branch _ (.branch _ _ _) _ => show none = if k = 0 then none else if k % 2 = 1 then tG tE _ else tG tE _; rw [hn, hn]; simp
  | .branch p (.leaf v) (.branch q l r) => exact tG_N l v r k
theorem tG_set {α : Type} : ∀ (f : Nat) (t : TR α) (k : Nat) (a : α) (j : Nat), k + 1 < 2 ^ f → tG (tS f t k a) j = if j = k then some a else tG t j
  | 0, _, k, _, _, h => by simp at h
  | f + 1, t, k, a, j, h => by
    have h2 : 2 ^ (f + 1) = 2 * 2 ^ f := by rw [Nat.pow_succ]; omega
    rw [tG_at t]
    unfold tS
    cases h0 : Nat.beq k 0
    · have k0 := Nat.ne_of_beq_eq_false h0
      cases h1 : Nat.beq (k % 2) 1
      · have k1 := Nat.ne_of_beq_eq_false h1
        simp only [cond_false]
        rw [tG_N, tG_set f _ _ _ _ (by omega)]
        by_cases e : j = k
        · subst e; simp [k0, k1]
        · by_cases j0 : j = 0
          · rw [if_pos j0, if_pos j0, if_neg (by omega)]
          · rw [if_neg j0, if_neg j0, if_neg e]
            by_cases j1 : j % 2 = 1
            · rw [if_pos j1, if_pos j1]
            · rw [if_neg j1, if_neg j1, if_neg (by omega)]
      · have k1 := Nat.eq_of_beq_eq_true h1
        simp only [cond_false, cond_true]
        rw [tG_N, tG_set f _ _ _ _ (by omega)]
        by_cases e : j = k
        · subst e; simp [k0, k1]
        · by_cases j0 : j = 0
          · rw [if_pos j0, if_pos j0, if_neg (by omega)]
          · rw [if_neg j0, if_neg j0, if_neg e]
            by_cases j1 : j % 2 = 1
            · rw [if_pos j1, if_pos j1, if_neg (by omega)]
            · rw [if_neg j1, if_neg j1]
    · have k0 := Nat.eq_of_beq_eq_true h0
      subst k0
      simp only [cond_true]
      rw [tG_N]
      by_cases e : j = 0
      · rw [if_pos e, if_pos e]
      · rw [if_neg e, if_neg e, if_neg e]
def tL {α : Type} : TR α → List (Nat × α)
  | .branch _ (.leaf v) (.branch _ l r) => (match v with
    | some a => [(0, a)]
    | none => []) ++ ((tL l).map (fun q => (2 * q.1 + 1, q.2)) ++ (tL r).map (fun q => (2 * q.1 + 2, q.2)))
  | _ => []
theorem tL_ok {α : Type} : ∀ {t : TR α} {k : Nat} {a : α}, tG t k = some a → (k, a) ∈ tL t
  | .leaf _, k, a, h => by cases h
  | .branch _ (.leaf _) (.leaf _), k, a, h => by cases h
  | .branch _ (.branch _ _ _) _, k, a, h => by cases h
  | .branch p (.leaf v) (.branch q l r), k, a, h => by
    have h' := (tG_N l v r k).symm.trans h
    show (k, a) ∈ (match v with
      | some a => [(0, a)]
      | none => []) ++ ((tL l).map (fun q => (2 * q.1 + 1, q.2)) ++ (tL r).map (fun q => (2 * q.1 + 2, q.2)))
    split at h'
    · rename_i e
      subst e; subst h'
      exact List.mem_append.mpr (Or.inl (List.mem_singleton.mpr rfl))
    · split at h'
      · rename_i e0 e1
        have q := tL_ok (t := l) h'
        refine List.mem_append.mpr (Or.inr (List.mem_append.mpr (Or.inl (List.mem_map.mpr ⟨_, q, ?_⟩))))
        show (2 * (k / 2) + 1, a) = (k, a)
        rw [show 2 * (k / 2) + 1 = k from by omega]
      · rename_i e0 e1
        have q := tL_ok (t := r) h'
        refine List.mem_append.mpr (Or.inr (List.mem_append.mpr (Or.inr (List.mem_map.mpr ⟨_, q, ?_⟩))))
        show (2 * (k / 2 - 1) + 2, a) = (k, a)
        rw [show 2 * (k / 2 - 1) + 2 = k from by omega]
