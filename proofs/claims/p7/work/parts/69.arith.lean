/-! steps with numbers; branches -/
abbrev SU : Type := VS × Nat × LV × List AV
/-- what holds at a place of a method's walk -/
def VG (D : ft_G) (κ : Nat → Nat × Nat) (n : Nat) (md : MD) (h0 : ft_H) (y : Nat) (h : ft_H) (ρ : Nat → Int) (τ : Nat → Nat) (s : VS) (lv : LV) (st : List AV) : Prop := VOk D κ h ρ τ s ∧ vx_I D κ n h ∧ vx_fr κ md h0 h ∧ vx_altL (vs_n s) (vs_r s) lv ∧ vx_altS (vs_n s) (vs_r s) st ∧ (y = 0 → 0 < vs_n s ∧ ρ 0 = ((D.2.2.2.2.2.2.1 : Nat) : Int) ∧ D.2.2.2.2.2.2.1 < 2147483648)
/-- a walk that goes on -/
def VK (D : ft_G) (κ : Nat → Nat × Nat) (n : Nat) (md : MD) (h0 : ft_H) (y uc us : Nat) (Q : Option Value → ft_H → Prop) (s : VS) (ρ : Nat → Int) (τ : Nat → Nat) (u : SU) : Prop := ∀ ρ' τ' h', vx_agr (vs_n s) ρ ρ' → vx_agr (vs_r s) τ τ' → vs_n s ≤ vs_n u.1 → vs_r s ≤ vs_r u.1 → VG D κ n md h0 y h' ρ' τ' u.1 u.2.2.1 u.2.2.2 → sm D y u.2.1 (vx_dL D ρ' τ' u.2.2.1) (vx_dS D ρ' τ' u.2.2.2) h' uc us Q
section VXA
variable {D : ft_G} {κ : Nat → Nat × Nat} {n : Nat} {md : MD} {h0 : ft_H} {y uc us : Nat} {Q : Option Value → ft_H → Prop} {h : ft_H} {ρ : Nat → Int} {τ : Nat → Nat} {s : VS} {lv : LV} {st : List AV}
theorem vx_scr {ρ' : Nat → Int} {m : Nat} (G : y = 0 → 0 < vs_n s ∧ ρ 0 = ((D.2.2.2.2.2.2.1 : Nat) : Int) ∧ D.2.2.2.2.2.2.1 < 2147483648) (a : vx_agr (vs_n s) ρ ρ') (hm : vs_n s ≤ m) : y = 0 → 0 < m ∧ ρ' 0 = ((D.2.2.2.2.2.2.1 : Nat) : Int) ∧ D.2.2.2.2.2.2.1 < 2147483648 := fun hy => by
  obtain ⟨g1, g2, g3⟩ := G hy
  exact ⟨by omega, by rw [a 0 g1]; exact g2, g3⟩
/-- a value comes on the stack -/
theorem vx_push (G : VG D κ n md h0 y h ρ τ s lv st) {s' : VS} {ρ' : Nat → Int} {τ' : Nat → Nat} (on : vx_on D κ h ρ τ s s' ρ' τ') {v : AV} (hv : vx_alt (vs_n s') (vs_r s') v) {r : List AV} (hr : ∀ z ∈ r, z ∈ st) {pc' : Nat} (K : VK D κ n md h0 y uc us Q s ρ τ (s', pc', lv, v :: r)) : sm D y pc' (vx_dL D ρ τ lv) (vx_d D ρ' τ' v :: vx_dS D ρ τ r) h uc us Q := by
  have hr' : vx_altS (vs_n s) (vs_r s) r := fun z hz => G.2.2.2.2.1 z (hr z hz)
  have k := K ρ' τ' h on.1 on.2.1 on.2.2.2.1 on.2.2.2.2 ⟨on.2.2.1, G.2.1, G.2.2.1, G.2.2.2.1.mono on.2.2.2.1 on.2.2.2.2, vx_altS_c hv (hr'.mono on.2.2.2.1 on.2.2.2.2), vx_scr G.2.2.2.2.2 on.1 on.2.2.2.1⟩
  have e1 := vx_dL_agr (D := D) on.1 on.2.1 G.2.2.2.1
  have e2 := vx_dS_agr (D := D) on.1 on.2.1 hr'
  have k' : sm D y pc' (vx_dL D ρ' τ' lv) (vx_d D ρ' τ' v :: vx_dS D ρ' τ' r) h uc us Q := k
  rw [e1, e2] at k'
  exact k'
/-- nothing comes -/
theorem vx_stay (G : VG D κ n md h0 y h ρ τ s lv st) {s' : VS} {ρ' : Nat → Int} {τ' : Nat → Nat} (on : vx_on D κ h ρ τ s s' ρ' τ') {r : List AV} (hr : ∀ z ∈ r, z ∈ st) {pc' : Nat} (K : VK D κ n md h0 y uc us Q s ρ τ (s', pc', lv, r)) : sm D y pc' (vx_dL D ρ τ lv) (vx_dS D ρ τ r) h uc us Q := by
  have hr' : vx_altS (vs_n s) (vs_r s) r := fun z hz => G.2.2.2.2.1 z (hr z hz)
  have k := K ρ' τ' h on.1 on.2.1 on.2.2.2.1 on.2.2.2.2 ⟨on.2.2.1, G.2.1, G.2.2.1, G.2.2.2.1.mono on.2.2.2.1 on.2.2.2.2, hr'.mono on.2.2.2.1 on.2.2.2.2, vx_scr G.2.2.2.2.2 on.1 on.2.2.2.1⟩
  have e1 := vx_dL_agr (D := D) on.1 on.2.1 G.2.2.2.1
  have e2 := vx_dS_agr (D := D) on.1 on.2.1 hr'
  have k' : sm D y pc' (vx_dL D ρ' τ' lv) (vx_dS D ρ' τ' r) h uc us Q := k
  rw [e1, e2] at k'
  exact k'
end VXA
def vx_2i (k : Nat) (s : VS) (pc : Nat) (lv : LV) (st : List AV) : Option (List SU) := match st with
  | b :: a :: r => bif vx_is0 a && vx_is0 b then (match vx_opI s k a.2.1 b.2.1 with
    | none => none
    | some o => match vx_fin s o with
      | none => none
      | some q => some [(q.1, pc + 1, lv, av_i q.2 :: r)]) else none
  | _ => none
def vx_2l (k : Nat) (s : VS) (pc : Nat) (lv : LV) (st : List AV) : Option (List SU) := match st with
  | b :: a :: r => bif vx_is1 a && vx_is1 b then (match vx_fin s (vx_opJ s k a.2.1 b.2.1) with
      | none => none
      | some q => some [(q.1, pc + 1, lv, av_l q.2 :: r)]) else none
  | _ => none
def vx_2s (k : Nat) (s : VS) (pc : Nat) (lv : LV) (st : List AV) : Option (List SU) := match st with
  | b :: a :: r => bif vx_is1 a && vx_is0 b then (match vx_fin s (vx_opJ s k a.2.1 b.2.1) with
      | none => none
      | some q => some [(q.1, pc + 1, lv, av_l q.2 :: r)]) else none
  | _ => none
section VXA2
variable {D : ft_G} {κ : Nat → Nat × Nat} {n : Nat} {md : MD} {h0 : ft_H} {y uc us : Nat} {Q : Option Value → ft_H → Prop} {h : ft_H} {ρ : Nat → Int} {τ : Nat → Nat} {s : VS} {lv : LV} {st : List AV}
theorem vx_2i_ok {i : Instr} {pr : List Nat} {pc nn k : Nat} (hc : ft_chk y = true) (hk : ft_lk pc (ft_c y) = some (i, nn, pr)) (G : VG D κ n md h0 y h ρ τ s lv st) {L : List SU} (e : vx_2i k s pc lv st = some L)
    (hG : ∀ (x z : Int32) (r : List Value), (8 ≤ k → ¬ z = 0) → ∃ gs, ft_e D y i pr pc (vx_dL D ρ τ lv) (.int z :: .int x :: r) h [] = some (gs, pc + 1, vx_dL D ρ τ lv, .int (opP k (x, 0) (z, 0)).1 :: r, h, []) ∧ ft_all gs)
    (K : ∀ u ∈ L, VK D κ n md h0 y uc us Q s ρ τ u) : sm D y pc (vx_dL D ρ τ lv) (vx_dS D ρ τ st) h uc us Q := by
  unfold vx_2i at e
  split at e
  · rename_i b a r
    cases hb : (vx_is0 a && vx_is0 b)
    · rw [hb] at e; cases e
    · rw [hb] at e
      simp only [cond_true] at e
      rw [Bool.and_eq_true] at hb
      have aa := G.2.2.2.2.1 a (List.mem_cons_of_mem _ List.mem_cons_self)
      have ab := G.2.2.2.2.1 b List.mem_cons_self
      split at e
      · cases e
      · rename_i o ho
        split at e
        · cases e
        · rename_i q hq
          cases e
          obtain ⟨o1, o2⟩ := vx_opI_ok G.1 aa.1 ab.1 ho
          obtain ⟨ρ', on, l1, l2, -, -⟩ := vx_finI G.1 o1 (s' := q.1) (l := q.2) hq
          show sm D y pc _ (vx_d D ρ τ b :: vx_d D ρ τ a :: vx_dS D ρ τ r) h uc us Q
          rw [vx_d0 (Nat.eq_of_beq_eq_true hb.1), vx_d0 (Nat.eq_of_beq_eq_true hb.2)]
          obtain ⟨gs, e1, e2⟩ := hG (Int32.ofInt (vx_ev ρ a.2.1)) (Int32.ofInt (vx_ev ρ b.2.1)) (vx_dS D ρ τ r) o2
          refine ft_e_ok hc hk e1 e2 ?_
          rw [← l2]
          exact vx_push G on ⟨l1, fun z => by cases z⟩ (fun z hz => List.mem_cons_of_mem _ (List.mem_cons_of_mem _ hz)) (K _ (List.mem_singleton.mpr rfl))
  · cases e
theorem vx_2l_ok {i : Instr} {pr : List Nat} {pc nn k : Nat} (h23 : k ≤ 23) (hc : ft_chk y = true) (hk : ft_lk pc (ft_c y) = some (i, nn, pr)) (G : VG D κ n md h0 y h ρ τ s lv st) {L : List SU} (e : vx_2l k s pc lv st = some L)
    (hG : ∀ (x z : Int64) (r : List Value), ft_e D y i pr pc (vx_dL D ρ τ lv) (.long z :: .long x :: r) h [] = some ([], pc + 1, vx_dL D ρ τ lv, .long (opP k (0, x) (0, z)).2 :: r, h, []))
    (K : ∀ u ∈ L, VK D κ n md h0 y uc us Q s ρ τ u) : sm D y pc (vx_dL D ρ τ lv) (vx_dS D ρ τ st) h uc us Q := by
  unfold vx_2l at e
  split at e
  · rename_i b a r
    cases hb : (vx_is1 a && vx_is1 b)
    · rw [hb] at e; cases e
    · rw [hb] at e
      simp only [cond_true] at e
      rw [Bool.and_eq_true] at hb
      have aa := G.2.2.2.2.1 a (List.mem_cons_of_mem _ List.mem_cons_self)
      have ab := G.2.2.2.2.1 b List.mem_cons_self
      split at e
      · cases e
      · rename_i q hq
        cases e
        obtain ⟨ρ', on, l1, l2, -, -⟩ := vx_finJ G.1 (vx_opJ_ok G.1 aa.1 ab.1 h23) (s' := q.1) (l := q.2) hq
        show sm D y pc _ (vx_d D ρ τ b :: vx_d D ρ τ a :: vx_dS D ρ τ r) h uc us Q
        rw [vx_d1 (Nat.eq_of_beq_eq_true hb.1), vx_d1 (Nat.eq_of_beq_eq_true hb.2)]
        refine ft_e_ok hc hk (hG _ _ _) trivial ?_
        rw [← l2]
        exact vx_push G on ⟨l1, fun z => by cases z⟩ (fun z hz => List.mem_cons_of_mem _ (List.mem_cons_of_mem _ hz)) (K _ (List.mem_singleton.mpr rfl))
  · cases e
theorem vx_2s_ok {i : Instr} {pr : List Nat} {pc nn k : Nat} (h24 : 24 ≤ k) (hc : ft_chk y = true) (hk : ft_lk pc (ft_c y) = some (i, nn, pr)) (G : VG D κ n md h0 y h ρ τ s lv st) {L : List SU} (e : vx_2s k s pc lv st = some L)
    (hG : ∀ (x : Int64) (z : Int32) (r : List Value), ft_e D y i pr pc (vx_dL D ρ τ lv) (.int z :: .long x :: r) h [] = some ([], pc + 1, vx_dL D ρ τ lv, .long (opP k (0, x) (z, 0)).2 :: r, h, []))
    (K : ∀ u ∈ L, VK D κ n md h0 y uc us Q s ρ τ u) : sm D y pc (vx_dL D ρ τ lv) (vx_dS D ρ τ st) h uc us Q := by
  unfold vx_2s at e
  split at e
  · rename_i b a r
    cases hb : (vx_is1 a && vx_is0 b)
    · rw [hb] at e; cases e
    · rw [hb] at e
      simp only [cond_true] at e
      rw [Bool.and_eq_true] at hb
      have aa := G.2.2.2.2.1 a (List.mem_cons_of_mem _ List.mem_cons_self)
      split at e
      · cases e
      · rename_i q hq
        cases e
        obtain ⟨ρ', on, l1, l2, -, -⟩ := vx_finJ G.1 (vx_opS_ok (q := b.2.1) aa.1 h24) (s' := q.1) (l := q.2) hq
        show sm D y pc _ (vx_d D ρ τ b :: vx_d D ρ τ a :: vx_dS D ρ τ r) h uc us Q
        rw [vx_d1 (Nat.eq_of_beq_eq_true hb.1), vx_d0 (Nat.eq_of_beq_eq_true hb.2)]
        refine ft_e_ok hc hk (hG _ _ _) trivial ?_
        rw [← l2]
        exact vx_push G on ⟨l1, fun z => by cases z⟩ (fun z hz => List.mem_cons_of_mem _ (List.mem_cons_of_mem _ hz)) (K _ (List.mem_singleton.mpr rfl))
  · cases e
end VXA2
/-! branches: a number against 0 -/
def vx_rel (cn : Jvm.ClassFile.Cond) (x : Int) : Prop := match cn with
  | .eq => x = 0
  | .ne => ¬ x = 0
  | .lt => x < 0
  | .ge => 0 ≤ x
  | .gt => 0 < x
  | .le => x ≤ 0
def vx_dec (s : VS) (cn : Jvm.ClassFile.Cond) (d : LE) : Option Bool := match cn with
  | .ge => bif vx_g s d then some true else bif vx_g s (vx_k (vx_neg d) (Int.negSucc 0)) then some false else none
  | .lt => bif vx_g s d then some false else bif vx_g s (vx_k (vx_neg d) (Int.negSucc 0)) then some true else none
  | .gt => bif vx_g s (vx_k d (Int.negSucc 0)) then some true else bif vx_g s (vx_neg d) then some false else none
  | .le => bif vx_g s (vx_k d (Int.negSucc 0)) then some false else bif vx_g s (vx_neg d) then some true else none
  | .eq => bif vx_g s (vx_k d (Int.negSucc 0)) || vx_g s (vx_k (vx_neg d) (Int.negSucc 0)) then some false else bif vx_g s d && vx_g s (vx_neg d) then some true else none
  | .ne => bif vx_g s (vx_k d (Int.negSucc 0)) || vx_g s (vx_k (vx_neg d) (Int.negSucc 0)) then some true else bif vx_g s d && vx_g s (vx_neg d) then some false else none
def vx_asm (s : VS) (cn : Jvm.ClassFile.Cond) (d : LE) : Option VS := match cn with
  | .ge => vx_fact s d
  | .gt => vx_fact s (vx_k d (Int.negSucc 0))
  | .le => vx_fact s (vx_neg d)
  | .lt => vx_fact s (vx_k (vx_neg d) (Int.negSucc 0))
  | .eq => match vx_fact s d with
    | none => none
    | some s' => vx_fact s' (vx_neg d)
  | .ne => bif (match vx_low s d with
      | some x => vx_iz x
      | none => false) then vx_fact s (vx_k d (Int.negSucc 0)) else bif (match vx_low s (vx_neg d) with
      | some x => vx_iz x
      | none => false) then vx_fact s (vx_k (vx_neg d) (Int.negSucc 0)) else some s
section VXBR
variable {D : ft_G} {κ : Nat → Nat × Nat} {h : ft_H} {ρ : Nat → Int} {τ : Nat → Nat} {s : VS}
theorem vx_m1 : (Int.negSucc 0 : Int) = -1 := rfl
theorem vx_dec_ok (V : VOk D κ h ρ τ s) {cn : Jvm.ClassFile.Cond} {d : LE} (hd : vx_lt (vs_n s) d) {b : Bool} (e : vx_dec s cn d = some b) : (b = true → vx_rel cn (vx_ev ρ d)) ∧ (b = false → ¬ vx_rel cn (vx_ev ρ d)) := by
  have m1 := vx_m1
  have q1 : vx_g s d = true → 0 ≤ vx_ev ρ d := fun z => V.ge hd z
  have q2 : vx_g s (vx_neg d) = true → 0 ≤ -vx_ev ρ d := fun z => by have := V.ge (vx_neg_lt hd) z; rwa [vx_neg_ev] at this
  have q3 : vx_g s (vx_k d (Int.negSucc 0)) = true → 0 ≤ vx_ev ρ d + -1 := fun z => by have := V.ge (vx_k_lt hd) z; rwa [vx_k_ev, m1] at this
  have q4 : vx_g s (vx_k (vx_neg d) (Int.negSucc 0)) = true → 0 ≤ -vx_ev ρ d + -1 := fun z => by have := V.ge (vx_k_lt (vx_neg_lt hd)) z; rwa [vx_k_ev, vx_neg_ev, m1] at this
  unfold vx_dec at e
  cases cn <;> simp only [] at e
  · cases h1 : (vx_g s (vx_k d (Int.negSucc 0)) || vx_g s (vx_k (vx_neg d) (Int.negSucc 0)))
    · rw [h1] at e
      simp only [cond_false] at e
      cases h2 : (vx_g s d && vx_g s (vx_neg d))
      · rw [h2] at e; cases e
      · rw [h2] at e; cases e
        rw [Bool.and_eq_true] at h2
        have := q1 h2.1; have := q2 h2.2
        exact ⟨fun _ => by show _ = _; omega, fun z => by cases z⟩
    · rw [h1] at e; cases e
      rw [Bool.or_eq_true] at h1
      refine ⟨fun z => (by cases z), fun _ z => ?_⟩
      have z' : vx_ev ρ d = 0 := z
      rcases h1 with w | w
      · have := q3 w; omega
      · have := q4 w; omega
  · cases h1 : (vx_g s (vx_k d (Int.negSucc 0)) || vx_g s (vx_k (vx_neg d) (Int.negSucc 0)))
    · rw [h1] at e
      simp only [cond_false] at e
      cases h2 : (vx_g s d && vx_g s (vx_neg d))
      · rw [h2] at e; cases e
      · rw [h2] at e; cases e
        rw [Bool.and_eq_true] at h2
        have := q1 h2.1; have := q2 h2.2
        exact ⟨fun z => (by cases z), fun _ z => z (by omega)⟩
    · rw [h1] at e; cases e
      rw [Bool.or_eq_true] at h1
      refine ⟨fun _ z => ?_, fun z => by cases z⟩
      rcases h1 with w | w
      · have := q3 w; omega
      · have := q4 w; omega
  · cases h1 : vx_g s d
    · rw [h1] at e
      simp only [cond_false] at e
      cases h2 : vx_g s (vx_k (vx_neg d) (Int.negSucc 0))
      · rw [h2] at e; cases e
      · rw [h2] at e; cases e
        have := q4 h2
        exact ⟨fun _ => by show _ < _; omega, fun z => by cases z⟩
    · rw [h1] at e; cases e
      have := q1 h1
      exact ⟨fun z => (by cases z), fun _ z => by have z' : vx_ev ρ d < 0 := z; omega⟩
  · cases h1 : vx_g s d
    · rw [h1] at e
      simp only [cond_false] at e
      cases h2 : vx_g s (vx_k (vx_neg d) (Int.negSucc 0))
      · rw [h2] at e; cases e
      · rw [h2] at e; cases e
        have := q4 h2
        exact ⟨fun z => (by cases z), fun _ z => by have z' : 0 ≤ vx_ev ρ d := z; omega⟩
    · rw [h1] at e; cases e
      exact ⟨fun _ => q1 h1, fun z => by cases z⟩
  · cases h1 : vx_g s (vx_k d (Int.negSucc 0))
    · rw [h1] at e
      simp only [cond_false] at e
      cases h2 : vx_g s (vx_neg d)
      · rw [h2] at e; cases e
      · rw [h2] at e; cases e
        have := q2 h2
        exact ⟨fun z => (by cases z), fun _ z => by have z' : 0 < vx_ev ρ d := z; omega⟩
    · rw [h1] at e; cases e
      have := q3 h1
      exact ⟨fun _ => by show 0 < _; omega, fun z => by cases z⟩
  · cases h1 : vx_g s (vx_k d (Int.negSucc 0))
    · rw [h1] at e
      simp only [cond_false] at e
      cases h2 : vx_g s (vx_neg d)
      · rw [h2] at e; cases e
      · rw [h2] at e; cases e
        have := q2 h2
        exact ⟨fun _ => by show _ ≤ 0; omega, fun z => by cases z⟩
    · rw [h1] at e; cases e
      have := q3 h1
      exact ⟨fun z => (by cases z), fun _ z => by have z' : vx_ev ρ d ≤ 0 := z; omega⟩
theorem vx_asm_ok (V : VOk D κ h ρ τ s) {cn : Jvm.ClassFile.Cond} {d : LE} (hd : vx_lt (vs_n s) d) (hr : vx_rel cn (vx_ev ρ d)) : ∃ s', vx_asm s cn d = some s' ∧ VOk D κ h ρ τ s' ∧ vs_n s' = vs_n s ∧ vs_r s' = vs_r s := by
  have m1 := vx_m1
  have f : ∀ l, vx_lt (vs_n s) l → 0 ≤ vx_ev ρ l → ∃ s', vx_fact s l = some s' ∧ VOk D κ h ρ τ s' ∧ vs_n s' = vs_n s ∧ vs_r s' = vs_r s := fun l h1 h2 => by
    obtain ⟨s', a, b, c, d', -, -⟩ := V.fact h1 h2
    exact ⟨s', a, b, c, d'⟩
  unfold vx_asm
  cases cn
  · have hr' : vx_ev ρ d = 0 := hr
    obtain ⟨s1, a, b, c, d', -, -⟩ := V.fact hd (by omega)
    simp only []
    rw [a]
    obtain ⟨s2, a2, b2, c2, d2, -, -⟩ := b.fact (f := vx_neg d) (by rw [c]; exact vx_neg_lt hd) (by rw [vx_neg_ev]; omega)
    exact ⟨s2, a2, b2, by rw [c2, c], by rw [d2, d']⟩
  · have hr' : ¬ vx_ev ρ d = 0 := hr
    simp only []
    split
    · rename_i x hx
      cases hz : vx_iz x
      · simp only [cond_false]
        split
        · rename_i x2 hx2
          cases hz2 : vx_iz x2
          · exact ⟨s, rfl, V, rfl, rfl⟩
          · have q := V.low (vx_neg_lt hd) hx2
            rw [vx_iz_ok hz2, vx_neg_ev] at q
            exact f _ (vx_k_lt (vx_neg_lt hd)) (by rw [vx_k_ev, vx_neg_ev, m1]; omega)
        · exact ⟨s, rfl, V, rfl, rfl⟩
      · have q := V.low hd hx
        rw [vx_iz_ok hz] at q
        exact f _ (vx_k_lt hd) (by rw [vx_k_ev, m1]; omega)
    · simp only [cond_false]
      split
      · rename_i x2 hx2
        cases hz2 : vx_iz x2
        · exact ⟨s, rfl, V, rfl, rfl⟩
        · have q := V.low (vx_neg_lt hd) hx2
          rw [vx_iz_ok hz2, vx_neg_ev] at q
          exact f _ (vx_k_lt (vx_neg_lt hd)) (by rw [vx_k_ev, vx_neg_ev, m1]; omega)
      · exact ⟨s, rfl, V, rfl, rfl⟩
  · have hr' : vx_ev ρ d < 0 := hr
    exact f _ (vx_k_lt (vx_neg_lt hd)) (by rw [vx_k_ev, vx_neg_ev, m1]; omega)
  · exact f _ hd hr
  · have hr' : 0 < vx_ev ρ d := hr
    exact f _ (vx_k_lt hd) (by rw [vx_k_ev, m1]; omega)
  · have hr' : vx_ev ρ d ≤ 0 := hr
    exact f _ (vx_neg_lt hd) (by rw [vx_neg_ev]; omega)
theorem vx_neg_rel {cn : Jvm.ClassFile.Cond} {x : Int} (hn : ¬ vx_rel cn x) : vx_rel (negC cn) x := by
  cases cn
  · exact hn
  · exact Classical.not_not.mp hn
  · exact Int.not_lt.mp hn
  · exact Int.not_le.mp hn
  · exact Int.not_lt.mp hn
  · exact Int.not_le.mp hn
/-- an int in range against another -/
theorem vx_rel2 {cn : Jvm.ClassFile.Cond} {x z : Int} (hx : fI.1 ≤ x ∧ x ≤ fI.2) (hz : fI.1 ≤ z ∧ z ≤ fI.2) : ft_cond2 cn (Int32.ofInt x) (Int32.ofInt z) ↔ vx_rel cn (x - z) := by
  have ex : (Int32.ofInt x).toInt = x := vx_oI hx.1 hx.2
  have ez : (Int32.ofInt z).toInt = z := vx_oI hz.1 hz.2
  cases cn
  · show _ = _ ↔ _ = _; rw [← Int32.toInt_inj, ex, ez]; omega
  · show ¬ _ = _ ↔ ¬ _ = _; rw [← Int32.toInt_inj, ex, ez]; omega
  · show _ < _ ↔ _ < _; rw [Int32.lt_iff_toInt_lt, ex, ez]; omega
  · show _ ≤ _ ↔ _ ≤ _; rw [Int32.le_iff_toInt_le, ex, ez]; omega
  · show _ < _ ↔ _ < _; rw [Int32.lt_iff_toInt_lt, ex, ez]; omega
  · show _ ≤ _ ↔ _ ≤ _; rw [Int32.le_iff_toInt_le, ex, ez]; omega
theorem vx_rel7 {cn : Jvm.ClassFile.Cond} {x : Int} : ft_cond1 cn (Int32.ofInt (Int.sign x)) ↔ vx_rel cn x := by
  have hs : fI.1 ≤ Int.sign x ∧ Int.sign x ≤ fI.2 := by
    have e1 : fI.1 = -2147483648 := rfl
    have e2 : fI.2 = 2147483647 := rfl
    rcases Int.lt_trichotomy x 0 with z | z | z
    · rw [Int.sign_eq_neg_one_of_neg z]; omega
    · rw [z]; simp
    · rw [Int.sign_eq_one_of_pos z]; omega
  rw [cond12]
  have e0 : nI 0 = Int32.ofInt 0 := rfl
  rw [e0, vx_rel2 hs ⟨by decide, by decide⟩]
  rcases Int.lt_trichotomy x 0 with z | z | z
  · rw [Int.sign_eq_neg_one_of_neg z]
    cases cn <;> simp only [vx_rel] <;> omega
  · rw [z]
    cases cn <;> simp [vx_rel]
  · rw [Int.sign_eq_one_of_pos z]
    cases cn <;> simp only [vx_rel] <;> omega
end VXBR
