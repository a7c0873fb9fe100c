/-! values: 0 an int, 1 a long, 2 a cell, 3 null, 4 a static row, 5 the script, 7 the sign of a number -/
def vx_d (D : ft_G) (ρ : Nat → Int) (τ : Nat → Nat) (v : AV) : Value := match v.1 with
  | 0 => .int (Int32.ofInt (vx_ev ρ v.2.1))
  | 1 => .long (Int64.ofInt (vx_ev ρ v.2.1))
  | 2 => .ref (τ v.2.2)
  | 4 => .ref (D.2.2.2.2.1 v.2.2)
  | 5 => .ref D.2.2.2.2.2.1
  | 7 => .int (Int32.ofInt (Int.sign (vx_ev ρ v.2.1)))
  | _ => .null
abbrev av_i (l : LE) : AV := (0, l, 0)
abbrev av_l (l : LE) : AV := (1, l, 0)
abbrev av_r (r : Nat) : AV := (2, vx_c (Int.ofNat 0), r)
abbrev av_z : AV := (3, vx_c (Int.ofNat 0), 0)
def vx_alt (n m : Nat) (v : AV) : Prop := vx_lt n v.2.1 ∧ (v.1 = 2 → v.2.2 < m)
def vx_cat (v : AV) : Nat := bif Nat.beq v.1 1 then 2 else 1
theorem vx_alt.mono {n m n' m' : Nat} {v : AV} (h : vx_alt n m v) (hn : n ≤ n') (hm : m ≤ m') : vx_alt n' m' v := ⟨h.1.mono hn, fun e => Nat.lt_of_lt_of_le (h.2 e) hm⟩
theorem vx_d_agr {D : ft_G} {ρ ρ' : Nat → Int} {τ τ' : Nat → Nat} {n m : Nat} {v : AV} (h : vx_alt n m v) (a : vx_agr n ρ ρ') (b : vx_agr m τ τ') : vx_d D ρ' τ' v = vx_d D ρ τ v := by
  unfold vx_d
  rw [vx_ev_agr a h.1]
  split <;> try rfl
  rename_i e
  rw [b _ (h.2 e)]
theorem vx_d_cat {D : ft_G} {ρ : Nat → Int} {τ : Nat → Nat} (v : AV) : (vx_d D ρ τ v).category = vx_cat v := by
  unfold vx_d vx_cat
  split
  · rename_i e; rw [e]; rfl
  · rename_i e; rw [e]; rfl
  · rename_i e; rw [e]; rfl
  · rename_i e; rw [e]; rfl
  · rename_i e; rw [e]; rfl
  · rename_i e; rw [e]; rfl
  · rename_i h1 _ _ _ _
    cases hb : Nat.beq v.1 1
    · rfl
    · exact absurd (Nat.eq_of_beq_eq_true hb) h1
abbrev FM : Type := Nat × Int × Int
def vx_fok (κ : Nat → Nat × Nat) (m : Nat) (f : FM) (v : Value) : Prop := match f.1 with
  | 0 => ∃ x : Int, f.2.1 ≤ x ∧ x ≤ f.2.2 ∧ v = .int (Int32.ofInt x)
  | 1 => ∃ x : Int, f.2.1 ≤ x ∧ x ≤ f.2.2 ∧ v = .long (Int64.ofInt x)
  | 2 => ∃ q : Nat, v = .ref q ∧ κ q = (f.2.1.toNat, f.2.2.toNat)
  | 3 => ∃ q : Nat, v = .ref q ∧ κ q = (f.2.1.toNat, f.2.2.toNat * m)
  | 4 => v = .int (Int32.ofInt (m : Int))
  | _ => True
/-! the options of a packet that came, from a place on: whole -/
def vx_b (g : Nat → Value) (j : Nat) : Int := match g j with
  | .int x => x.toInt
  | _ => 0
def vx_stop (g : Nat → Value) : Int := (if vx_b g 0 = 0 ∨ vx_b g 0 = 2 then 10 else if vx_b g 0 = 7 then 17 else 16) + vx_b g 1
def vx_wf (g : Nat → Value) : Nat → Nat → Prop
  | 0, k => vx_stop g ≤ (k : Int)
  | f + 1, k => vx_stop g ≤ (k : Int) ∨ ((k : Int) < vx_stop g ∧ vx_b g k < 2 ∧ vx_wf g f (k + 1)) ∨ ((k : Int) < vx_stop g ∧ 2 ≤ vx_b g k ∧ 2 ≤ vx_b g (k + 1) ∧ (k : Int) + vx_b g (k + 1) ≤ vx_stop g ∧ vx_wf g f (k + (vx_b g (k + 1)).toNat))
def vx_whole (g : Nat → Value) (k : Nat) : Prop := ∃ f, vx_wf g f k
/-- what a place holds; behind a million: whether the options are whole -/
noncomputable def vx_look (h : ft_H) (a : Nat) (k : Int) : Value := if k < 1000000 then h.1 a k.toNat else .int (Int32.ofInt (@ite Int (vx_whole (h.1 a) (k - 1000000).toNat) (Classical.propDecidable _) 1 0))
/-- a place that is known: of the script (cell 0), or of a cell -/
def vx_mok (D : ft_G) (h : ft_H) (ρ : Nat → Int) (τ : Nat → Nat) (e : ME) : Prop := 0 ≤ vx_ev ρ e.2.1 ∧ (if e.1 = 0 then Value.int (D.2.2.2.2.2.2.2 (vx_ev ρ e.2.1).toNat) = vx_d D ρ τ e.2.2 else vx_look h (τ e.1) (vx_ev ρ e.2.1) = vx_d D ρ τ e.2.2)
def VOk (D : ft_G) (κ : Nat → Nat × Nat) (h : ft_H) (ρ : Nat → Int) (τ : Nat → Nat) (s : VS) : Prop := BOk (vs_n s) ρ (vs_B s) ∧ FOk (vs_n s) ρ (vs_F s) ∧ (∀ r k, tG (vs_K s) r = some k → r < vs_r s ∧ κ (τ r) = k) ∧ (∀ e ∈ vs_M s, vx_lt (vs_n s) e.2.1 ∧ vx_alt (vs_n s) (vs_r s) e.2.2 ∧ e.1 < vs_r s ∧ vx_mok D h ρ τ e) ∧ vs_n s + 1 < 4096 ∧ vs_r s + 1 < 4096
section VXV
variable {D : ft_G} {κ : Nat → Nat × Nat} {h : ft_H} {ρ : Nat → Int} {τ : Nat → Nat} {s : VS}
theorem vx_mok_agr {ρ' : Nat → Int} {τ' : Nat → Nat} {n m : Nat} {e : ME} (h1 : vx_lt n e.2.1) (h2 : vx_alt n m e.2.2) (h3 : e.1 < m) (a : vx_agr n ρ ρ') (b : vx_agr m τ τ') (q : vx_mok D h ρ τ e) : vx_mok D h ρ' τ' e := by
  unfold vx_mok at q ⊢
  rw [vx_ev_agr a h1, vx_d_agr h2 a b, b _ h3]
  exact q
theorem VOk.agr (V : VOk D κ h ρ τ s) {ρ' : Nat → Int} {τ' : Nat → Nat} (a : vx_agr (vs_n s) ρ ρ') (b : vx_agr (vs_r s) τ τ') : VOk D κ h ρ' τ' s := by
  refine ⟨fun i q hi hq => ?_, fun f hf => ?_, fun r k hk => ?_, fun e he => ?_, V.2.2.2.2⟩
  · rw [a i hi]; exact V.1 i q hi hq
  · obtain ⟨h1, h2⟩ := V.2.1 f hf
    exact ⟨h1, by rw [vx_ev_agr a h1]; exact h2⟩
  · obtain ⟨h1, h2⟩ := V.2.2.1 r k hk
    exact ⟨h1, by rw [b r h1]; exact h2⟩
  · obtain ⟨h1, h2, h3, h4⟩ := V.2.2.2.1 e he
    exact ⟨h1, h2, h3, vx_mok_agr h1 h2 h3 a b h4⟩
theorem VOk.ge (V : VOk D κ h ρ τ s) {l : LE} (hl : vx_lt (vs_n s) l) (hg : vx_g s l = true) : 0 ≤ vx_ev ρ l := vx_ge_ok V.1 V.2.1 3 l hl hg
theorem VOk.fact (V : VOk D κ h ρ τ s) {f : LE} (hf : vx_lt (vs_n s) f) (h0 : 0 ≤ vx_ev ρ f) : ∃ s', vx_fact s f = some s' ∧ VOk D κ h ρ τ s' ∧ vs_n s' = vs_n s ∧ vs_r s' = vs_r s ∧ vs_K s' = vs_K s ∧ vs_M s' = vs_M s := by
  unfold vx_fact
  cases hg : vx_g s (vx_k (vx_neg f) (Int.negSucc 0))
  · simp only [cond_false]
    cases vx_lo0 (vs_B s) f
    · simp only [cond_false]
      obtain ⟨B', e1, h1⟩ := vx_prop_ok (ρ := ρ) V.2.2.2.2.1 hf h0 hf V.1
      rw [e1]
      refine ⟨_, rfl, ⟨h1, fun g hg => ?_, V.2.2⟩, rfl, rfl, rfl, rfl⟩
      cases hm : vx_multi f.2
      · have hg' : g ∈ (bif vx_multi f.2 then f :: vs_F s else vs_F s) := hg
        rw [hm] at hg'
        exact V.2.1 g hg'
      · have hg' : g ∈ (bif vx_multi f.2 then f :: vs_F s else vs_F s) := hg
        rw [hm] at hg'
        rcases List.mem_cons.mp hg' with e | e
        · rw [e]; exact ⟨hf, h0⟩
        · exact V.2.1 g e
    · exact ⟨s, rfl, V, rfl, rfl, rfl, rfl⟩
  · have q := V.ge (vx_k_lt (vx_neg_lt hf)) hg
    rw [vx_k_ev, vx_neg_ev] at q
    have : (Int.negSucc 0 : Int) = -1 := rfl
    omega
def vx_upd (ρ : Nat → Int) (n : Nat) (x : Int) : Nat → Int := fun i => if i = n then x else ρ i
def vx_updr (τ : Nat → Nat) (n x : Nat) : Nat → Nat := fun i => if i = n then x else τ i
theorem vx_upd_agr {n : Nat} {x : Int} : vx_agr n ρ (vx_upd ρ n x) := fun i hi => by
  show (if i = n then x else ρ i) = ρ i
  rw [if_neg (by omega)]
theorem vx_updr_agr {n x : Nat} : vx_agr n τ (vx_updr τ n x) := fun i hi => by
  show (if i = n then x else τ i) = τ i
  rw [if_neg (by omega)]
def vx_new (s : VS) (lo hi : Int) : Option (VS × LE) := bif Nat.blt (vs_n s + 2) 4096 then some ((vs_n s + 1, vs_r s, tS 12 (vs_B s) (vs_n s) (lo, hi), vs_F s, vs_K s, vs_M s), vx_v (vs_n s)) else none
def vx_newr (s : VS) (c m : Nat) : Option (VS × Nat) := bif Nat.blt (vs_r s + 2) 4096 then some ((vs_n s, vs_r s + 1, vs_B s, vs_F s, tS 12 (vs_K s) (vs_r s) (c, m), vs_M s), vs_r s) else none
/-- a state that goes on from another: more is named, what was named is the same -/
def vx_on (D : ft_G) (κ : Nat → Nat × Nat) (h : ft_H) (ρ : Nat → Int) (τ : Nat → Nat) (s s' : VS) (ρ' : Nat → Int) (τ' : Nat → Nat) : Prop := vx_agr (vs_n s) ρ ρ' ∧ vx_agr (vs_r s) τ τ' ∧ VOk D κ h ρ' τ' s' ∧ vs_n s ≤ vs_n s' ∧ vs_r s ≤ vs_r s'
theorem VOk.on (V : VOk D κ h ρ τ s) : vx_on D κ h ρ τ s s ρ τ := ⟨vx_agr.refl, vx_agr.refl, V, Nat.le_refl _, Nat.le_refl _⟩
theorem vx_on.trans {s1 s2 : VS} {ρ1 ρ2 : Nat → Int} {τ1 τ2 : Nat → Nat} (a : vx_on D κ h ρ τ s s1 ρ1 τ1) (b : vx_on D κ h ρ1 τ1 s1 s2 ρ2 τ2) : vx_on D κ h ρ τ s s2 ρ2 τ2 :=
  ⟨a.1.trans b.1 a.2.2.2.1, a.2.1.trans b.2.1 a.2.2.2.2, b.2.2.1, Nat.le_trans a.2.2.2.1 b.2.2.2.1, Nat.le_trans a.2.2.2.2 b.2.2.2.2⟩
theorem VOk.new (V : VOk D κ h ρ τ s) {lo hi x : Int} (h1 : lo ≤ x) (h2 : x ≤ hi) {s' : VS} {l : LE} (e : vx_new s lo hi = some (s', l)) : vx_on D κ h ρ τ s s' (vx_upd ρ (vs_n s) x) τ ∧ vx_lt (vs_n s') l ∧ vx_ev (vx_upd ρ (vs_n s) x) l = x ∧ vs_M s' = vs_M s ∧ vs_K s' = vs_K s := by
  unfold vx_new at e
  cases hb : Nat.blt (vs_n s + 2) 4096
  · rw [hb] at e; cases e
  · rw [hb] at e
    cases e
    have hb' := blt_lt hb
    have V' := V.agr (vx_upd_agr (n := vs_n s) (x := x)) (vx_agr.refl (f := τ))
    refine ⟨⟨vx_upd_agr, vx_agr.refl, ⟨fun i q hj hq => ?_, fun f hf => ⟨(V'.2.1 f hf).1.mono (Nat.le_succ _), (V'.2.1 f hf).2⟩, V'.2.2.1, fun z hz => ?_, ?_, V.2.2.2.2.2⟩, Nat.le_succ _, Nat.le_refl _⟩, vx_v_lt (Nat.lt_succ_self _), ?_, rfl, rfl⟩
    · have hq' : tG (tS 12 (vs_B s) (vs_n s) (lo, hi)) i = some q := hq
      rw [tG_set 12 _ _ _ _ (by simpa using (by omega : vs_n s + 1 < 4096))] at hq'
      split at hq'
      · rename_i e2
        cases hq'
        show lo ≤ (if i = vs_n s then x else ρ i) ∧ (if i = vs_n s then x else ρ i) ≤ hi
        rw [if_pos e2]; exact ⟨h1, h2⟩
      · rename_i e2
        have hj' : i < vs_n s + 1 := hj
        exact V'.1 i q (by omega) hq'
    · obtain ⟨z1, z2, z3, z4⟩ := V'.2.2.2.1 z hz
      exact ⟨z1.mono (Nat.le_succ _), z2.mono (Nat.le_succ _) (Nat.le_refl _), z3, z4⟩
    · show vs_n s + 1 + 1 < 4096; omega
    · rw [vx_v_ev]; show (if vs_n s = vs_n s then x else _) = x; rw [if_pos rfl]
theorem VOk.newr (V : VOk D κ h ρ τ s) {c m a : Nat} (hk : κ a = (c, m)) {s' : VS} {r : Nat} (e : vx_newr s c m = some (s', r)) : vx_on D κ h ρ τ s s' ρ (vx_updr τ (vs_r s) a) ∧ r < vs_r s' ∧ vx_updr τ (vs_r s) a r = a ∧ vs_M s' = vs_M s ∧ tG (vs_K s') r = some (c, m) := by
  unfold vx_newr at e
  cases hb : Nat.blt (vs_r s + 2) 4096
  · rw [hb] at e; cases e
  · rw [hb] at e
    cases e
    have hb' := blt_lt hb
    have V' := V.agr (vx_agr.refl (f := ρ)) (vx_updr_agr (n := vs_r s) (x := a))
    refine ⟨⟨vx_agr.refl, vx_updr_agr, ⟨V'.1, V'.2.1, fun r k hq => ?_, fun z hz => ?_, V.2.2.2.2.1, ?_⟩, Nat.le_refl _, Nat.le_succ _⟩, Nat.lt_succ_self _, ?_, rfl, ?_⟩
    · have hq' : tG (tS 12 (vs_K s) (vs_r s) (c, m)) r = some k := hq
      rw [tG_set 12 _ _ _ _ (by simpa using (by omega : vs_r s + 1 < 4096))] at hq'
      split at hq'
      · rename_i e2
        cases hq'
        refine ⟨by rw [e2]; exact Nat.lt_succ_self _, ?_⟩
        show κ (if r = vs_r s then a else τ r) = (c, m)
        rw [if_pos e2]; exact hk
      · obtain ⟨q1, q2⟩ := V'.2.2.1 r k hq'
        exact ⟨Nat.lt_succ_of_lt q1, q2⟩
    · obtain ⟨z1, z2, z3, z4⟩ := V'.2.2.2.1 z hz
      exact ⟨z1, z2.mono (Nat.le_refl _) (Nat.le_succ _), Nat.lt_succ_of_lt z3, z4⟩
    · show vs_r s + 1 + 1 < 4096; omega
    · show (if vs_r s = vs_r s then a else _) = a; rw [if_pos rfl]
    · show tG (tS 12 (vs_K s) (vs_r s) (c, m)) (vs_r s) = _
      rw [tG_set 12 _ _ _ _ (by simpa using (by omega : vs_r s + 1 < 4096)), if_pos rfl]
end VXV
