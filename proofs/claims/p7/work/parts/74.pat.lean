/-! patterns: what a call asks, what it leaves -/
abbrev SG : Type := List (Nat × LE)
abbrev ST2 : Type := List (Nat × Nat)
def vx_sg (g : SG) (i : Nat) : LE := match ft_lk i g with
  | some l => l
  | none => vx_c (Int.ofNat 0)
def vx_th (t : ST2) (r : Nat) : Nat := match ft_lk r t with
  | some q => q
  | none => 0
def vx_asub (g : SG) (t : ST2) (v : AV) : AV := (v.1, (bif vx_is2 v then vx_c (Int.ofNat 0) else vx_put (vx_sg g) v.2.1), (bif vx_is2 v then vx_th t v.2.2 else v.2.2))
/-- two values that are the same -/
def vx_aeq (s : VS) (v w : AV) : Bool := Nat.beq v.1 w.1 && (bif vx_is2 v then Nat.beq v.2.2 w.2.2 else bif vx_is0 v || vx_is1 v then (vx_eq v.2.1 w.2.1 || (vx_g s (vx_sub v.2.1 w.2.1) && vx_g s (vx_sub w.2.1 v.2.1))) else Nat.beq v.1 3 || Nat.beq v.1 5)
def vx_sgok (n : Nat) (g : SG) : Bool := g.all (fun q => q.2.2.all (fun t => Nat.blt t.1 n))
section VXQ
variable {D : ft_G} {κ : Nat → Nat × Nat} {h : ft_H} {ρ : Nat → Int} {τ : Nat → Nat} {s : VS}
theorem vx_sg_lt {n : Nat} {g : SG} (hg : vx_sgok n g = true) (i : Nat) : vx_lt n (vx_sg g i) := by
  unfold vx_sg
  split
  · rename_i l hl
    have := List.all_eq_true.mp hg _ (ft_lk_mem hl)
    intro t ht
    exact blt_lt (List.all_eq_true.mp this t ht)
  · exact vx_c_lt
/-- the numbers and cells that a pattern's names stand for -/
abbrev vx_rg (ρ : Nat → Int) (g : SG) : Nat → Int := fun i => vx_ev ρ (vx_sg g i)
abbrev vx_tt (τ : Nat → Nat) (t : ST2) : Nat → Nat := fun r => τ (vx_th t r)
theorem vx_asub_d (g : SG) (t : ST2) (v : AV) : vx_d D ρ τ (vx_asub g t v) = vx_d D (vx_rg ρ g) (vx_tt τ t) v := by
  cases h2 : vx_is2 v
  · have e : vx_asub g t v = (v.1, vx_put (vx_sg g) v.2.1, v.2.2) := by unfold vx_asub; rw [h2]; rfl
    rw [e]
    unfold vx_d
    simp only []
    rw [vx_put_ev]
    split <;> try rfl
    rename_i q
    have h2' : Nat.beq v.1 2 = false := h2
    rw [q] at h2'
    cases h2'
  · have h2' := Nat.eq_of_beq_eq_true h2
    have e : vx_asub g t v = (v.1, vx_c (Int.ofNat 0), vx_th t v.2.2) := by unfold vx_asub; rw [h2]; rfl
    rw [e, vx_d2 h2']
    exact vx_d2 (v := (v.1, vx_c (Int.ofNat 0), vx_th t v.2.2)) h2'
theorem vx_aeq_ok (V : VOk D κ h ρ τ s) {v w : AV} (hv : vx_lt (vs_n s) v.2.1) (hw : vx_lt (vs_n s) w.2.1) (e : vx_aeq s v w = true) : vx_d D ρ τ v = vx_d D ρ τ w := by
  unfold vx_aeq at e
  rw [Bool.and_eq_true] at e
  have e1 := Nat.eq_of_beq_eq_true e.1
  have e2 := e.2
  cases h2 : vx_is2 v
  · rw [h2] at e2
    simp only [cond_false] at e2
    cases h01 : (vx_is0 v || vx_is1 v)
    · rw [h01] at e2
      have e4 : (Nat.beq v.1 3 || Nat.beq v.1 5) = true := e2
      rw [Bool.or_eq_true] at e4
      rcases e4 with q | q
      · have v3 : v.1 = 3 := Nat.eq_of_beq_eq_true q
        rw [vx_d3 v3, vx_d3 (by rw [← e1]; exact v3)]
      · have v5 : v.1 = 5 := Nat.eq_of_beq_eq_true q
        rw [vx_d5 v5, vx_d5 (by rw [← e1]; exact v5)]
    · rw [h01] at e2
      have hev : vx_ev ρ v.2.1 = vx_ev ρ w.2.1 := by
        have e3 : (vx_eq v.2.1 w.2.1 || (vx_g s (vx_sub v.2.1 w.2.1) && vx_g s (vx_sub w.2.1 v.2.1))) = true := e2
        rw [Bool.or_eq_true] at e3
        rcases e3 with q | q
        · rw [vx_eq_ok q]
        · rw [Bool.and_eq_true] at q
          have q1 := V.ge (vx_sub_lt hv hw) q.1
          have q2 := V.ge (vx_sub_lt hw hv) q.2
          rw [vx_sub_ev] at q1 q2
          omega
      rw [Bool.or_eq_true] at h01
      rcases h01 with q | q
      · have v0 : v.1 = 0 := Nat.eq_of_beq_eq_true q
        rw [vx_d0 v0, vx_d0 (v := w) (by rw [← e1]; exact v0), hev]
      · have v1 : v.1 = 1 := Nat.eq_of_beq_eq_true q
        rw [vx_d1 v1, vx_d1 (v := w) (by rw [← e1]; exact v1), hev]
  · rw [h2] at e2
    have v2 : v.1 = 2 := Nat.eq_of_beq_eq_true h2
    have e3 : v.2.2 = w.2.2 := Nat.eq_of_beq_eq_true e2
    rw [vx_d2 v2, vx_d2 (v := w) (by rw [← e1]; exact v2), e3]
end VXQ
/-! a pattern holds of a state -/
def vx_ltB (n : Nat) (l : LE) : Bool := l.2.all (fun t => Nat.blt t.1 n)
def vx_altB (n m : Nat) (v : AV) : Bool := vx_ltB n v.2.1 && (!vx_is2 v || Nat.blt v.2.2 m)
/-- a pattern names nothing beyond itself -/
def vx_wfB (p : VS) : Bool := Nat.blt (vs_n p + 1) 4096 && (Nat.blt (vs_r p + 1) 4096 && ((vs_F p).all (vx_ltB (vs_n p)) && ((vs_M p).all (fun e => vx_ltB (vs_n p) e.2.1 && (vx_altB (vs_n p) (vs_r p) e.2.2 && (Nat.blt 0 e.1 && Nat.blt e.1 (vs_r p)))) && (tL (vs_K p)).all (fun q => Nat.blt q.1 (vs_r p)))))
def vx_keq (a b : Nat × Nat) : Bool := Nat.beq a.1 b.1 && Nat.beq a.2 b.2
def vx_bok (s : VS) (B : TR (Int × Int)) (g : SG) : Nat → Bool
  | 0 => true
  | i + 1 => (match tG B i with
    | none => true
    | some b => vx_in s (vx_sg g i) b.1 b.2) && vx_bok s B g i
def vx_holds (s : VS) (p : VS) (g : SG) (t : ST2) : Bool := vx_wfB p && (vx_sgok (vs_n s) g && (vx_bok s (vs_B p) g (vs_n p) && ((vs_F p).all (fun f => vx_g s (vx_put (vx_sg g) f)) && ((tL (vs_K p)).all (fun q => match tG (vs_K s) (vx_th t q.1) with
    | none => false
    | some k => vx_keq k q.2) && (vs_M p).all (fun e => Nat.blt 0 (vx_th t e.1) && (match vx_find (vx_th t e.1) (vx_put (vx_sg g) e.2.1) (vs_M s) with
    | none => false
    | some v => vx_aeq s (vx_asub g t e.2.2) v))))))
section VXQ2
variable {D : ft_G} {κ : Nat → Nat × Nat} {h : ft_H} {ρ : Nat → Int} {τ : Nat → Nat} {s : VS}
theorem vx_ltB_ok {n : Nat} {l : LE} (e : vx_ltB n l = true) : vx_lt n l := fun t ht => blt_lt (List.all_eq_true.mp e t ht)
theorem vx_altB_ok {n m : Nat} {v : AV} (e : vx_altB n m v = true) : vx_alt n m v := by
  unfold vx_altB at e
  rw [Bool.and_eq_true] at e
  refine ⟨vx_ltB_ok e.1, fun z => ?_⟩
  have q := e.2
  have : vx_is2 v = true := by show Nat.beq v.1 2 = true; rw [z]; rfl
  rw [this] at q
  exact blt_lt (by simpa using q)
theorem vx_bok_ok (V : VOk D κ h ρ τ s) {B : TR (Int × Int)} {g : SG} (hg : vx_sgok (vs_n s) g = true) : ∀ {m : Nat}, vx_bok s B g m = true → ∀ i b, i < m → tG B i = some b → b.1 ≤ vx_rg ρ g i ∧ vx_rg ρ g i ≤ b.2
  | 0, _, i, b, hi, _ => by omega
  | m + 1, e, i, b, hi, hb => by
    unfold vx_bok at e
    rw [Bool.and_eq_true] at e
    by_cases q : i = m
    · subst q
      have e1 := e.1
      rw [hb] at e1
      exact V.inn (vx_sg_lt hg i) e1
    · exact vx_bok_ok V hg e.2 i b (by omega) hb
theorem vx_asub_lt {g : SG} {t : ST2} {v : AV} (hg : vx_sgok (vs_n s) g = true) : vx_lt (vs_n s) (vx_asub g t v).2.1 := by
  unfold vx_asub
  cases h2 : vx_is2 v
  · exact vx_put_lt (fun q _ => vx_sg_lt hg q.1)
  · exact vx_c_lt
theorem vx_holds_ok (V : VOk D κ h ρ τ s) {p : VS} {g : SG} {t : ST2} (e : vx_holds s p g t = true) : VOk D κ h (vx_rg ρ g) (vx_tt τ t) p := by
  unfold vx_holds at e
  rw [Bool.and_eq_true, Bool.and_eq_true, Bool.and_eq_true, Bool.and_eq_true, Bool.and_eq_true] at e
  obtain ⟨e1, e2, e3, e4, e5, e6⟩ := e
  unfold vx_wfB at e1
  rw [Bool.and_eq_true, Bool.and_eq_true, Bool.and_eq_true, Bool.and_eq_true] at e1
  obtain ⟨w1, w2, w3, w4, w5⟩ := e1
  refine ⟨fun i b hi hb => vx_bok_ok V e2 e3 i b hi hb, fun f hf => ?_, fun r k hk => ?_, fun z hz => ?_, blt_lt w1, blt_lt w2⟩
  · have f1 := vx_ltB_ok (List.all_eq_true.mp w3 f hf)
    have f2 := V.ge (vx_put_lt (fun q _ => vx_sg_lt e2 q.1)) (List.all_eq_true.mp e4 f hf)
    rw [vx_put_ev] at f2
    exact ⟨f1, f2⟩
  · have hm := tL_ok hk
    have k1 := blt_lt (List.all_eq_true.mp w5 _ hm)
    have k2 := List.all_eq_true.mp e5 _ hm
    refine ⟨k1, ?_⟩
    split at k2
    · cases k2
    · rename_i k' hk'
      have := (V.2.2.1 _ k' hk').2
      show κ (τ (vx_th t r)) = k
      unfold vx_keq at k2
      rw [Bool.and_eq_true] at k2
      rw [this]
      exact Prod.ext (Nat.eq_of_beq_eq_true k2.1) (Nat.eq_of_beq_eq_true k2.2)
  · have z1 := List.all_eq_true.mp w4 z hz
    rw [Bool.and_eq_true, Bool.and_eq_true, Bool.and_eq_true] at z1
    have z2 := List.all_eq_true.mp e6 z hz
    rw [Bool.and_eq_true] at z2
    have r0 := blt_lt z1.2.2.1
    refine ⟨vx_ltB_ok z1.1, vx_altB_ok z1.2.1, blt_lt z1.2.2.2, ?_⟩
    have z3 := z2.2
    split at z3
    · cases z3
    · rename_i v hv
      obtain ⟨m1, m2, m3, m4⟩ := V.2.2.2.1 _ (vx_find_ok hv)
      have q0 : ¬ vx_th t z.1 = 0 := by have := blt_lt z2.1; omega
      have q1 : ¬ z.1 = 0 := by omega
      have m5 := m4.2
      have m6 := m4.1
      simp only [if_neg q0] at m5
      rw [vx_put_ev] at m5
      have m6' : 0 ≤ vx_ev ρ (vx_put (vx_sg g) z.2.1) := m6
      rw [vx_put_ev] at m6'
      refine ⟨m6', ?_⟩
      rw [if_neg q1]
      have q2 := vx_aeq_ok V (vx_asub_lt e2) m2.1 z3
      rw [vx_asub_d] at q2
      rw [q2]
      exact m5
end VXQ2
