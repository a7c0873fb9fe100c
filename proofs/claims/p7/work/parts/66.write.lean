/-! places are written; what was known of others -/
def vx_apart (B : TR (Int × Int)) (i j : LE) : Bool := vx_lo0 B (vx_k (vx_sub i j) (Int.negSucc 0)) || vx_lo0 B (vx_k (vx_sub j i) (Int.negSucc 0))
def vx_real (B : TR (Int × Int)) (i : LE) : Bool := vx_lo0 B (vx_sub (vx_c (Int.ofNat 999999)) i)
def vx_keep (s : VS) (c : Nat) (i : LE) (e : ME) : Bool := match tG (vs_K s) e.1 with
  | none => Nat.beq e.1 0
  | some k => Nat.beq e.1 0 || (!Nat.beq k.1 c || (vx_real (vs_B s) e.2.1 && vx_apart (vs_B s) e.2.1 i))
def vx_fits (s : VS) (f : FM) (v : AV) : Bool := match f.1 with
  | 0 => Nat.beq v.1 0 && vx_in s v.2.1 f.2.1 f.2.2
  | 1 => Nat.beq v.1 1 && vx_in s v.2.1 f.2.1 f.2.2
  | 2 => Nat.beq v.1 2 && (match tG (vs_K s) v.2.2 with
    | some k => Nat.beq k.1 f.2.1.toNat && Nat.beq k.2 f.2.2.toNat
    | none => false)
  | _ => false
def vx_may (s : VS) (c : Nat) (i : LE) : MD → Bool
  | [] => false
  | q :: r => (Nat.beq q.1 c && (vx_g s (vx_k i (-q.2.1)) && vx_g s (vx_sub (vx_c q.2.2) i))) || vx_may s c i r
def vx_cut (s : VS) (g : ME → Bool) : VS := (s.1, s.2.1, vs_B s, vs_F s, vs_K s, (vs_M s).filter g)
/-- r's place i holds v then -/
def vx_write (md : MD) (s : VS) (r : Nat) (i : LE) (v : AV) : Option VS := match tG (vs_K s) r with
  | none => none
  | some k => match vx_fa k.1 i with
    | none => none
    | some f => bif Nat.blt 0 r && (Nat.blt 0 k.1 && (vx_g s i && (vx_g s (vx_sub (vx_c (Int.ofNat 999999)) i) && (vx_fits s f v && vx_may s k.1 i md)))) then some (vx_mem (vx_cut s (vx_keep s k.1 i)) (r, i, v)) else none
def vx_keepm (s : VS) (e : ME) : MD → Bool
  | [] => true
  | q :: r => (match tG (vs_K s) e.1 with
    | none => Nat.beq e.1 0
    | some k => Nat.beq e.1 0 || (!Nat.beq k.1 q.1 || (vx_real (vs_B s) e.2.1 && (vx_lo0 (vs_B s) (vx_sub (vx_c (q.2.1 + Int.negSucc 0)) e.2.1) || vx_lo0 (vs_B s) (vx_k e.2.1 (-q.2.2 + Int.negSucc 0)))))) && vx_keepm s e r
theorem vx_d0 {D : ft_G} {ρ : Nat → Int} {τ : Nat → Nat} {v : AV} (h : v.1 = 0) : vx_d D ρ τ v = .int (Int32.ofInt (vx_ev ρ v.2.1)) := by
  unfold vx_d
  split <;> first | rfl | (rename_i e; rw [h] at e; cases e) | (rename_i e _ _ _ _ _; exact absurd h e)
theorem vx_d1 {D : ft_G} {ρ : Nat → Int} {τ : Nat → Nat} {v : AV} (h : v.1 = 1) : vx_d D ρ τ v = .long (Int64.ofInt (vx_ev ρ v.2.1)) := by
  unfold vx_d
  split <;> first | rfl | (rename_i e; rw [h] at e; cases e) | (rename_i _ e _ _ _ _; exact absurd h e)
theorem vx_d2 {D : ft_G} {ρ : Nat → Int} {τ : Nat → Nat} {v : AV} (h : v.1 = 2) : vx_d D ρ τ v = .ref (τ v.2.2) := by
  unfold vx_d
  split <;> first | rfl | (rename_i e; rw [h] at e; cases e) | (rename_i _ _ e _ _ _; exact absurd h e)
section VXW
variable {D : ft_G} {κ : Nat → Nat × Nat} {n : Nat} {h h0 : ft_H} {ρ : Nat → Int} {τ : Nat → Nat} {s : VS}
theorem vx_apart_ok {m : Nat} {B : TR (Int × Int)} (hB : BOk m ρ B) {i j : LE} (hi : vx_lt m i) (hj : vx_lt m j) (e : vx_apart B i j = true) : vx_ev ρ i ≠ vx_ev ρ j := by
  unfold vx_apart at e
  rw [Bool.or_eq_true] at e
  have e1 : (Int.negSucc 0 : Int) = -1 := rfl
  rcases e with e | e
  · have q := vx_lo0_ok hB (vx_k_lt (vx_sub_lt hi hj)) e
    rw [vx_k_ev, vx_sub_ev] at q
    omega
  · have q := vx_lo0_ok hB (vx_k_lt (vx_sub_lt hj hi)) e
    rw [vx_k_ev, vx_sub_ev] at q
    omega
theorem vx_real_ok {m : Nat} {B : TR (Int × Int)} (hB : BOk m ρ B) {i : LE} (hi : vx_lt m i) (e : vx_real B i = true) : vx_ev ρ i < 1000000 := by
  have q := vx_lo0_ok hB (vx_sub_lt vx_c_lt hi) e
  rw [vx_sub_ev, vx_c_ev] at q
  have e1 : (Int.ofNat 999999 : Int) = 999999 := rfl
  omega
theorem vx_look_cell {h' : ft_H} {a : Nat} (he : ∀ j, h'.1 a j = h.1 a j) (k : Int) : vx_look h' a k = vx_look h a k := by
  have e : h'.1 a = h.1 a := funext he
  unfold vx_look
  rw [e]
theorem VOk.cut (V : VOk D κ h ρ τ s) {h' : ft_H} {g : ME → Bool} (hg : ∀ e ∈ vs_M s, g e = true → vx_mok D h ρ τ e → vx_mok D h' ρ τ e) : VOk D κ h' ρ τ (vx_cut s g) := by
  refine ⟨V.1, V.2.1, V.2.2.1, fun e he => ?_, V.2.2.2.2⟩
  obtain ⟨he1, he2⟩ := List.mem_filter.mp he
  obtain ⟨m1, m2, m3, m4⟩ := V.2.2.2.1 e he1
  exact ⟨m1, m2, m3, hg e he1 he2 m4⟩
theorem vx_fits_ok (V : VOk D κ h ρ τ s) {m : Nat} {f : FM} {v : AV} (hv : vx_alt (vs_n s) (vs_r s) v) (e : vx_fits s f v = true) : vx_fok κ m f (vx_d D ρ τ v) := by
  unfold vx_fits at e
  unfold vx_fok
  split at e
  · rename_i e0
    rw [e0]
    rw [Bool.and_eq_true] at e
    obtain ⟨b1, b2⟩ := V.inn hv.1 e.2
    exact ⟨vx_ev ρ v.2.1, b1, b2, vx_d0 (Nat.eq_of_beq_eq_true e.1)⟩
  · rename_i e0
    rw [e0]
    rw [Bool.and_eq_true] at e
    obtain ⟨b1, b2⟩ := V.inn hv.1 e.2
    exact ⟨vx_ev ρ v.2.1, b1, b2, vx_d1 (Nat.eq_of_beq_eq_true e.1)⟩
  · rename_i e0
    rw [e0]
    rw [Bool.and_eq_true] at e
    split at e
    · rename_i k hk
      rw [Bool.and_eq_true] at e
      obtain ⟨k1, k2⟩ := V.2.2.1 _ k hk
      refine ⟨τ v.2.2, ?_, ?_⟩
      · exact vx_d2 (Nat.eq_of_beq_eq_true e.1)
      · rw [k2, ← Nat.eq_of_beq_eq_true e.2.1, ← Nat.eq_of_beq_eq_true e.2.2]
    · cases e.2
  · cases e
theorem vx_may_ok (V : VOk D κ h ρ τ s) {c : Nat} {i : LE} (hi : vx_lt (vs_n s) i) : ∀ {md : MD}, vx_may s c i md = true → ∃ q ∈ md, q.1 = c ∧ q.2.1 ≤ vx_ev ρ i ∧ vx_ev ρ i ≤ q.2.2
  | [], e => by cases e
  | q :: r, e => by
    unfold vx_may at e
    rw [Bool.or_eq_true] at e
    rcases e with e | e
    · rw [Bool.and_eq_true, Bool.and_eq_true] at e
      have q1 := V.ge (vx_k_lt hi) e.2.1
      have q2 := V.ge (vx_sub_lt vx_c_lt hi) e.2.2
      rw [vx_k_ev] at q1
      rw [vx_sub_ev, vx_c_ev] at q2
      exact ⟨q, List.mem_cons_self, Nat.eq_of_beq_eq_true e.1, by omega, by omega⟩
    · obtain ⟨z, hz, hq⟩ := vx_may_ok V hi e
      exact ⟨z, List.mem_cons_of_mem _ hz, hq⟩
theorem vx_fr.refl {md : MD} : vx_fr κ md h h := fun _ _ _ => rfl
theorem vx_fr.trans {md : MD} {h1 h2 : ft_H} (a : vx_fr κ md h h1) (b : vx_fr κ md h1 h2) : vx_fr κ md h h2 := fun x k hq => by rw [b x k hq, a x k hq]
theorem vx_write_ok (V : VOk D κ h ρ τ s) (I : vx_I D κ n h) {md : MD} (Fr : vx_fr κ md h0 h) {r : Nat} {i : LE} (hi : vx_lt (vs_n s) i) {v : AV} (hv : vx_alt (vs_n s) (vs_r s) v) {s' : VS} (e : vx_write md s r i v = some s') :
    VOk D κ (ft_set h (τ r) (vx_ev ρ i).toNat (vx_d D ρ τ v)) ρ τ s' ∧ vx_I D κ n (ft_set h (τ r) (vx_ev ρ i).toNat (vx_d D ρ τ v)) ∧ vx_fr κ md h0 (ft_set h (τ r) (vx_ev ρ i).toNat (vx_d D ρ τ v)) ∧ vs_n s' = vs_n s ∧ vs_r s' = vs_r s ∧ r < vs_r s ∧ ft_B D ≤ τ r ∧ 0 ≤ vx_ev ρ i := by
  unfold vx_write at e
  split at e
  · cases e
  · rename_i k hk
    obtain ⟨k1, k2⟩ := V.2.2.1 r k hk
    split at e
    · cases e
    · rename_i f hf
      cases hb : (Nat.blt 0 r && (Nat.blt 0 k.1 && (vx_g s i && (vx_g s (vx_sub (vx_c (Int.ofNat 999999)) i) && (vx_fits s f v && vx_may s k.1 i md)))))
      · rw [hb] at e; cases e
      · rw [hb] at e
        cases e
        rw [Bool.and_eq_true, Bool.and_eq_true, Bool.and_eq_true, Bool.and_eq_true, Bool.and_eq_true] at hb
        obtain ⟨b1, b2, b3, b4, b5, b6⟩ := hb
        have r0 := blt_lt b1
        have r1 : ¬ r = 0 := by omega
        have c0 := blt_lt b2
        have i0 := V.ge hi b3
        have i1 := V.ge (vx_sub_lt vx_c_lt hi) b4
        rw [vx_sub_ev, vx_c_ev] at i1
        have i1' : vx_ev ρ i < 1000000 := by
          have : (Int.ofNat 999999 : Int) = 999999 := rfl
          omega
        have hset : ∀ a j, (ft_set h (τ r) (vx_ev ρ i).toNat (vx_d D ρ τ v)).1 a j = if a = τ r ∧ j = (vx_ev ρ i).toNat then vx_d D ρ τ v else h.1 a j := fun a j => rfl
        refine ⟨?_, ⟨I.1, I.2.1, fun a j ha hj => ?_⟩, fun a j ha => ?_, rfl, rfl, k1, I.2.1 _ (by rw [k2]; omega), i0⟩
        · refine VOk.mem (VOk.cut V (fun z hz hg hm => ?_)) hi hv k1 ⟨i0, ?_⟩
          · obtain ⟨z1, z2, z3, z4⟩ := V.2.2.2.1 z hz
            refine ⟨hm.1, ?_⟩
            by_cases q0 : z.1 = 0
            · rw [if_pos q0]
              have := hm.2
              rw [if_pos q0] at this
              exact this
            · rw [if_neg q0]
              have hm2 := hm.2
              rw [if_neg q0] at hm2
              rw [← hm2]
              unfold vx_keep at hg
              split at hg
              · exact absurd (Nat.eq_of_beq_eq_true hg) q0
              · rename_i kz hkz
                obtain ⟨kz1, kz2⟩ := V.2.2.1 _ kz hkz
                have b0 : Nat.beq z.1 0 = false := by
                  cases hq : Nat.beq z.1 0
                  · rfl
                  · exact absurd (Nat.eq_of_beq_eq_true hq) q0
                rw [b0, Bool.false_or] at hg
                cases hc : Nat.beq kz.1 k.1
                · refine vx_look_cell (fun j => ?_) _
                  rw [hset, if_neg]
                  intro q
                  have : kz = k := by rw [← kz2, ← k2, q.1]
                  rw [this] at hc
                  have := Nat.beq_refl k.1
                  rw [this] at hc; cases hc
                · rw [hc] at hg
                  have hg' : (vx_real (vs_B s) z.2.1 && vx_apart (vs_B s) z.2.1 i) = true := by simpa using hg
                  rw [Bool.and_eq_true] at hg'
                  have g1 := vx_real_ok V.1 z1 hg'.1
                  have g2 := vx_apart_ok V.1 z1 hi hg'.2
                  rw [vx_look_lo g1, vx_look_lo g1, hset, if_neg]
                  intro q
                  have := hm.1
                  omega
          · show (if r = 0 then _ else vx_look _ (τ r) (vx_ev ρ i) = vx_d D ρ τ v)
            rw [if_neg r1, vx_look_lo i1', hset, if_pos ⟨rfl, rfl⟩]
        · rw [hset]
          by_cases q : a = τ r ∧ j = (vx_ev ρ i).toNat
          · rw [if_pos q, q.1, q.2, k2, vx_fa_ok hf i0]
            exact vx_fits_ok V hv b5
          · rw [if_neg q]; exact I.2.2 a j ha hj
        · rw [hset]
          by_cases q : a = τ r ∧ j = (vx_ev ρ i).toNat
          · exfalso
            obtain ⟨z, hz, z1, z2, z3⟩ := vx_may_ok V hi b6
            refine ha z hz ⟨?_, ?_, ?_⟩
            · rw [q.1, k2, z1]
            · rw [q.2]; omega
            · rw [q.2]; omega
          · rw [if_neg q]; exact Fr a j ha
theorem vx_keepm_ok (V : VOk D κ h ρ τ s) {h' : ft_H} {e : ME} (he : e ∈ vs_M s) (q0 : ¬ e.1 = 0) : ∀ {md : MD}, vx_keepm s e md = true → ((∀ j : Nat, ∀ q ∈ md, ¬ ((κ (τ e.1)).1 = q.1 ∧ q.2.1 ≤ (j : Int) ∧ (j : Int) ≤ q.2.2)) ∨ (vx_ev ρ e.2.1 < 1000000 ∧ ∀ q ∈ md, ¬ ((κ (τ e.1)).1 = q.1 ∧ q.2.1 ≤ (((vx_ev ρ e.2.1).toNat : Nat) : Int) ∧ (((vx_ev ρ e.2.1).toNat : Nat) : Int) ≤ q.2.2)))
  | [], _ => Or.inl (fun _ q hq => by cases hq)
  | q :: r, g => by
    unfold vx_keepm at g
    rw [Bool.and_eq_true] at g
    obtain ⟨z1, z2, z3, z4⟩ := V.2.2.2.1 e he
    have b0 : Nat.beq e.1 0 = false := by
      cases hq : Nat.beq e.1 0
      · rfl
      · exact absurd (Nat.eq_of_beq_eq_true hq) q0
    have g1 := g.1
    split at g1
    · rw [b0] at g1; cases g1
    · rename_i k hk
      obtain ⟨k1, k2⟩ := V.2.2.1 _ k hk
      rw [b0, Bool.false_or] at g1
      have ih := vx_keepm_ok V (h' := h') he q0 g.2
      cases hc : Nat.beq k.1 q.1
      · have hne : ¬ (κ (τ e.1)).1 = q.1 := fun z => by
          rw [k2] at z
          rw [z] at hc
          rw [Nat.beq_refl] at hc; cases hc
        rcases ih with i1 | ⟨i1, i2⟩
        · refine Or.inl (fun j p hp => ?_)
          rcases List.mem_cons.mp hp with w | w
          · rw [w]; exact fun z => hne z.1
          · exact i1 j p w
        · refine Or.inr ⟨i1, fun p hp => ?_⟩
          rcases List.mem_cons.mp hp with w | w
          · rw [w]; exact fun z => hne z.1
          · exact i2 p w
      · rw [hc] at g1
        have g2 : (vx_real (vs_B s) e.2.1 && (vx_lo0 (vs_B s) (vx_sub (vx_c (q.2.1 + Int.negSucc 0)) e.2.1) || vx_lo0 (vs_B s) (vx_k e.2.1 (-q.2.2 + Int.negSucc 0)))) = true := by simpa using g1
        rw [Bool.and_eq_true, Bool.or_eq_true] at g2
        have v1 := vx_real_ok V.1 z1 g2.1
        have e1 : (Int.negSucc 0 : Int) = -1 := rfl
        refine Or.inr ⟨v1, fun p hp => ?_⟩
        rcases List.mem_cons.mp hp with w | w
        · rw [w]
          rintro ⟨-, w2, w3⟩
          have := z4.1
          rcases g2.2 with u | u
          · have u1 := vx_lo0_ok V.1 (vx_sub_lt vx_c_lt z1) u
            rw [vx_sub_ev, vx_c_ev] at u1
            omega
          · have u1 := vx_lo0_ok V.1 (vx_k_lt z1) u
            rw [vx_k_ev] at u1
            omega
        · rcases ih with i1 | ⟨i1, i2⟩
          · exact i1 _ p w
          · exact i2 p w
/-- other heaps that differ at these places alone -/
theorem VOk.drop (V : VOk D κ h ρ τ s) {md : MD} {h' : ft_H} (Fr : vx_fr κ md h h') : VOk D κ h' ρ τ (vx_cut s (fun e => vx_keepm s e md)) := by
  refine VOk.cut V (fun z hz hg hm => ⟨hm.1, ?_⟩)
  by_cases q0 : z.1 = 0
  · rw [if_pos q0]
    have := hm.2
    rw [if_pos q0] at this
    exact this
  · rw [if_neg q0]
    have hm2 := hm.2
    rw [if_neg q0] at hm2
    rw [← hm2]
    rcases vx_keepm_ok V (h' := h') hz q0 hg with w | ⟨w1, w2⟩
    · exact vx_look_cell (fun j => Fr _ j (w j)) _
    · rw [vx_look_lo w1, vx_look_lo w1]
      exact Fr _ _ w2
end VXW
