section SOKS
variable {D : ft_G} {ρ : Nat → Int32} {σ : Nat → Int64} {h0 : ft_H}
def lgOK (H : AH) (a : AE) (e : Nat) : Bool := match a with
  | .leaf (2, q) => (match tG H.2 q with
    | some c => kdIs c.1 .long && (Nat.beq c.2.1 2 && aL (cA c e))
    | none => false)
  | _ => false
def ziOK (H : AH) (a : AE) : Bool := match a with
  | .leaf (2, q) => (match tG H.2 q with
    | some (k, m, some (x, _), .leaf none) => kdIs k .int && (Nat.beq m 512 && aB x (kI 0))
    | _ => false)
  | _ => false
def pipOK (H : AH) (o e : Nat) : Bool := match tG H.2 o with
  | some c => Nat.beq c.1 kd_M && (lgOK H (cA c 10) e && (lgOK H (cA c 11) e && ziOK H (cA c 17)))
  | none => false
def sFillB (as : List AE) (H : AH) : Option (Option AE × AH) := match as with
  | [.leaf (2, o), .leaf (0, n)] => (match tG H.2 o with
    | some (k, m, some (_, b), .leaf none) => bif kdIs k .byte && (Nat.blt n 128 && (Nat.blt m 2147483648 && Nat.blt (o + 1) 4096)) then some (none, (H.1, tS 12 H.2 o (k, m, some (kI n, b), tE))) else none
    | _ => none)
  | _ => none
def sMod (as : List AE) (H : AH) : Option (Option AE × AH) := match as with
  | [.leaf (6, 2), .leaf (0, 5)] => some (some (kV 9), H)
  | _ => none
def sPipe (as : List AE) (H : AH) : Option (Option AE × AH) := match as with
  | [.leaf (2, o), .leaf (0, e)] => bif Nat.blt e 2 && pipOK H o e then some (some (kI 0), H) else none
  | _ => none
def sFill0 (as : List AE) (H : AH) : Option (Option AE × AH) := match as with
  | [.leaf (2, o), .leaf (2, a), .leaf (0, 0)] => (match tG H.2 o with
    | some c => (match cA c 0 with
      | .leaf (2, b) => (match tG H.2 b, tG H.2 a with
        | some cb, some ca => bif Nat.beq c.1 kd_Pa && (aB (cA c 1) (kI 0) && (kdIs cb.1 .int && (kdIs ca.1 .int && (Nat.blt cb.2.1 2147483648 && Nat.blt ca.2.1 2147483648)))) then some (none, H) else none
        | _, _ => none)
      | _ => none)
    | none => none)
  | _ => none
def axS : AXS := fun z as H => bif Nat.beq z y_Arrays_fill then sFillB as H else bif Nat.beq z y_Math_floorMod then sMod as H else bif Nat.beq z y_M_pipe then sPipe as H else bif Nat.beq z y_Pa_fill then sFill0 as H else none
/-- a cell changed, its kind and length kept -/
theorem hD_upd {H : AH} {o : Nat} {c c' : CE} (hc : tG H.2 o = some c) (h1 : c'.1 = c.1) (h2 : c'.2.1 = c.2.1) (ho : o + 1 < 4096) : hD D ρ σ h0 (H.1, tS 12 H.2 o c') = ft_row (hD D ρ σ h0 H) (ft_B D + o) (fun j => aD D ρ σ (cA c' j)) := by
  have g : tG (tS 12 H.2 o c') o = some c' := by rw [tG_set 12 H.2 o c' o (by simpa using ho), if_pos rfl]
  have gn : ∀ q, q ≠ o → tG (tS 12 H.2 o c') q = tG H.2 q := fun q hq => by rw [tG_set 12 H.2 o c' q (by simpa using ho), if_neg hq]
  refine Prod.ext ?_ (Prod.ext ?_ rfl)
  · funext b j
    show _ = (if b = ft_B D + o then _ else _)
    by_cases e : b = ft_B D + o
    · rw [if_pos e, e]
      exact hD_V (H := (H.1, tS 12 H.2 o c')) g j
    · rw [if_neg e]
      show (if b < ft_B D then _ else _) = (if b < ft_B D then _ else _)
      by_cases hlt : b < ft_B D
      · rw [if_pos hlt, if_pos hlt]
      · rw [if_neg hlt, if_neg hlt, gn (b - ft_B D) (by omega)]
  · funext b
    show (if b < ft_B D then _ else _) = (if b < ft_B D then _ else _)
    by_cases hlt : b < ft_B D
    · rw [if_pos hlt, if_pos hlt]
    · rw [if_neg hlt, if_neg hlt]
      by_cases e : b - ft_B D = o
      · rw [e, g, hc]
        show (c'.1, c'.2.1) = (c.1, c.2.1)
        rw [h1, h2]
      · rw [gn _ e]
theorem cA_unif {k m : Nat} {a b : AE} (j : Nat) : cA (k, m, some (a, b), tE) j = if j < m then a else b := by
  show (bif Nat.blt j m then a else b) = _
  cases h : Nat.blt j m
  · rw [if_neg (blt_nlt h)]; rfl
  · rw [if_pos (blt_lt h)]; rfl
theorem hD_fill {H : AH} {o k m : Nat} {a b v : AE} (hc : tG H.2 o = some (k, m, some (a, b), tE)) (ho : o + 1 < 4096) : ft_row (hD D ρ σ h0 H) (ft_B D + o) (ft_fil (hD D ρ σ h0 H) (ft_B D + o) m (aD D ρ σ v)) = hD D ρ σ h0 (H.1, tS 12 H.2 o (k, m, some (v, b), tE)) := by
  rw [hD_upd (c' := (k, m, some (v, b), tE)) hc rfl rfl ho]
  congr 1
  funext j
  unfold ft_fil
  rw [hD_V hc, cA_unif, cA_unif]
  by_cases e : j < m
  · rw [if_pos e, if_pos e]
  · rw [if_neg e, if_neg e, if_neg e]
theorem lgOK_ok {H : AH} {a : AE} {e : Nat} (h : lgOK H a e = true) : ∃ (b : Nat) (x : Int64), aD D ρ σ a = .ref b ∧ ft_kd ((hD D ρ σ h0 H).2.1 b).1 = some (.inr .long) ∧ ((hD D ρ σ h0 H).2.1 b).2 = 2 ∧ (hD D ρ σ h0 H).1 b e = .long x := by
  unfold lgOK at h
  split at h
  · rename_i q
    split at h
    · rename_i c hc
      rw [Bool.and_eq_true, Bool.and_eq_true] at h
      have hK := hD_K (D := D) (ρ := ρ) (σ := σ) (h0 := h0) hc
      refine ⟨ft_B D + q, (eP ρ σ (cA c e)).2, rfl, by rw [hK]; exact kdIs_ok h.1, by rw [hK]; exact Nat.eq_of_beq_eq_true h.2.1, ?_⟩
      rw [hD_V hc, aD_L h.2.2]
    · cases h
  · cases h
theorem ziOK_ok {H : AH} {a : AE} (h : ziOK H a = true) : ∃ b : Nat, aD D ρ σ a = .ref b ∧ ft_kd ((hD D ρ σ h0 H).2.1 b).1 = some (.inr .int) ∧ ((hD D ρ σ h0 H).2.1 b).2 = 512 ∧ ∀ j, j < 512 → (hD D ρ σ h0 H).1 b j = .int (nI 0) := by
  unfold ziOK at h
  split at h
  · rename_i q
    split at h
    · rename_i k m x y hc
      rw [Bool.and_eq_true, Bool.and_eq_true] at h
      have hK := hD_K (D := D) (ρ := ρ) (σ := σ) (h0 := h0) hc
      have hm := Nat.eq_of_beq_eq_true h.2.1
      have hx := aB_ok h.2.2
      refine ⟨ft_B D + q, rfl, by rw [hK]; exact kdIs_ok h.1, by rw [hK]; exact hm, fun j hj => ?_⟩
      rw [hD_V hc, cA_unif, if_pos (by omega), hx]
      rfl
    · cases h
  · cases h
theorem pipOK_ok {H : AH} {o e : Nat} (h : pipOK H o e = true) : PipeF (hD D ρ σ h0 H) (ft_B D + o) e := by
  unfold pipOK at h
  split at h
  · rename_i c hc
    rw [Bool.and_eq_true, Bool.and_eq_true, Bool.and_eq_true] at h
    have hK := hD_K (D := D) (ρ := ρ) (σ := σ) (h0 := h0) hc
    obtain ⟨b1, x1, p1, q1, l1, v1⟩ := lgOK_ok (D := D) (ρ := ρ) (σ := σ) (h0 := h0) h.2.1
    obtain ⟨b2, x2, p2, q2, l2, v2⟩ := lgOK_ok (D := D) (ρ := ρ) (σ := σ) (h0 := h0) h.2.2.1
    obtain ⟨b3, p3, q3, l3, v3⟩ := ziOK_ok (D := D) (ρ := ρ) (σ := σ) (h0 := h0) h.2.2.2
    refine ⟨by rw [hK]; exact Nat.eq_of_beq_eq_true h.1, ⟨b1, x1, ?_, q1, l1, v1⟩, ⟨b2, x2, ?_, q2, l2, v2⟩, ⟨b3, ?_, q3, l3, v3⟩⟩
    · rw [hD_V hc]; exact p1
    · rw [hD_V hc]; exact p2
    · rw [hD_V hc]; exact p3
  · cases h
theorem axS_ok (h9 : ρ 9 = ftFm5 (ρ 2)) : SOK D ρ σ h0 axS := by
  intro z as H v H' hs
  unfold axS at hs
  cases z1 : Nat.beq z y_Arrays_fill with
  | true =>
    rw [z1] at hs
    simp only [cond_true] at hs
    have ez := Nat.eq_of_beq_eq_true z1
    subst ez
    unfold sFillB at hs
    split at hs
    · rename_i o n
      split at hs
      · rename_i k m a b hc
        cases hb : (kdIs k .byte && (Nat.blt n 128 && (Nat.blt m 2147483648 && Nat.blt (o + 1) 4096))) with
        | false => rw [hb] at hs; cases hs
        | true =>
          rw [hb] at hs
          cases hs
          rw [Bool.and_eq_true, Bool.and_eq_true, Bool.and_eq_true] at hb
          have hK := hD_K (D := D) (ρ := ρ) (σ := σ) (h0 := h0) hc
          refine sm.mono (t_fillB (D := D) (h := hD D ρ σ h0 H) (a := ft_B D + o) (m := m) (x := nI n) (by rw [hK]; exact kdIs_ok hb.1) (by rw [hK]) (blt_lt hb.2.2.1) (by omega)) ?_
          rintro v h' ⟨rfl, rfl⟩
          refine ⟨rfl, ?_⟩
          rw [nb128 n (blt_lt hb.2.1)]
          exact hD_fill (v := kI n) hc (blt_lt hb.2.2.2)
      · cases hs
    · cases hs
  | false =>
    rw [z1] at hs
    simp only [cond_false] at hs
    cases z3 : Nat.beq z y_Math_floorMod with
    | true =>
      rw [z3] at hs
      simp only [cond_true] at hs
      have ez := Nat.eq_of_beq_eq_true z3
      subst ez
      unfold sMod at hs
      split at hs
      · cases hs
        refine sm.mono (t_floorMod (D := D) (h := hD D ρ σ h0 H) (x := ρ 2)) ?_
        rintro v h' ⟨rfl, rfl⟩
        exact ⟨by rw [← h9]; rfl, rfl⟩
      · cases hs
    | false =>
      rw [z3] at hs
      simp only [cond_false] at hs
      cases z4 : Nat.beq z y_M_pipe with
      | true =>
        rw [z4] at hs
        simp only [cond_true] at hs
        have ez := Nat.eq_of_beq_eq_true z4
        subst ez
        unfold sPipe at hs
        split at hs
        · rename_i o e
          cases hb : (Nat.blt e 2 && pipOK H o e) with
          | false => rw [hb] at hs; cases hs
          | true =>
            rw [hb] at hs
            cases hs
            rw [Bool.and_eq_true] at hb
            refine sm.mono (t_pipe0 (D := D) (h := hD D ρ σ h0 H) (a := ft_B D + o) (e := e) (pipOK_ok hb.2) (blt_lt hb.1)) ?_
            rintro v h' ⟨rfl, rfl⟩
            exact ⟨rfl, rfl⟩
        · cases hs
      | false =>
        rw [z4] at hs
        simp only [cond_false] at hs
        cases z5 : Nat.beq z y_Pa_fill with
        | true =>
          rw [z5] at hs
          simp only [cond_true] at hs
          have ez := Nat.eq_of_beq_eq_true z5
          subst ez
          unfold sFill0 at hs
          split at hs
          · rename_i o a
            split at hs
            · rename_i c hcl
              split at hs
              · rename_i b hb0
                split at hs
                · rename_i cb ca hcb hca
                  cases hb : (Nat.beq c.1 kd_Pa && (aB (cA c 1) (kI 0) && (kdIs cb.1 .int && (kdIs ca.1 .int && (Nat.blt cb.2.1 2147483648 && Nat.blt ca.2.1 2147483648))))) with
                  | false => rw [hb] at hs; cases hs
                  | true =>
                    rw [hb] at hs
                    cases hs
                    rw [Bool.and_eq_true, Bool.and_eq_true, Bool.and_eq_true, Bool.and_eq_true, Bool.and_eq_true] at hb
                    have hK := hD_K (D := D) (ρ := ρ) (σ := σ) (h0 := h0) hcl
                    have hKb := hD_K (D := D) (ρ := ρ) (σ := σ) (h0 := h0) hcb
                    have hKa := hD_K (D := D) (ρ := ρ) (σ := σ) (h0 := h0) hca
                    refine sm.mono (t_Pa_fill0 (D := D) (h := hD D ρ σ h0 H) (a := ft_B D + o) (b := ft_B D + b) (c := ft_B D + a) (mb := cb.2.1) (mc := ca.2.1) (by rw [hK]; exact Nat.eq_of_beq_eq_true hb.1) (by omega) (by omega) (by rw [hD_V hcl, hb0]; rfl) (by rw [hD_V hcl, aB_ok hb.2.1]; rfl) (by rw [hKb]; exact kdIs_ok hb.2.2.1) (by rw [hKb]) (by rw [hKa]; exact kdIs_ok hb.2.2.2.1) (by rw [hKa]) (blt_lt hb.2.2.2.2.1) (blt_lt hb.2.2.2.2.2)) ?_
                    rintro v h' ⟨rfl, rfl⟩
                    exact ⟨rfl, rfl⟩
                · cases hs
              · cases hs
            · cases hs
          · cases hs
        | false =>
          rw [z5] at hs
          cases hs
end SOKS
