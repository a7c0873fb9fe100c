/-! a contract by a walk -/
def vx_idB (g : SG) : Nat → Bool
  | 0 => true
  | i + 1 => vx_eq (vx_sg g i) (vx_v i) && vx_idB g i
def vx_idT (t : ST2) : Nat → Bool
  | 0 => true
  | i + 1 => Nat.beq (vx_th t i) i && vx_idT t i
def vx_res (s : VS) (g : SG) (t : ST2) (p a : Option AV) : Bool := match p, a with
  | none, none => true
  | some x, some z => vx_aeq s (vx_asub g t x) z
  | _, _ => false
def vx_nmO (s : VS) (a : Option AV) : Option (VS × Option AV) := match a with
  | none => some (s, none)
  | some v => (vx_norm s v).map (fun q => (q.1, some q.2))
def vx_pm (k r0 : Nat) (o P : OU) : Bool := match vx_nmO o.1 o.2 with
  | none => false
  | some q => match (match P.2, q.2 with
      | some x, some z => vx_bind1 x z (vx_idg k) (vx_idt r0)
      | _, _ => (vx_idg k, vx_idt r0)) with
    | (g, t) => match vx_reads (vs_M P.1) q.1 g t with
      | none => false
      | some w => vx_holds w.1 P.1 w.2.1 w.2.2 && (vx_res w.1 w.2.1 w.2.2 P.2 q.2 && (vx_idB w.2.1 k && vx_idT w.2.2 r0))
def vx_chk (Cm : TR MR) (T : TT) (U : UT) (Hn : HT) (f y : Nat) (M : MR) (C : CT) : Bool := C.2.1.all (fun a => vx_altB (vs_n C.1) (vs_r C.1) a) && (Nat.blt 0 y && (match vx Cm T U Hn C.2.2.1 f [] y M 0 0 C.1 (vx_al 0 C.2.1) [] with
  | none => false
  | some outs => outs.all (fun o => C.2.2.2.any (fun P => vx_pm (vs_n C.1) (vs_r C.1) o P))))
section VXZ
variable {D : ft_G} {κ : Nat → Nat × Nat} {n : Nat}
theorem vx_idB_ok {g : SG} : ∀ {k : Nat}, vx_idB g k = true → ∀ i, i < k → vx_sg g i = vx_v i
  | 0, _, i, hi => by omega
  | k + 1, e, i, hi => by
    unfold vx_idB at e
    rw [Bool.and_eq_true] at e
    by_cases q : i = k
    · rw [q]; exact vx_eq_ok e.1
    · exact vx_idB_ok e.2 i (by omega)
theorem vx_idT_ok {t : ST2} : ∀ {k : Nat}, vx_idT t k = true → ∀ i, i < k → vx_th t i = i
  | 0, _, i, hi => by omega
  | k + 1, e, i, hi => by
    unfold vx_idT at e
    rw [Bool.and_eq_true] at e
    by_cases q : i = k
    · rw [q]; exact Nat.eq_of_beq_eq_true e.1
    · exact vx_idT_ok e.2 i (by omega)
theorem vx_nmO_ok {h : ft_H} {ρ : Nat → Int} {τ : Nat → Nat} {s : VS} (V : VOk D κ h ρ τ s) {a : Option AV} (ha : ∀ v, a = some v → vx_alt (vs_n s) (vs_r s) v) {q : VS × Option AV} (e : vx_nmO s a = some q) : ∃ ρ', vx_on D κ h ρ τ s q.1 ρ' τ ∧ a.map (vx_d D ρ τ) = q.2.map (vx_d D ρ' τ) ∧ (∀ v, q.2 = some v → vx_alt (vs_n q.1) (vs_r q.1) v) := by
  unfold vx_nmO at e
  split at e
  · cases e
    exact ⟨ρ, V.on, rfl, fun v hv => by cases hv⟩
  · rename_i v
    cases hn : vx_norm s v with
    | none => rw [hn] at e; cases e
    | some w =>
      rw [hn] at e
      cases e
      obtain ⟨ρ', o1, o2, o3, -, -⟩ := vx_norm_ok V (ha v rfl) (s' := w.1) (w := w.2) hn
      refine ⟨ρ', o1, ?_, fun x hx => ?_⟩
      · show some (vx_d D ρ τ v) = some (vx_d D ρ' τ w.2)
        rw [o3]
      · cases hx; exact o2
theorem vx_pm_ok {h' : ft_H} {ρ ρ' : Nat → Int} {τ τ' : Nat → Nat} {k r0 : Nat} {o P : OU} (I : vx_I D κ n h') (a : vx_agr k ρ ρ') (b : vx_agr r0 τ τ') (V : VOk D κ h' ρ' τ' o.1) (ha : ∀ v, o.2 = some v → vx_alt (vs_n o.1) (vs_r o.1) v) (hk : k ≤ vs_n o.1) (hr : r0 ≤ vs_r o.1) (e : vx_pm k r0 o P = true) : ∃ ρ2 τ2, vx_agr k ρ ρ2 ∧ vx_agr r0 τ τ2 ∧ VOk D κ h' ρ2 τ2 P.1 ∧ o.2.map (vx_d D ρ' τ') = P.2.map (vx_d D ρ2 τ2) := by
  unfold vx_pm at e
  split at e
  · cases e
  · rename_i q hq
    obtain ⟨ρ3, o1, o2, o3⟩ := vx_nmO_ok V ha hq
    simp only [] at e
    split at e
    · cases e
    · rename_i w hw
      rw [Bool.and_eq_true, Bool.and_eq_true, Bool.and_eq_true] at e
      obtain ⟨e1, e2, e3, e4⟩ := e
      obtain ⟨ρ4, τ4, p1⟩ := vx_reads_ok o1.2.2.1 I hw
      have hg : vx_sgok (vs_n w.1) w.2.1 = true := by
        unfold vx_holds at e1
        rw [Bool.and_eq_true, Bool.and_eq_true] at e1
        exact e1.2.1
      have on := o1.trans p1
      refine ⟨vx_rg ρ4 w.2.1, vx_tt τ4 w.2.2, fun i hi => ?_, fun i hi => ?_, vx_holds_ok p1.2.2.1 e1, ?_⟩
      · show vx_ev ρ4 (vx_sg w.2.1 i) = ρ i
        rw [vx_idB_ok e3 i hi, vx_v_ev, on.1 i (by omega), a i hi]
      · show τ4 (vx_th w.2.2 i) = τ i
        rw [vx_idT_ok e4 i hi, on.2.1 i (by omega), b i hi]
      · rw [o2]
        unfold vx_res at e2
        split at e2
        · rename_i h1 h2
          rw [h1, h2]; rfl
        · rename_i x z h1 h2
          rw [h1, h2]
          have hz := o3 z h2
          have q2 := vx_aeq_ok p1.2.2.1 (vx_asub_lt hg) (hz.1.mono p1.2.2.2.1) e2
          rw [vx_asub_d, vx_d_agr hz p1.1 p1.2.1] at q2
          show some (vx_d D ρ3 τ' z) = some _
          rw [q2]
        · cases e2
/-- A CONTRACT HOLDS if a walk says so -/
theorem vx_con {Cm : TR MR} (hC : COK Cm) {T : TT} {y : Nat} {M : MR} (hM : MOK y M) {U : UT} {Hn : HT} {f : Nat} {C : CT} (e : vx_chk Cm T U Hn f y M C = true) (hT : ∀ q ∈ T, CV D κ n q.1 q.2) : CV D κ n y C := by
  unfold vx_chk at e
  rw [Bool.and_eq_true, Bool.and_eq_true] at e
  obtain ⟨e1, e2, e3⟩ := e
  intro ρ τ h I V
  have ha : vx_altS (vs_n C.1) (vs_r C.1) C.2.1 := fun a hz => vx_altB_ok (List.all_eq_true.mp e1 a hz)
  have y0 := blt_lt e2
  split at e3
  · cases e3
  · rename_i outs ho
    have k := vx_ok (D := D) (κ := κ) (n := n) (md := C.2.2.1) (h0 := h) hC hT (U := U) (Hn := Hn) f [] y M 0 0 C.1 (vx_al 0 C.2.1) [] outs ho hM 0 0 ρ τ h (QOv D κ n C.2.2.1 h (vs_n C.1) (vs_r C.1) ρ τ outs) ⟨Nat.zero_le _, Nat.zero_le _⟩ (fun v h' q => q) ⟨V, I, vx_fr.refl, vx_al_alt ha, fun v hv => (by cases hv), fun z => by omega⟩ (fun L hL => by cases hL)
    rw [vx_al_ok] at k
    refine k.mono ?_
    rintro v h' ⟨o, m, ρ', τ', q1, q2, q3, q4, q5, q6, q7, q8, q9⟩
    obtain ⟨P, hP, hp⟩ := List.any_eq_true.mp (List.all_eq_true.mp e3 o m)
    obtain ⟨ρ2, τ2, r1, r2, r3, r4⟩ := vx_pm_ok q4 q1 q2 q3 q7 q8 q9 hp
    exact ⟨q4, q5, P, hP, ρ2, τ2, r1, r2, r3, by rw [q6]; exact r4⟩
end VXZ
