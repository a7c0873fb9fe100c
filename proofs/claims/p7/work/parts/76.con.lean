/-! a call by its contract -/
abbrev OU : Type := VS × Option AV
/-- the contract holds of method z -/
def CV (D : ft_G) (κ : Nat → Nat × Nat) (n : Nat) (z : Nat) (C : CT) : Prop := ∀ (ρ : Nat → Int) (τ : Nat → Nat) (h : ft_H), vx_I D κ n h → VOk D κ h ρ τ C.1 → sm D z 0 (lv_args 0 (vx_dS D ρ τ C.2.1)) [] h 0 0 (fun v h' => vx_I D κ n h' ∧ vx_fr κ C.2.2.1 h h' ∧ ∃ P ∈ C.2.2.2, ∃ ρ' τ', vx_agr (vs_n C.1) ρ ρ' ∧ vx_agr (vs_r C.1) τ τ' ∧ VOk D κ h' ρ' τ' P.1 ∧ v = P.2.map (vx_d D ρ' τ'))
def QOv (D : ft_G) (κ : Nat → Nat × Nat) (n : Nat) (md : MD) (h0 : ft_H) (n0 r0 : Nat) (ρ0 : Nat → Int) (τ0 : Nat → Nat) (outs : List OU) (v : Option Value) (h' : ft_H) : Prop := ∃ o ∈ outs, ∃ ρ' τ', vx_agr n0 ρ0 ρ' ∧ vx_agr r0 τ0 τ' ∧ VOk D κ h' ρ' τ' o.1 ∧ vx_I D κ n h' ∧ vx_fr κ md h0 h' ∧ v = o.2.map (vx_d D ρ' τ') ∧ (∀ a, o.2 = some a → vx_alt (vs_n o.1) (vs_r o.1) a) ∧ n0 ≤ vs_n o.1 ∧ r0 ≤ vs_r o.1
def vx_bind1 (p a : AV) (g : SG) (t : ST2) : SG × ST2 := bif vx_is2 p then (match ft_lk p.2.2 t with
    | none => (g, (p.2.2, a.2.2) :: t)
    | some _ => (g, t)) else match p.2.1 with
  | (.ofNat 0, [(i, .ofNat 1)]) => (match ft_lk i g with
    | none => ((i, a.2.1) :: g, t)
    | some _ => (g, t))
  | _ => (g, t)
def vx_bindL : List AV → List AV → SG → ST2 → SG × ST2
  | p :: ps, a :: as, g, t => match vx_bind1 p a g t with
    | (g', t') => vx_bindL ps as g' t'
  | _, _, g, t => (g, t)
def vx_reads : List ME → VS → SG → ST2 → Option (VS × SG × ST2)
  | [], s, g, t => some (s, g, t)
  | e :: r, s, g, t => bif vx_sgok (vs_n s) g then (match vx_read s (vx_th t e.1) (vx_put (vx_sg g) e.2.1) with
    | none => none
    | some q => match vx_bind1 e.2.2 q.2 g t with
      | (g', t') => vx_reads r q.1 g' t') else none
def vx_args (s : VS) (g : SG) (t : ST2) : List AV → List AV → Bool
  | [], [] => true
  | p :: ps, a :: as => vx_aeq s (vx_asub g t p) a && vx_args s g t ps as
  | _, _ => false
def vx_post (k r0 : Nat) (s : VS) (g : SG) (t : ST2) (P : OU) : Option (List OU) := bif Nat.ble k (vs_n P.1) && (Nat.ble r0 (vs_r P.1) && (vx_wfB P.1 && (match P.2 with
    | none => true
    | some a => vx_altB (vs_n P.1) (vs_r P.1) a))) then (match vx_newrs (vs_K P.1) (vs_r P.1 - r0) r0 s t with
    | none => none
    | some q => match vx_news (vs_B P.1) (vs_n P.1 - k) k q.1 g with
      | none => none
      | some w => bif (vs_M P.1).all (fun e => Nat.blt 0 (vx_th q.2 e.1)) then (match vx_facts (vx_sg w.2) (vs_F P.1) w.1 with
        | none => some []
        | some s' => some [(vx_mems w.2 q.2 (vs_M P.1) s', P.2.map (vx_asub w.2 q.2))]) else none) else none
def vx_posts (k r0 : Nat) (s : VS) (g : SG) (t : ST2) : List OU → Option (List OU)
  | [] => some []
  | P :: r => match vx_post k r0 s g t P, vx_posts k r0 s g t r with
    | some a, some b => some (a ++ b)
    | _, _ => none
def vx_ctc (md : MD) (s : VS) (as : List AV) (C : CT) : Option (List OU) := match vx_bindL C.2.1 as [] [] with
  | (g, t) => match vx_reads (vs_M C.1) s g t with
    | none => none
    | some q => bif vx_holds q.1 C.1 q.2.1 q.2.2 && (vx_args q.1 q.2.1 q.2.2 C.2.1 as && (vx_thok (vs_r q.1) q.2.2 && (C.2.2.1.all (vx_cov md) && Nat.blt 0 (vs_r q.1)))) then vx_posts (vs_n C.1) (vs_r C.1) (vx_cut q.1 (fun e => vx_keepm q.1 e C.2.2.1)) q.2.1 q.2.2 C.2.2.2 else none
section VXC
variable {D : ft_G} {κ : Nat → Nat × Nat} {n : Nat} {md : MD} {h0 h : ft_H}
theorem vx_reads_ok {l : List ME} : ∀ {s : VS} {g : SG} {t : ST2} {ρ : Nat → Int} {τ : Nat → Nat}, VOk D κ h ρ τ s → vx_I D κ n h → ∀ {q : VS × SG × ST2}, vx_reads l s g t = some q → ∃ ρ' τ', vx_on D κ h ρ τ s q.1 ρ' τ' := by
  induction l with
  | nil => intro s g t ρ τ V I q e; cases e; exact ⟨ρ, τ, V.on⟩
  | cons e r ih =>
    intro s g t ρ τ V I q eq
    unfold vx_reads at eq
    cases hb : vx_sgok (vs_n s) g
    · rw [hb] at eq; cases eq
    · rw [hb] at eq
      simp only [cond_true] at eq
      split at eq
      · cases eq
      · rename_i w hw
        obtain ⟨ρ1, τ1, o1, -⟩ := vx_read_ok V I (vx_put_lt (fun q _ => vx_sg_lt hb q.1)) (s' := w.1) (v := w.2) hw
        obtain ⟨ρ2, τ2, o2⟩ := ih o1.2.2.1 I eq
        exact ⟨ρ2, τ2, o1.trans o2⟩
theorem vx_args_ok {ρ ρ1 : Nat → Int} {τ τ1 : Nat → Nat} {s s1 : VS} (V : VOk D κ h ρ1 τ1 s1) (a : vx_agr (vs_n s) ρ ρ1) (b : vx_agr (vs_r s) τ τ1) (hn : vs_n s ≤ vs_n s1) {g : SG} {t : ST2} (hg : vx_sgok (vs_n s1) g = true) : ∀ {ps as : List AV}, vx_altS (vs_n s) (vs_r s) as → vx_args s1 g t ps as = true → vx_dS D (vx_rg ρ1 g) (vx_tt τ1 t) ps = vx_dS D ρ τ as
  | [], [], _, _ => rfl
  | [], _ :: _, _, e => by cases e
  | _ :: _, [], _, e => by cases e
  | p :: ps, z :: as, ha, e => by
    unfold vx_args at e
    rw [Bool.and_eq_true] at e
    have hz := ha z List.mem_cons_self
    have q := vx_aeq_ok V (vx_asub_lt hg) (hz.1.mono hn) e.1
    rw [vx_asub_d, vx_d_agr hz a b] at q
    show vx_d D _ _ p :: vx_dS D _ _ ps = vx_d D ρ τ z :: vx_dS D ρ τ as
    rw [q, vx_args_ok V a b hn hg (fun w hw => ha w (List.mem_cons_of_mem _ hw)) e.2]
theorem vx_post_ok {ρ ρp : Nat → Int} {τ τp : Nat → Nat} {s : VS} {g : SG} {t : ST2} {k r0 : Nat} (V : VOk D κ h ρ τ s) (hg : vx_sgok (vs_n s) g = true) (ht : vx_thok (vs_r s) t = true) (h1 : 0 < vs_r s) (a : vx_agr k (vx_rg ρ g) ρp) (b : vx_agr r0 (vx_tt τ t) τp) {P : OU} (VP : VOk D κ h ρp τp P.1) {outs : List OU} (e : vx_post k r0 s g t P = some outs) :
    ∃ o ∈ outs, ∃ ρ' τ', vx_agr (vs_n s) ρ ρ' ∧ vx_agr (vs_r s) τ τ' ∧ VOk D κ h ρ' τ' o.1 ∧ P.2.map (vx_d D ρp τp) = o.2.map (vx_d D ρ' τ') ∧ (∀ z, o.2 = some z → vx_alt (vs_n o.1) (vs_r o.1) z) ∧ vs_n s ≤ vs_n o.1 ∧ vs_r s ≤ vs_r o.1 := by
  unfold vx_post at e
  cases hb : (Nat.ble k (vs_n P.1) && (Nat.ble r0 (vs_r P.1) && (vx_wfB P.1 && (match P.2 with
    | none => true
    | some a => vx_altB (vs_n P.1) (vs_r P.1) a))))
  · rw [hb] at e; cases e
  · rw [hb] at e
    simp only [cond_true] at e
    rw [Bool.and_eq_true, Bool.and_eq_true, Bool.and_eq_true] at hb
    obtain ⟨b1, b2, b3, b4⟩ := hb
    have k1 := Nat.le_of_ble_eq_true b1
    have k2 := Nat.le_of_ble_eq_true b2
    split at e
    · cases e
    · rename_i q hq
      split at e
      · cases e
      · rename_i w hw
        cases hb5 : (vs_M P.1).all (fun e => Nat.blt 0 (vx_th q.2 e.1))
        · rw [hb5] at e; cases e
        · rw [hb5] at e
          simp only [cond_true] at e
          obtain ⟨τ2, o1, o2, o3, o4, o5, o6⟩ := vx_newrs_ok (τp := τp) V ht h1 (fun j z _ _ hz => (VP.2.2.1 j z hz).2) (s' := q.1) (t' := q.2) hq
          obtain ⟨ρ2, p1, p2, p3, p4, p5, p6⟩ := vx_news_ok (ρp := ρp) o1.2.2.1 (by rw [o6]; exact hg) (fun j z j1 j2 hz => VP.1 j z (by omega) hz) (s' := w.1) (g' := w.2) hw
          have ag : vx_agr (vs_n P.1) (vx_rg ρ2 w.2) ρp := fun j hj => by
            by_cases hjk : j < k
            · rw [p4 j hjk]; exact a j hjk
            · exact (p3 j (by omega) (by omega)).symm
          have at2 : vx_agr (vs_r P.1) (vx_tt τ2 q.2) τp := fun j hj => by
            by_cases hjk : j < r0
            · rw [(o4 j hjk).1]; exact b j hjk
            · exact (o3 j (by omega) (by omega)).1.symm
          obtain ⟨s5, f1, V5, f2, f3, f4⟩ := vx_facts_ok (g := vx_sg w.2) (l := vs_F P.1) p1.2.2.1 (fun f hf => by
            obtain ⟨g1, g2⟩ := VP.2.1 f hf
            refine ⟨vx_put_lt (fun q _ => vx_sg_lt p2 q.1), ?_⟩
            rw [vx_put_ev, ← vx_ev_agr ag g1]; exact g2)
          rw [f1] at e
          cases e
          have r3 : 0 < vs_r s5 := by
            rw [f3, p6]
            exact Nat.lt_of_lt_of_le h1 o1.2.2.2.2
          have th5 : vx_thok (vs_r s5) q.2 = true := by rw [f3, p6]; exact o2
          have sg5 : vx_sgok (vs_n s5) w.2 = true := by rw [f2]; exact p2
          have V6 := vx_mems_ok V5 sg5 th5 r3 ag at2 (l := vs_M P.1) (fun z hz => by
            obtain ⟨z1, z2, z3, z4⟩ := VP.2.2.2.1 z hz
            have z5 := blt_lt (List.all_eq_true.mp hb5 z hz)
            have z6 : 0 < z.1 := by
              unfold vx_wfB at b3
              rw [Bool.and_eq_true, Bool.and_eq_true, Bool.and_eq_true, Bool.and_eq_true] at b3
              have := List.all_eq_true.mp b3.2.2.2.1 z hz
              rw [Bool.and_eq_true, Bool.and_eq_true, Bool.and_eq_true] at this
              exact blt_lt this.2.2.1
            exact ⟨z1, z2, z3, z6, z5, z4⟩)
          have N := vx_mems_n (g := w.2) (t := q.2) (s := s5) (l := vs_M P.1)
          have hall := o1.trans p1
          refine ⟨_, List.mem_singleton.mpr rfl, ρ2, τ2, hall.1, hall.2.1, V6, ?_, fun z hz => ?_, ?_, ?_⟩
          · cases hP : P.2 with
            | none => rfl
            | some z =>
              rw [hP] at b4
              have hz := vx_altB_ok b4
              show some (vx_d D ρp τp z) = some (vx_d D ρ2 τ2 (vx_asub w.2 q.2 z))
              rw [vx_asub_d, vx_d_agr hz ag at2]
          · have hz' : P.2.map (vx_asub w.2 q.2) = some z := hz
            cases hP : P.2 with
            | none => rw [hP] at hz'; cases hz'
            | some z0 =>
              rw [hP] at hz'
              cases hz'
              show vx_alt (vs_n (vx_mems w.2 q.2 (vs_M P.1) s5)) (vs_r (vx_mems w.2 q.2 (vs_M P.1) s5)) _
              rw [N.1, N.2]
              refine ⟨vx_asub_lt sg5, fun y2 => ?_⟩
              show (bif vx_is2 z0 then vx_th q.2 z0.2.2 else z0.2.2) < vs_r s5
              have y2' : z0.1 = 2 := y2
              have : vx_is2 z0 = true := by show Nat.beq z0.1 2 = true; rw [y2']; rfl
              rw [this]
              exact vx_th_lt th5 r3 _
          · show vs_n s ≤ vs_n (vx_mems w.2 q.2 (vs_M P.1) s5)
            rw [N.1, f2]; exact hall.2.2.2.1
          · show vs_r s ≤ vs_r (vx_mems w.2 q.2 (vs_M P.1) s5)
            rw [N.2, f3]; exact hall.2.2.2.2
theorem vx_posts_ok {k r0 : Nat} {s : VS} {g : SG} {t : ST2} : ∀ {l : List OU} {outs : List OU}, vx_posts k r0 s g t l = some outs → ∀ P ∈ l, ∃ o, vx_post k r0 s g t P = some o ∧ ∀ z ∈ o, z ∈ outs
  | [], _, _, P, hP => by cases hP
  | P0 :: r, outs, e, P, hP => by
    unfold vx_posts at e
    split at e
    · rename_i a b ha hb
      cases e
      rcases List.mem_cons.mp hP with w | w
      · rw [w]; exact ⟨a, ha, fun z hz => List.mem_append.mpr (Or.inl hz)⟩
      · obtain ⟨o, o1, o2⟩ := vx_posts_ok hb P w
        exact ⟨o, o1, fun z hz => List.mem_append.mpr (Or.inr (o2 z hz))⟩
    · cases e
theorem vx_ctc_ok {ρ : Nat → Int} {τ : Nat → Nat} {s : VS} {as : List AV} {z : Nat} {C : CT} (hC : CV D κ n z C) (V : VOk D κ h ρ τ s) (I : vx_I D κ n h) (Fr : vx_fr κ md h0 h) (ha : vx_altS (vs_n s) (vs_r s) as) {outs : List OU} (e : vx_ctc md s as C = some outs) : sm D z 0 (lv_args 0 (vx_dS D ρ τ as)) [] h 0 0 (QOv D κ n md h0 (vs_n s) (vs_r s) ρ τ outs) := by
  unfold vx_ctc at e
  split at e
  rename_i g0 t0 _
  split at e
  · cases e
  · rename_i q hq
    cases hb : (vx_holds q.1 C.1 q.2.1 q.2.2 && (vx_args q.1 q.2.1 q.2.2 C.2.1 as && (vx_thok (vs_r q.1) q.2.2 && (C.2.2.1.all (vx_cov md) && Nat.blt 0 (vs_r q.1)))))
    · rw [hb] at e; cases e
    · rw [hb] at e
      simp only [cond_true] at e
      rw [Bool.and_eq_true, Bool.and_eq_true, Bool.and_eq_true, Bool.and_eq_true] at hb
      obtain ⟨b1, b2, b3, b4, b5⟩ := hb
      obtain ⟨ρ1, τ1, o1⟩ := vx_reads_ok V I hq
      have hg : vx_sgok (vs_n q.1) q.2.1 = true := by
        unfold vx_holds at b1
        rw [Bool.and_eq_true, Bool.and_eq_true] at b1
        exact b1.2.1
      have VP := vx_holds_ok o1.2.2.1 b1
      have hargs := vx_args_ok o1.2.2.1 o1.1 o1.2.1 o1.2.2.2.1 hg ha b2
      have k := hC _ _ h I VP
      rw [hargs] at k
      refine k.mono ?_
      rintro v h' ⟨I', F', P, hP, ρp, τp, a1, a2, VP', hv⟩
      obtain ⟨po, e1, e2⟩ := vx_posts_ok e P hP
      have V2 := o1.2.2.1.drop F'
      obtain ⟨o, m1, ρ', τ', c1, c2, c3, c4, c5, c6, c7⟩ := vx_post_ok V2 hg b3 (blt_lt b5) a1 a2 VP' e1
      refine ⟨o, e2 o m1, ρ', τ', o1.1.trans c1 o1.2.2.2.1, o1.2.1.trans c2 o1.2.2.2.2, c3, I', vx_cov_ok b4 Fr F', ?_, c5, Nat.le_trans o1.2.2.2.1 c6, Nat.le_trans o1.2.2.2.2 c7⟩
      rw [hv]; exact c4
end VXC
