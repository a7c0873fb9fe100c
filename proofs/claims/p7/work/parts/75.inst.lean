/-! what a call leaves: fresh names, facts, places -/
abbrev CT : Type := VS × List AV × MD × List (VS × Option AV)
def vx_news (B : TR (Int × Int)) : Nat → Nat → VS → SG → Option (VS × SG)
  | 0, _, s, g => some (s, g)
  | c + 1, i, s, g => match tG B i with
    | none => none
    | some b => match vx_new s b.1 b.2 with
      | none => none
      | some q => vx_news B c (i + 1) q.1 ((i, q.2) :: g)
def vx_newrs (K : TR (Nat × Nat)) : Nat → Nat → VS → ST2 → Option (VS × ST2)
  | 0, _, s, t => some (s, t)
  | c + 1, i, s, t => match tG K i with
    | none => none
    | some k => match vx_newr s k.1 k.2 with
      | none => none
      | some q => vx_newrs K c (i + 1) q.1 ((i, q.2) :: t)
def vx_facts (g : Nat → LE) : List LE → VS → Option VS
  | [], s => some s
  | f :: r, s => match vx_fact s (vx_put g f) with
    | none => none
    | some s' => vx_facts g r s'
def vx_mems (g : SG) (t : ST2) : List ME → VS → VS
  | [], s => s
  | e :: r, s => vx_mem (vx_mems g t r s) (vx_th t e.1, vx_put (vx_sg g) e.2.1, vx_asub g t e.2.2)
def vx_thok (m : Nat) (t : ST2) : Bool := t.all (fun q => Nat.blt q.2 m)
section VXR
variable {D : ft_G} {κ : Nat → Nat × Nat} {h : ft_H}
theorem vx_sg_c {i j : Nat} {l : LE} {g : SG} : vx_sg ((i, l) :: g) j = if i = j then l else vx_sg g j := by
  unfold vx_sg
  show (match (if i = j then some l else ft_lk j g) with | some l => l | none => _) = _
  by_cases e : i = j
  · rw [if_pos e, if_pos e]
  · rw [if_neg e, if_neg e]; rfl
theorem vx_th_c {i j q : Nat} {t : ST2} : vx_th ((i, q) :: t) j = if i = j then q else vx_th t j := by
  unfold vx_th
  show (match (if i = j then some q else ft_lk j t) with | some l => l | none => _) = _
  by_cases e : i = j
  · rw [if_pos e, if_pos e]
  · rw [if_neg e, if_neg e]; rfl
theorem vx_sgok_mono {n m : Nat} {g : SG} (hg : vx_sgok n g = true) (hm : n ≤ m) : vx_sgok m g = true := by
  refine List.all_eq_true.mpr (fun q hq => List.all_eq_true.mpr (fun t ht => ?_))
  have := blt_lt (List.all_eq_true.mp (List.all_eq_true.mp hg q hq) t ht)
  exact Nat.ble_eq_true_of_le (Nat.le_trans this hm)
theorem vx_thok_mono {n m : Nat} {g : ST2} (hg : vx_thok n g = true) (hm : n ≤ m) : vx_thok m g = true := by
  refine List.all_eq_true.mpr (fun q hq => ?_)
  have := blt_lt (List.all_eq_true.mp hg q hq)
  exact Nat.ble_eq_true_of_le (Nat.le_trans this hm)
theorem vx_th_lt {m : Nat} {t : ST2} (ht : vx_thok m t = true) (hm : 0 < m) (r : Nat) : vx_th t r < m := by
  unfold vx_th
  split
  · rename_i q hq
    exact blt_lt (List.all_eq_true.mp ht _ (ft_lk_mem hq))
  · exact hm
theorem vx_news_ok {B : TR (Int × Int)} {ρp : Nat → Int} {τ : Nat → Nat} : ∀ {c i : Nat} {s : VS} {g : SG} {ρ : Nat → Int}, VOk D κ h ρ τ s → vx_sgok (vs_n s) g = true → (∀ j b, i ≤ j → j < i + c → tG B j = some b → b.1 ≤ ρp j ∧ ρp j ≤ b.2) → ∀ {s' : VS} {g' : SG}, vx_news B c i s g = some (s', g') → ∃ ρ', vx_on D κ h ρ τ s s' ρ' τ ∧ vx_sgok (vs_n s') g' = true ∧ (∀ j, i ≤ j → j < i + c → vx_rg ρ' g' j = ρp j) ∧ (∀ j, j < i → vx_rg ρ' g' j = vx_rg ρ g j) ∧ vs_M s' = vs_M s ∧ vs_r s' = vs_r s
  | 0, i, s, g, ρ, V, hg, hb, s', g', e => by
    cases e
    exact ⟨ρ, V.on, hg, fun j h1 h2 => by omega, fun _ _ => rfl, rfl, rfl⟩
  | c + 1, i, s, g, ρ, V, hg, hb, s', g', e => by
    unfold vx_news at e
    split at e
    · cases e
    · rename_i b hbi
      split at e
      · cases e
      · rename_i q hq
        obtain ⟨x1, x2⟩ := hb i b (Nat.le_refl _) (by omega) hbi
        obtain ⟨o1, o2, o3, o4, o5⟩ := V.new x1 x2 (s' := q.1) (l := q.2) hq
        have hg2 : vx_sgok (vs_n q.1) ((i, q.2) :: g) = true := by
          refine List.all_eq_true.mpr (fun z hz => ?_)
          rcases List.mem_cons.mp hz with w | w
          · rw [w]
            exact List.all_eq_true.mpr (fun t ht => Nat.ble_eq_true_of_le (o2 t ht))
          · exact List.all_eq_true.mp (vx_sgok_mono hg o1.2.2.2.1) z w
        obtain ⟨ρ2, p1, p2, p3, p4, p5, p6⟩ := vx_news_ok o1.2.2.1 hg2 (fun j b' h1 h2 h3 => hb j b' (by omega) (by omega) h3) e
        have r1 : vs_r q.1 = vs_r s := by
          unfold vx_new at hq
          cases hz : Nat.blt (vs_n s + 2) 4096
          · rw [hz] at hq; cases hq
          · rw [hz] at hq; cases hq; rfl
        refine ⟨ρ2, o1.trans p1, p2, fun j h1 h2 => ?_, fun j hj => ?_, p5.trans o4, p6.trans r1⟩
        · by_cases w : j = i
          · subst w
            rw [p4 j (by omega)]
            show vx_ev _ (vx_sg ((j, q.2) :: g) j) = _
            rw [vx_sg_c, if_pos rfl]
            exact o3
          · exact p3 j (by omega) (by omega)
        · rw [p4 j (by omega)]
          show vx_ev _ (vx_sg ((i, q.2) :: g) j) = vx_ev ρ (vx_sg g j)
          rw [vx_sg_c, if_neg (by omega)]
          exact vx_ev_agr o1.1 (vx_sg_lt hg j)
theorem vx_newrs_ok {K : TR (Nat × Nat)} {τp : Nat → Nat} {ρ : Nat → Int} : ∀ {c i : Nat} {s : VS} {t : ST2} {τ : Nat → Nat}, VOk D κ h ρ τ s → vx_thok (vs_r s) t = true → 0 < vs_r s → (∀ j k, i ≤ j → j < i + c → tG K j = some k → κ (τp j) = k) → ∀ {s' : VS} {t' : ST2}, vx_newrs K c i s t = some (s', t') → ∃ τ', vx_on D κ h ρ τ s s' ρ τ' ∧ vx_thok (vs_r s') t' = true ∧ (∀ j, i ≤ j → j < i + c → vx_tt τ' t' j = τp j ∧ 0 < vx_th t' j) ∧ (∀ j, j < i → vx_tt τ' t' j = vx_tt τ t j ∧ vx_th t' j = vx_th t j) ∧ vs_M s' = vs_M s ∧ vs_n s' = vs_n s
  | 0, i, s, t, τ, V, ht, h0, hb, s', t', e => by
    cases e
    exact ⟨τ, V.on, ht, fun j h1 h2 => by omega, fun _ _ => ⟨rfl, rfl⟩, rfl, rfl⟩
  | c + 1, i, s, t, τ, V, ht, h0, hb, s', t', e => by
    unfold vx_newrs at e
    split at e
    · cases e
    · rename_i k hki
      split at e
      · cases e
      · rename_i q hq
        have x1 := hb i k (Nat.le_refl _) (by omega) hki
        obtain ⟨o1, o2, o3, o4, o5⟩ := V.newr x1 (s' := q.1) (r := q.2) hq
        have hn : vs_n q.1 = vs_n s ∧ q.2 = vs_r s := by
          unfold vx_newr at hq
          cases hz : Nat.blt (vs_r s + 2) 4096
          · rw [hz] at hq; cases hq
          · rw [hz] at hq; cases hq; exact ⟨rfl, rfl⟩
        have ht2 : vx_thok (vs_r q.1) ((i, q.2) :: t) = true := by
          refine List.all_eq_true.mpr (fun z hz => ?_)
          rcases List.mem_cons.mp hz with w | w
          · rw [w]
            exact Nat.ble_eq_true_of_le o2
          · exact List.all_eq_true.mp (vx_thok_mono ht o1.2.2.2.2) z w
        obtain ⟨τ2, p1, p2, p3, p4, p5, p6⟩ := vx_newrs_ok o1.2.2.1 ht2 (by omega) (fun j b' h1 h2 h3 => hb j b' (by omega) (by omega) h3) e
        refine ⟨τ2, o1.trans p1, p2, fun j h1 h2 => ?_, fun j hj => ?_, p5.trans o4, p6.trans hn.1⟩
        · by_cases w : j = i
          · subst w
            obtain ⟨w1, w2⟩ := p4 j (by omega)
            rw [w1, w2]
            show vx_updr τ (vs_r s) (τp j) (vx_th ((j, q.2) :: t) j) = _ ∧ 0 < vx_th ((j, q.2) :: t) j
            rw [vx_th_c, if_pos rfl]
            exact ⟨o3, by rw [hn.2]; exact h0⟩
          · exact p3 j (by omega) (by omega)
        · obtain ⟨w1, w2⟩ := p4 j (by omega)
          rw [w1, w2]
          show vx_updr τ (vs_r s) (τp i) (vx_th ((i, q.2) :: t) j) = τ (vx_th t j) ∧ vx_th ((i, q.2) :: t) j = vx_th t j
          rw [vx_th_c, if_neg (by omega)]
          exact ⟨o1.2.1 _ (vx_th_lt ht h0 j), rfl⟩
theorem vx_facts_ok {g : Nat → LE} {ρ : Nat → Int} {τ : Nat → Nat} : ∀ {l : List LE} {s : VS}, VOk D κ h ρ τ s → (∀ f ∈ l, vx_lt (vs_n s) (vx_put g f) ∧ 0 ≤ vx_ev ρ (vx_put g f)) → ∃ s', vx_facts g l s = some s' ∧ VOk D κ h ρ τ s' ∧ vs_n s' = vs_n s ∧ vs_r s' = vs_r s ∧ vs_M s' = vs_M s
  | [], s, V, _ => ⟨s, rfl, V, rfl, rfl, rfl⟩
  | f :: r, s, V, hf => by
    obtain ⟨f1, f2⟩ := hf f List.mem_cons_self
    obtain ⟨s1, e1, V1, n1, r1, -, m1⟩ := V.fact f1 f2
    obtain ⟨s2, e2, V2, n2, r2, m2⟩ := vx_facts_ok (l := r) V1 (fun z hz => by rw [n1]; exact hf z (List.mem_cons_of_mem _ hz))
    refine ⟨s2, ?_, V2, n2.trans n1, r2.trans r1, m2.trans m1⟩
    unfold vx_facts
    rw [e1]
    exact e2
theorem vx_mems_n {g : SG} {t : ST2} {s : VS} : ∀ {l : List ME}, vs_n (vx_mems g t l s) = vs_n s ∧ vs_r (vx_mems g t l s) = vs_r s
  | [] => ⟨rfl, rfl⟩
  | _ :: r => vx_mems_n (l := r)
theorem vx_mems_ok {g : SG} {t : ST2} {ρ : Nat → Int} {τ : Nat → Nat} {ρp : Nat → Int} {τp : Nat → Nat} {m r : Nat} {s : VS} (V : VOk D κ h ρ τ s) (hg : vx_sgok (vs_n s) g = true) (ht : vx_thok (vs_r s) t = true) (h0 : 0 < vs_r s) (a : vx_agr m (vx_rg ρ g) ρp) (b : vx_agr r (vx_tt τ t) τp) : ∀ {l : List ME}, (∀ e ∈ l, vx_lt m e.2.1 ∧ vx_alt m r e.2.2 ∧ e.1 < r ∧ 0 < e.1 ∧ 0 < vx_th t e.1 ∧ vx_mok D h ρp τp e) → VOk D κ h ρ τ (vx_mems g t l s)
  | [], _ => V
  | e :: l, he => by
    have V1 := vx_mems_ok V hg ht h0 a b (l := l) (fun z hz => he z (List.mem_cons_of_mem _ hz))
    obtain ⟨e1, e2, e3, e4, e5, e6⟩ := he e List.mem_cons_self
    have N := vx_mems_n (g := g) (t := t) (s := s) (l := l)
    refine V1.mem ?_ ?_ ?_ ?_
    · rw [N.1]; exact vx_put_lt (fun q _ => vx_sg_lt hg q.1)
    · rw [N.1, N.2]
      refine ⟨vx_asub_lt hg, fun z => ?_⟩
      show (bif vx_is2 e.2.2 then vx_th t e.2.2.2.2 else e.2.2.2.2) < vs_r s
      have z' : e.2.2.1 = 2 := z
      have : vx_is2 e.2.2 = true := by show Nat.beq e.2.2.1 2 = true; rw [z']; rfl
      rw [this]
      exact vx_th_lt ht h0 _
    · rw [N.2]; exact vx_th_lt ht h0 _
    · have q0 : ¬ vx_th t e.1 = 0 := by omega
      have q1 : ¬ e.1 = 0 := by omega
      have m1 := e6.1
      have m2 := e6.2
      rw [if_neg q1] at m2
      have ei : vx_ev ρ (vx_put (vx_sg g) e.2.1) = vx_ev ρp e.2.1 := by rw [vx_put_ev]; exact (vx_ev_agr a e1).symm
      refine ⟨?_, ?_⟩
      · show 0 ≤ vx_ev ρ (vx_put (vx_sg g) e.2.1)
        rw [ei]; exact m1
      · show (if vx_th t e.1 = 0 then _ else vx_look h (τ (vx_th t e.1)) (vx_ev ρ (vx_put (vx_sg g) e.2.1)) = vx_d D ρ τ (vx_asub g t e.2.2))
        rw [if_neg q0, ei, vx_asub_d]
        have bt := b e.1 e3
        have et : τ (vx_th t e.1) = τp e.1 := bt.symm
        rw [et, m2]
        exact vx_d_agr e2 a b
end VXR
