/-! loops: what holds at a head, again and again, with a number that falls -/
abbrev CI : Type := Nat × Option Nat × Nat × Nat × Int × Option Int × Int
abbrev KL : Type := Int × List ((Nat × Nat) × Int)
abbrev CU : Type := List Nat × List (Nat × Int × Int) × List CI × List KL × KL × MD
abbrev RI : Type := Nat × Nat × Nat × Int
abbrev LPv : Type := Nat × Nat × Nat × List Nat × List RI × VS × LV × LE
abbrev lp_pc (L : LPv) : Nat := L.1
abbrev lp_i (L : LPv) : Nat := L.2.1
abbrev lp_n (L : LPv) : Nat := L.2.2.1
abbrev lp_h (L : LPv) : List Nat := L.2.2.2.1
abbrev lp_m (L : LPv) : List RI := L.2.2.2.2.1
abbrev lp_s (L : LPv) : VS := L.2.2.2.2.2.1
abbrev lp_v (L : LPv) : LV := L.2.2.2.2.2.2.1
abbrev lp_q (L : LPv) : LE := L.2.2.2.2.2.2.2
/-- numbers in slots, as they can be kept -/
def vx_vh : List Nat → VS → LV → Option (VS × LV × List LE)
  | [], s, lv => some (s, lv, [])
  | k :: r, s, lv => match ft_lk k lv with
    | none => none
    | some a => match vx_norm s a with
      | none => none
      | some q => match vx_vh r q.1 ((k, q.2) :: lv) with
        | none => none
        | some w => some (w.1, w.2.1, q.2.2.1 :: w.2.2)
def vx_ix (lv : LV) (it : RI) : Option LE := bif Nat.beq it.2.1 0 then some (vx_c it.2.2.2) else match ft_lk it.2.2.1 lv with
  | some a => some (vx_k a.2.1 it.2.2.2)
  | none => none
def vx_vi : List RI → VS → LV → Option (VS × List LE)
  | [], s, _ => some (s, [])
  | it :: r, s, lv => match vx_ix lv it with
    | none => none
    | some i => match vx_read s it.1 i with
      | none => none
      | some q => match vx_vi r q.1 lv with
        | none => none
        | some w => some (w.1, q.2.2.1 :: w.2)
def vx_num (n : Nat) : List LE → SG
  | [] => []
  | l :: r => (n, l) :: vx_num (n + 1) r
def vx_idg : Nat → SG
  | 0 => []
  | n + 1 => (n, vx_v n) :: vx_idg n
def vx_idt : Nat → ST2
  | 0 => []
  | n + 1 => (n, n) :: vx_idt n
def vx_mkg (n : Nat) (vals : List LE) : SG := vx_idg n ++ vx_num n vals
/-- the state is as the head says -/
def vx_ent (L : LPv) (s : VS) (lv : LV) (vals : List LE) : Bool := vx_holds s (lp_s L) (vx_mkg (lp_n L) vals) (vx_idt (vs_r (lp_s L))) && ((lp_v L).all (fun q => vx_altB (vs_n (lp_s L)) (vs_r (lp_s L)) q.2 && (match ft_lk q.1 lv with
    | some w => vx_aeq s (vx_asub (vx_mkg (lp_n L) vals) (vx_idt (vs_r (lp_s L))) q.2) w
    | none => false)) && (vx_ltB (vs_n (lp_s L)) (lp_q L) && (Nat.ble (lp_n L) (vs_n (lp_s L)) && Nat.ble (vs_r (lp_s L)) (vs_r s))))
def vx_bk (L : LPv) (s : VS) (lv : LV) : Bool := match vx_vh (lp_h L) s lv with
  | none => false
  | some a => match vx_vi (lp_m L) a.1 a.2.1 with
    | none => false
    | some b => vx_ent L b.1 a.2.1 (a.2.2 ++ b.2) && vx_g b.1 (vx_k (vx_sub (lp_q L) (vx_put (vx_sg (vx_mkg (lp_n L) (a.2.2 ++ b.2))) (lp_q L))) (Int.negSucc 0))
section VXL
variable {D : ft_G} {κ : Nat → Nat × Nat} {n : Nat} {md : MD} {h0 : ft_H} {y uc us : Nat} {Q : Option Value → ft_H → Prop} {h : ft_H}
theorem vx_vh_ok {st : List AV} : ∀ {l : List Nat} {s : VS} {lv : LV} {ρ : Nat → Int} {τ : Nat → Nat}, VG D κ n md h0 y h ρ τ s lv st → ∀ {q : VS × LV × List LE}, vx_vh l s lv = some q → ∃ ρ', vx_on D κ h ρ τ s q.1 ρ' τ ∧ VG D κ n md h0 y h ρ' τ q.1 q.2.1 st ∧ ∀ z ∈ vx_dL D ρ' τ q.2.1, z ∈ vx_dL D ρ τ lv
  | [], s, lv, ρ, τ, G, q, e => by
    cases e
    exact ⟨ρ, G.1.on, G, fun z hz => hz⟩
  | k :: r, s, lv, ρ, τ, G, q, e => by
    unfold vx_vh at e
    split at e
    · cases e
    · rename_i a ha
      split at e
      · cases e
      · rename_i w hw
        split at e
        · cases e
        · rename_i x hx
          cases e
          have aa := G.2.2.2.1 (k, a) (ft_lk_mem ha)
          obtain ⟨ρ1, on1, aw, dw, -, -⟩ := vx_norm_ok G.1 aa (s' := w.1) (w := w.2) hw
          have G1 : VG D κ n md h0 y h ρ1 τ w.1 ((k, w.2) :: lv) st := ⟨on1.2.2.1, G.2.1, G.2.2.1, fun z hz => by
            rcases List.mem_cons.mp hz with e | e
            · rw [e]; exact aw
            · exact (G.2.2.2.1 z e).mono on1.2.2.2.1 on1.2.2.2.2, G.2.2.2.2.1.mono on1.2.2.2.1 on1.2.2.2.2, vx_scr G.2.2.2.2.2 on1.1 on1.2.2.2.1⟩
          obtain ⟨ρ2, on2, G2, m2⟩ := vx_vh_ok G1 hx
          refine ⟨ρ2, on1.trans on2, G2, fun z hz => ?_⟩
          have hz1 := m2 z hz
          have hz2 : z ∈ (k, vx_d D ρ1 τ w.2) :: vx_dL D ρ1 τ lv := hz1
          rcases List.mem_cons.mp hz2 with e | e
          · rw [e, dw]
            exact List.mem_map.mpr ⟨(k, a), ft_lk_mem ha, rfl⟩
          · rw [vx_dL_agr on1.1 on1.2.1 G.2.2.2.1] at e
            exact e
theorem vx_ix_lt {m r : Nat} {lv : LV} (ha : vx_altL m r lv) {it : RI} {i : LE} (e : vx_ix lv it = some i) : vx_lt m i := by
  unfold vx_ix at e
  cases hb : Nat.beq it.2.1 0
  · rw [hb] at e
    simp only [cond_false] at e
    split at e
    · rename_i a h1
      cases e
      exact vx_k_lt (ha _ (ft_lk_mem h1)).1
    · cases e
  · rw [hb] at e
    cases e
    exact vx_c_lt
theorem vx_vi_ok : ∀ {l : List RI} {s : VS} {lv : LV} {ρ : Nat → Int} {τ : Nat → Nat}, VOk D κ h ρ τ s → vx_I D κ n h → vx_altL (vs_n s) (vs_r s) lv → ∀ {q : VS × List LE}, vx_vi l s lv = some q → ∃ ρ' τ', vx_on D κ h ρ τ s q.1 ρ' τ'
  | [], s, lv, ρ, τ, V, I, ha, q, e => by
    cases e
    exact ⟨ρ, τ, V.on⟩
  | it :: r, s, lv, ρ, τ, V, I, ha, q, e => by
    unfold vx_vi at e
    split at e
    · cases e
    · rename_i i hi
      split at e
      · cases e
      · rename_i w hw
        split at e
        · cases e
        · rename_i x hx
          cases e
          obtain ⟨ρ1, τ1, o1, -⟩ := vx_read_ok V I (vx_ix_lt ha hi) (s' := w.1) (v := w.2) hw
          obtain ⟨ρ2, τ2, o2⟩ := vx_vi_ok o1.2.2.1 I (ha.mono o1.2.2.2.1 o1.2.2.2.2) hx
          exact ⟨ρ2, τ2, o1.trans o2⟩
theorem vx_idg_at {m : Nat} : ∀ {k i : Nat} {g : SG}, i < k → vx_sg (vx_idg k ++ g) i = vx_v i
  | k + 1, i, g, hi => by
    show vx_sg ((k, vx_v k) :: (vx_idg k ++ g)) i = _
    rw [vx_sg_c]
    by_cases e : k = i
    · rw [if_pos e, e]
    · rw [if_neg e]; exact vx_idg_at (m := m) (by omega)
theorem vx_idt_at : ∀ {k i : Nat}, i < k → vx_th (vx_idt k) i = i
  | k + 1, i, hi => by
    show vx_th ((k, k) :: vx_idt k) i = _
    rw [vx_th_c]
    by_cases e : k = i
    · rw [if_pos e, e]
    · rw [if_neg e]; exact vx_idt_at (by omega)
theorem sm_weak {pc : Nat} {lv lv' : List (Nat × Value)} {st : List Value} (hl : ∀ q ∈ lv', q ∈ lv) (k : sm D y pc lv' st h uc us Q) : sm D y pc lv st h uc us Q := by
  intro p l e R s m args below meth c H locs Z ls C rt hls hA hS
  exact k p l e R s m args below meth c H locs Z ls C rt ⟨hls.1, hls.2.1, fun q hq => hls.2.2 q (hl q hq)⟩ hA hS
/-- a state that is as a head says: the head's own numbers -/
theorem vx_ent_ok {L : LPv} {s : VS} {lv : LV} {vals : List LE} {ρ : Nat → Int} {τ : Nat → Nat} (G : VG D κ n md h0 y h ρ τ s lv []) (hy : y = 0 → 0 < lp_n L) (e : vx_ent L s lv vals = true) :
    vx_agr (lp_n L) ρ (vx_rg ρ (vx_mkg (lp_n L) vals)) ∧ vx_agr (vs_r (lp_s L)) τ (vx_tt τ (vx_idt (vs_r (lp_s L)))) ∧ VG D κ n md h0 y h (vx_rg ρ (vx_mkg (lp_n L) vals)) (vx_tt τ (vx_idt (vs_r (lp_s L)))) (lp_s L) (lp_v L) [] ∧ (∀ z ∈ vx_dL D (vx_rg ρ (vx_mkg (lp_n L) vals)) (vx_tt τ (vx_idt (vs_r (lp_s L)))) (lp_v L), z ∈ vx_dL D ρ τ lv) ∧ vx_lt (vs_n (lp_s L)) (lp_q L) ∧ lp_n L ≤ vs_n (lp_s L) ∧ vs_r (lp_s L) ≤ vs_r s ∧ vx_sgok (vs_n s) (vx_mkg (lp_n L) vals) = true := by
  unfold vx_ent at e
  rw [Bool.and_eq_true, Bool.and_eq_true, Bool.and_eq_true, Bool.and_eq_true] at e
  obtain ⟨e1, e2, e3, e4, e5⟩ := e
  have hg : vx_sgok (vs_n s) (vx_mkg (lp_n L) vals) = true := by
    unfold vx_holds at e1
    rw [Bool.and_eq_true, Bool.and_eq_true] at e1
    exact e1.2.1
  have V := vx_holds_ok G.1 e1
  have a1 : vx_agr (lp_n L) ρ (vx_rg ρ (vx_mkg (lp_n L) vals)) := fun i hi => by
    show vx_ev ρ (vx_sg (vx_idg (lp_n L) ++ vx_num (lp_n L) vals) i) = ρ i
    rw [vx_idg_at (m := 0) hi, vx_v_ev]
  refine ⟨a1, fun i hi => by show τ (vx_th _ i) = τ i; rw [vx_idt_at hi], ⟨V, G.2.1, G.2.2.1, fun q hq => ?_, fun v hv => (by cases hv), fun hy0 => ?_⟩, fun z hz => ?_, vx_ltB_ok e3, Nat.le_of_ble_eq_true e4, Nat.le_of_ble_eq_true e5, hg⟩
  · have := List.all_eq_true.mp e2 q hq
    rw [Bool.and_eq_true] at this
    exact vx_altB_ok this.1
  · obtain ⟨g1, g2, g3⟩ := G.2.2.2.2.2 hy0
    have := hy hy0
    exact ⟨Nat.lt_of_lt_of_le this (Nat.le_of_ble_eq_true e4), by rw [a1 0 this]; exact g2, g3⟩
  · obtain ⟨q, hq, hz⟩ := List.mem_map.mp hz
    have h1 := List.all_eq_true.mp e2 q hq
    rw [Bool.and_eq_true] at h1
    have h2 := h1.2
    split at h2
    · rename_i w hw
      have aw := G.2.2.2.1 _ (ft_lk_mem hw)
      have := vx_aeq_ok G.1 (vx_asub_lt hg) aw.1 h2
      rw [vx_asub_d] at this
      rw [← hz]
      refine List.mem_map.mpr ⟨(q.1, w), ft_lk_mem hw, ?_⟩
      show (q.1, vx_d D ρ τ w) = (q.1, _)
      rw [← this]
    · cases h2
end VXL
