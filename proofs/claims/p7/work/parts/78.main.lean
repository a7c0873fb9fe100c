/-! a head is made (nothing of this is trusted: vx_ent looks at what came out) -/
def vx_ri : List CI → VS → LV → Option (VS × List RI)
  | [], s, _ => some (s, [])
  | it :: r, s, lv => match ft_lk it.1 lv with
    | none => none
    | some a => match (match it.2.1 with
        | none => some (s, a)
        | some f => vx_read s a.2.2 (vx_c (Int.ofNat f))) with
      | none => none
      | some q => match vx_ri r q.1 lv with
        | none => none
        | some w => some (w.1, (bif Nat.beq it.2.2.1 2 then (q.2.2.2, 0, 0, (match ft_lk it.2.2.2.1 lv with
            | some b => b.2.1.1
            | none => Int.ofNat 0) + it.2.2.2.2.1) else (q.2.2.2, it.2.2.1, it.2.2.2.1, it.2.2.2.2.1)) :: w.2)
def vx_mkn : List (Int × Int) → VS → Option VS
  | [], s => some s
  | b :: r, s => match vx_new s b.1 b.2 with
    | none => none
    | some q => vx_mkn r q.1
def vx_klT (n : Nat) (lv : LV) (vals : List LE) : List ((Nat × Nat) × Int) → LE
  | [] => vx_c (Int.ofNat 0)
  | ((k, j), c) :: r => vx_add (vx_sc c (bif Nat.beq k 0 then vx_v (n + j) else bif Nat.beq k 1 then (match ft_lk j lv with
    | some a => a.2.1
    | none => vx_c (Int.ofNat 0)) else vals.getD j (vx_c (Int.ofNat 0)))) (vx_klT n lv vals r)
def vx_kl (n : Nat) (lv : LV) (vals : List LE) (k : KL) : LE := vx_k (vx_klT n lv vals k.2) k.1
def vx_klF (n : Nat) (lv : LV) (vals : List LE) : List KL → VS → Option VS
  | [], s => some s
  | k :: r, s => match vx_fact s (vx_kl n lv vals k) with
    | none => none
    | some s' => vx_klF n lv vals r s'
def vx_kp (lv : LV) : List Nat → LV
  | [] => []
  | k :: r => match ft_lk k lv with
    | some a => (k, a) :: vx_kp lv r
    | none => vx_kp lv r
def vx_hv (lv : LV) : List (Nat × Int × Int) → Nat → LV
  | [], _ => []
  | q :: r, n => match ft_lk q.1 lv with
    | some a => (q.1, (a.1, vx_v n, 0)) :: vx_hv lv r (n + 1)
    | none => vx_hv lv r (n + 1)
def vx_hm (s : VS) (lv lvL : LV) : List RI → Nat → List ME
  | [], _ => []
  | it :: r, n => match vx_ix lv it, vx_ix lvL it with
    | some i, some j => (match vx_find it.1 i (vs_M s) with
      | some v => (it.1, j, (v.1, vx_v n, 0)) :: vx_hm s lv lvL r (n + 1)
      | none => vx_hm s lv lvL r (n + 1))
    | _, _ => vx_hm s lv lvL r (n + 1)
def vx_isit (lv : LV) (e : ME) : List RI → Bool
  | [] => false
  | it :: r => (match vx_ix lv it with
    | some i => Nat.beq it.1 e.1 && vx_eq i e.2.1
    | none => false) || vx_isit lv e r
def vx_bnds (s : VS) : List CI → List LE → List (Int × Int)
  | it :: r, v :: vs => ((match it.2.2.2.2.2.1 with
    | some lo => lo
    | none => match vx_low s v with
      | some x => x
      | none => Int.ofNat 0), it.2.2.2.2.2.2) :: vx_bnds s r vs
  | _, _ => []
def vx_arr (A : CU) (s : VS) (lv : LV) (pc i : Nat) : Option (VS × LV × List LE × LPv) := match vx_ri A.2.2.1 s lv with
  | none => none
  | some a => match vx_vh (A.2.1.map (fun q => q.1)) a.1 lv with
    | none => none
    | some b => match vx_vi a.2 b.1 b.2.1 with
      | none => none
      | some c =>
        let n := vs_n c.1
        let vals := b.2.2 ++ c.2
        let hv := vx_hv b.2.1 A.2.1 n
        let lvL := vx_kp b.2.1 A.1 ++ hv
        match vx_mkn (A.2.1.map (fun q => q.2) ++ vx_bnds c.1 A.2.2.1 c.2) c.1 with
        | none => none
        | some s1 =>
          let M := vx_hm c.1 b.2.1 lvL a.2 (n + A.2.1.length) ++ (vs_M c.1).filter (fun e => Nat.blt 0 e.1 && (vx_keepm c.1 e A.2.2.2.2.2 && !vx_isit b.2.1 e a.2))
          match vx_klF n b.2.1 vals A.2.2.2.1 (s1.1, s1.2.1, vs_B s1, vs_F s1, vs_K s1, M) with
          | none => none
          | some sL => some (c.1, b.2.1, vals, (pc, i, n, A.2.1.map (fun q => q.1), a.2, sL, lvL, vx_kl n b.2.1 vals A.2.2.2.2.1))
def vx_lf (pc i : Nat) : List LPv → Option LPv
  | [] => none
  | L :: r => bif Nat.beq (lp_pc L) pc && Nat.beq (lp_i L) i then some L else vx_lf pc i r
abbrev RC : Type := List LPv → Nat → MR → Nat → Nat → VS → LV → List AV → Option (List OU)
def vx_alts (rec : RC) (E : List LPv) (y : Nat) (M : MR) (pc : Nat) (s : VS) (lv : LV) : Nat → List CU → Option (List OU)
  | _, [] => none
  | i, A :: r => match vx_lf pc i E with
    | some L => bif vx_bk L s lv then some [] else vx_alts rec E y M pc s lv (i + 1) r
    | none => match vx_arr A s lv pc i with
      | none => vx_alts rec E y M pc s lv (i + 1) r
      | some q => bif vx_ent q.2.2.2 q.1 q.2.1 q.2.2.1 && (vx_g (lp_s q.2.2.2) (lp_q q.2.2.2) && (Nat.ble (vs_n q.1) (lp_n q.2.2.2) && (Nat.beq (lp_pc q.2.2.2) pc && Nat.ble (vs_r q.1) (vs_r (lp_s q.2.2.2))))) then rec (q.2.2.2 :: E) y M pc 1 (lp_s q.2.2.2) (lp_v q.2.2.2) [] else vx_alts rec E y M pc s lv (i + 1) r
/-! helps: cases by a number -/
def vx_o1 (o : Option VS) : List VS := match o with
  | some s => [s]
  | none => []
def vx_cs (l : LE) : List Int → VS → List VS
  | [], s => [s]
  | t :: r, s => vx_o1 (vx_fact s (vx_k (vx_neg l) (t + Int.negSucc 0))) ++ (match vx_fact s (vx_k l (-t)) with
    | some s' => vx_cs l r s'
    | none => [])
abbrev HI : Type := Nat × Nat × List Int × Int × Int
def vx_cs2 (h : HI) (s : VS) (v : AV) : List VS := bif vx_in s v.2.1 h.2.2.2.1 h.2.2.2.2 then vx_cs v.2.1 h.2.2.1 s else [s]
def vx_lk2 {α : Type} (y pc : Nat) : List ((Nat × Nat) × α) → Option α
  | [] => none
  | q :: r => bif Nat.beq q.1.1 y && Nat.beq q.1.2 pc then some q.2 else vx_lk2 y pc r
section VXCS
variable {D : ft_G} {κ : Nat → Nat × Nat} {h : ft_H} {ρ : Nat → Int} {τ : Nat → Nat}
theorem vx_cs_ok {l : LE} : ∀ {t : List Int} {s : VS}, VOk D κ h ρ τ s → vx_lt (vs_n s) l → ∃ s' ∈ vx_cs l t s, VOk D κ h ρ τ s' ∧ vs_n s' = vs_n s ∧ vs_r s' = vs_r s
  | [], s, V, _ => ⟨s, List.mem_singleton.mpr rfl, V, rfl, rfl⟩
  | t :: r, s, V, hl => by
    unfold vx_cs
    by_cases q : vx_ev ρ l < t
    · obtain ⟨s', e, V', n1, r1, -, -⟩ := V.fact (f := vx_k (vx_neg l) (t + Int.negSucc 0)) (vx_k_lt (vx_neg_lt hl)) (by rw [vx_k_ev, vx_neg_ev, vx_m1]; omega)
      refine ⟨s', List.mem_append.mpr (Or.inl ?_), V', n1, r1⟩
      rw [e]; exact List.mem_singleton.mpr rfl
    · obtain ⟨s', e, V', n1, r1, -, -⟩ := V.fact (f := vx_k l (-t)) (vx_k_lt hl) (by rw [vx_k_ev]; omega)
      obtain ⟨s2, m2, V2, n2, r2⟩ := vx_cs_ok (t := r) V' (by rw [n1]; exact hl)
      refine ⟨s2, List.mem_append.mpr (Or.inr ?_), V2, n2.trans n1, r2.trans r1⟩
      rw [e]; exact m2
theorem vx_cs2_ok {hh : HI} {s : VS} {v : AV} (V : VOk D κ h ρ τ s) (hv : vx_lt (vs_n s) v.2.1) : ∃ s' ∈ vx_cs2 hh s v, VOk D κ h ρ τ s' ∧ vs_n s' = vs_n s ∧ vs_r s' = vs_r s := by
  unfold vx_cs2
  cases vx_in s v.2.1 hh.2.2.2.1 hh.2.2.2.2
  · exact ⟨s, List.mem_singleton.mpr rfl, V, rfl, rfl⟩
  · exact vx_cs_ok V hv
theorem vx_ri_ok {n : Nat} : ∀ {l : List CI} {s : VS} {lv : LV} {ρ : Nat → Int} {τ : Nat → Nat}, VOk D κ h ρ τ s → vx_I D κ n h → ∀ {q : VS × List RI}, vx_ri l s lv = some q → ∃ ρ' τ', vx_on D κ h ρ τ s q.1 ρ' τ'
  | [], s, lv, ρ, τ, V, I, q, e => by
    cases e
    exact ⟨ρ, τ, V.on⟩
  | it :: r, s, lv, ρ, τ, V, I, q, e => by
    unfold vx_ri at e
    split at e
    · cases e
    · rename_i a ha
      split at e
      · cases e
      · rename_i w hw
        split at e
        · cases e
        · rename_i x hx
          cases e
          have h1 : ∃ ρ1 τ1, vx_on D κ h ρ τ s w.1 ρ1 τ1 := by
            split at hw
            · cases hw; exact ⟨ρ, τ, V.on⟩
            · rename_i f _
              obtain ⟨ρ1, τ1, o1, -⟩ := vx_read_ok V I (i := vx_c (Int.ofNat f)) vx_c_lt (s' := w.1) (v := w.2) hw
              exact ⟨ρ1, τ1, o1⟩
          obtain ⟨ρ1, τ1, o1⟩ := h1
          obtain ⟨ρ2, τ2, o2⟩ := vx_ri_ok o1.2.2.1 I hx
          exact ⟨ρ2, τ2, o1.trans o2⟩
end VXCS
