/-! the walk -/
def vx_hx (h : HI) (s : VS) (lv : LV) (st : List AV) : Option (List VS) := bif Nat.beq h.1 0 then (match ft_lk h.2.1 lv with
    | some v => some (vx_cs2 h s v)
    | none => none) else bif Nat.beq h.1 1 then (match st[h.2.1]? with
    | some v => some (vx_cs2 h s v)
    | none => none) else match h.2.2.1 with
  | [.ofNat ss] => (match vx_wfh s lv h.2.1 ss with
    | some s' => some [s']
    | none => none)
  | _ => none
def vx_popn : Nat → List AV → List AV → Option (List AV × List AV)
  | 0, st, acc => some (acc, st)
  | _ + 1, [], _ => none
  | n + 1, a :: st, acc => vx_popn n st (a :: acc)
def vx_al : Nat → List AV → LV
  | _, [] => []
  | k, a :: r => (k, a) :: vx_al (k + vx_cat a) r
def vx_all {α : Type} (g : α → Option (List OU)) : List α → Option (List OU)
  | [] => some []
  | o :: l => match g o with
    | none => none
    | some x => match vx_all g l with
      | none => none
      | some y => some (x ++ y)
def vx_nmA : List AV → VS → Option (VS × List AV)
  | [], s => some (s, [])
  | a :: r, s => match vx_norm s a with
    | none => none
    | some q => match vx_nmA r q.1 with
      | none => none
      | some w => some (w.1, q.2 :: w.2)
def vx_retV (s : VS) (ty : Option FieldType) (v : Option AV) (i : Instr) : Bool := match ty, v, i with
  | none, none, .return_ => true
  | some .int, some a, .ireturn => vx_is0 a
  | some .boolean, some a, .ireturn => vx_fitV s .boolean a
  | some .long, some a, .lreturn => vx_is1 a
  | some (.object _), some a, .areturn => vx_isR a
  | _, _, _ => false
abbrev TT : Type := List (Nat × CT)
def vx_ct1 (md : MD) (s : VS) (z : Nat) (as : List AV) : TT → Option (List OU)
  | [] => none
  | q :: r => bif Nat.beq q.1 z then (match vx_ctc md s as q.2 with
    | some o => some o
    | none => vx_ct1 md s z as r) else vx_ct1 md s z as r
def vx_cal (M N : MR) (args r : List AV) : Bool := Nat.ble ((r.map vx_cat).sum) 8 && (Nat.ble ((args.map vx_cat).sum) N.2.2.1 && (Nat.beq N.2.2.2.1 0 && Nat.beq N.2.2.2.2.1 0))
def vx_rcv (s : VS) (a : AV) (N : MR) : Bool := vx_is2 a && (match tG (vs_K s) a.2.2 with
  | some k => Nat.blt N.2.2.2.2.2.1 ft_nc && Nat.beq k.1 (N.2.2.2.2.2.1 + 1)
  | none => false)
/-- what a method that is called can leave: by its contract, or by a walk through it -/
def vx_cee (rec : RC) (T : TT) (md : MD) (z : Nat) (N : MR) (s : VS) (as : List AV) : Option (List OU) := bif T.any (fun q => Nat.beq q.1 z) then vx_ct1 md s z as T else bif Nat.blt 0 z then rec [] z N 0 0 s (vx_al 0 as) [] else none
def vx_end (M : MR) (s : VS) (v : Option AV) (i : Instr) : Option (List OU) := bif vx_retV s M.2.2.2.2.2.2 v i then some [(s, v)] else none
abbrev UT : Type := List ((Nat × Nat) × List CU)
abbrev HT : Type := List ((Nat × Nat) × HI)
def vx_ins2 (rec : RC) (C : TR MR) (T : TT) (md : MD) (E : List LPv) (y : Nat) (M : MR) (pc : Nat) (s : VS) (lv : LV) (st : List AV) : Option (List OU) := match tG M.1 pc with
    | none => none
    | some (i, _, pr) => match i, pr, st with
      | .invokevirtual _, [_, z, _, _, _, _, _], st => match tG C z with
        | none => none
        | some N => match vx_popn (N.2.1 + 1) st [] with
          | some (as, r) => match vx_nmA as s with
            | none => none
            | some q => (match q.2 with
              | [] => none
              | a :: bs => bif vx_cal M N (a :: bs) r && vx_rcv q.1 a N then (match vx_cee rec T md z N q.1 (a :: bs) with
              | none => none
              | some outs => vx_all (fun o => rec E y M (pc + 3) 0 o.1 lv (o.2.toList ++ r)) outs) else none)
          | none => none
      | .invokestatic _, [_, z, _, _, _, _], st => match tG C z with
        | none => none
        | some N => match vx_popn N.2.1 st [] with
          | some (as, r) => match vx_nmA as s with
            | none => none
            | some q => bif vx_cal M N q.2 r then (match vx_cee rec T md z N q.1 q.2 with
              | none => none
              | some outs => vx_all (fun o => rec E y M (pc + 3) 0 o.1 lv (o.2.toList ++ r)) outs) else none
          | none => none
      | .ireturn, [], [a] => vx_end M s (some a) .ireturn
      | .lreturn, [], [a] => vx_end M s (some a) .lreturn
      | .areturn, [], [a] => vx_end M s (some a) .areturn
      | .return_, [], [] => vx_end M s none .return_
      | i, pr, st => match vx_step md y M.2.2.1 i pr pc s lv st with
        | some L => vx_all (fun u => rec E y M u.2.1 0 u.1 u.2.2.1 u.2.2.2) L
        | none => none
def vx (C : TR MR) (T : TT) (U : UT) (Hn : HT) (md : MD) : Nat → RC
  | 0, _, _, _, _, _, _, _, _ => none
  | f + 1, E, y, M, pc, fl, s, lv, st => match (bif Nat.beq fl 0 then vx_lk2 y pc U else none) with
    | some A => (match st with
      | [] => vx_alts (vx C T U Hn md f) E y M pc s lv 0 A
      | _ => none)
    | none => match (bif Nat.blt fl 2 then vx_lk2 y pc Hn else none) with
      | some hh => (match vx_hx hh s lv st with
        | none => none
        | some l => vx_all (fun s' => vx C T U Hn md f E y M pc 2 s' lv st) l)
      | none => vx_ins2 (vx C T U Hn md f) C T md E y M pc s lv st
section VXX
variable {D : ft_G} {κ : Nat → Nat × Nat} {n : Nat} {md : MD} {h0 : ft_H}
/-- the loops that are under way -/
def EOk (D : ft_G) (κ : Nat → Nat × Nat) (n : Nat) (md : MD) (h0 : ft_H) (y uc us : Nat) (Q : Option Value → ft_H → Prop) (E : List LPv) (s : VS) (ρ : Nat → Int) (τ : Nat → Nat) : Prop := ∀ L ∈ E, vx_lt (vs_n (lp_s L)) (lp_q L) ∧ lp_n L ≤ vs_n (lp_s L) ∧ vs_n (lp_s L) ≤ vs_n s ∧ vs_r (lp_s L) ≤ vs_r s ∧ (y = 0 → 0 < lp_n L) ∧ ∀ ρ'' τ'' h'', vx_agr (lp_n L) ρ ρ'' → vx_agr (vs_r (lp_s L)) τ τ'' → VG D κ n md h0 y h'' ρ'' τ'' (lp_s L) (lp_v L) [] → vx_ev ρ'' (lp_q L) < vx_ev ρ (lp_q L) → sm D y (lp_pc L) (vx_dL D ρ'' τ'' (lp_v L)) [] h'' uc us Q
theorem EOk.on {y uc us : Nat} {Q : Option Value → ft_H → Prop} {E : List LPv} {s s' : VS} {ρ ρ' : Nat → Int} {τ τ' : Nat → Nat} (e : EOk D κ n md h0 y uc us Q E s ρ τ) (a : vx_agr (vs_n s) ρ ρ') (b : vx_agr (vs_r s) τ τ') (hn : vs_n s ≤ vs_n s') (hr : vs_r s ≤ vs_r s') : EOk D κ n md h0 y uc us Q E s' ρ' τ' := fun L hL => by
  obtain ⟨e1, e2, e3, e4, e5, e6⟩ := e L hL
  refine ⟨e1, e2, by omega, by omega, e5, fun ρ'' τ'' h'' a1 b1 G m => ?_⟩
  refine e6 ρ'' τ'' h'' ((a.mono (by omega)).trans a1 (Nat.le_refl _)) ((b.mono e4).trans b1 (Nat.le_refl _)) G ?_
  rw [vx_ev_agr a (e1.mono e3)] at m
  exact m
theorem QOv.on {s s' : VS} {ρ ρ' : Nat → Int} {τ τ' : Nat → Nat} {o1 o2 : List OU} (hs : ∀ z ∈ o1, z ∈ o2) (a : vx_agr (vs_n s) ρ ρ') (b : vx_agr (vs_r s) τ τ') (hn : vs_n s ≤ vs_n s') (hr : vs_r s ≤ vs_r s') {v : Option Value} {h' : ft_H} (q : QOv D κ n md h0 (vs_n s') (vs_r s') ρ' τ' o1 v h') : QOv D κ n md h0 (vs_n s) (vs_r s) ρ τ o2 v h' := by
  obtain ⟨o, m, ρ2, τ2, q1, q2, q3, q4, q5, q6, q7, q8, q9⟩ := q
  exact ⟨o, hs o m, ρ2, τ2, a.trans q1 hn, b.trans q2 hr, q3, q4, q5, q6, q7, Nat.le_trans hn q8, Nat.le_trans hr q9⟩
/-- what is asked of the walk with less fuel -/
def ROk (D : ft_G) (κ : Nat → Nat × Nat) (n : Nat) (md : MD) (h0 : ft_H) (rec : RC) : Prop := ∀ (E : List LPv) (y : Nat) (M : MR) (pc fl : Nat) (s : VS) (lv : LV) (st : List AV) (outs : List OU), rec E y M pc fl s lv st = some outs → MOK y M → ∀ (uc us : Nat) (ρ : Nat → Int) (τ : Nat → Nat) (h : ft_H) (Q : Option Value → ft_H → Prop), (uc ≤ ft_mc y ∧ us ≤ ft_mz y) → (∀ v h', QOv D κ n md h0 (vs_n s) (vs_r s) ρ τ outs v h' → Q v h') → VG D κ n md h0 y h ρ τ s lv st → EOk D κ n md h0 y uc us Q E s ρ τ → sm D y pc (vx_dL D ρ τ lv) (vx_dS D ρ τ st) h uc us Q
theorem vx_all_in {α : Type} {g : α → Option (List OU)} : ∀ {l : List α} {outs : List OU}, vx_all g l = some outs → ∀ u ∈ l, ∃ o, g u = some o ∧ ∀ z ∈ o, z ∈ outs
  | [], _, _, u, hu => by cases hu
  | a :: l, outs, e, u, hu => by
    unfold vx_all at e
    split at e
    · cases e
    · rename_i x hx
      split at e
      · cases e
      · rename_i w hw
        cases e
        rcases List.mem_cons.mp hu with q | q
        · rw [q]; exact ⟨x, hx, fun z hz => List.mem_append.mpr (Or.inl hz)⟩
        · obtain ⟨o, o1, o2⟩ := vx_all_in hw u q
          exact ⟨o, o1, fun z hz => List.mem_append.mpr (Or.inr (o2 z hz))⟩
theorem vx_hx_ok {h : ft_H} {ρ : Nat → Int} {τ : Nat → Nat} {s : VS} {lv : LV} {st : List AV} (V : VOk D κ h ρ τ s) (a1 : vx_altL (vs_n s) (vs_r s) lv) (a2 : vx_altS (vs_n s) (vs_r s) st) {hh : HI} {l : List VS} (e : vx_hx hh s lv st = some l) : ∃ s' ∈ l, VOk D κ h ρ τ s' ∧ vs_n s' = vs_n s ∧ vs_r s' = vs_r s := by
  unfold vx_hx at e
  cases hb0 : Nat.beq hh.1 0
  · rw [hb0] at e
    simp only [cond_false] at e
    cases hb1 : Nat.beq hh.1 1
    · rw [hb1] at e
      simp only [cond_false] at e
      split at e
      · split at e
        · rename_i s' hs'
          cases e
          obtain ⟨w1, w2, w3⟩ := vx_wfh_ok V a1 hs'
          exact ⟨s', List.mem_singleton.mpr rfl, w1, w2, w3⟩
        · cases e
      · cases e
    · rw [hb1] at e
      simp only [cond_true] at e
      split at e
      · rename_i v hv
        cases e
        exact vx_cs2_ok V (a2 v (List.mem_of_getElem? hv)).1
      · cases e
  · rw [hb0] at e
    simp only [cond_true] at e
    split at e
    · rename_i v hv
      cases e
      exact vx_cs2_ok V (a1 _ (ft_lk_mem hv)).1
    · cases e
theorem vx_lf_in {pc i : Nat} {L : LPv} : ∀ {E : List LPv}, vx_lf pc i E = some L → L ∈ E ∧ lp_pc L = pc
  | [], e => by cases e
  | K :: r, e => by
    unfold vx_lf at e
    cases hb : (Nat.beq (lp_pc K) pc && Nat.beq (lp_i K) i)
    · rw [hb] at e
      obtain ⟨q1, q2⟩ := vx_lf_in e
      exact ⟨List.mem_cons_of_mem _ q1, q2⟩
    · rw [hb] at e
      cases e
      rw [Bool.and_eq_true] at hb
      exact ⟨List.mem_cons_self, Nat.eq_of_beq_eq_true hb.1⟩
/-- a loop's head again -/
theorem vx_bk_ok {y uc us : Nat} {Q : Option Value → ft_H → Prop} {h : ft_H} {ρ : Nat → Int} {τ : Nat → Nat} {s : VS} {lv : LV} {E : List LPv} (G : VG D κ n md h0 y h ρ τ s lv []) (hE : EOk D κ n md h0 y uc us Q E s ρ τ) {L : LPv} (hL : L ∈ E) (e : vx_bk L s lv = true) : sm D y (lp_pc L) (vx_dL D ρ τ lv) [] h uc us Q := by
  unfold vx_bk at e
  split at e
  · cases e
  · rename_i a ha
    split at e
    · cases e
    · rename_i b hb
      rw [Bool.and_eq_true] at e
      obtain ⟨ρ1, on1, G1, m1⟩ := vx_vh_ok G ha
      obtain ⟨ρ2, τ2, on2⟩ := vx_vi_ok on1.2.2.1 G.2.1 G1.2.2.2.1 hb
      have G2 : VG D κ n md h0 y h ρ2 τ2 b.1 a.2.1 [] := ⟨on2.2.2.1, G.2.1, G.2.2.1, G1.2.2.2.1.mono on2.2.2.2.1 on2.2.2.2.2, fun v hv => (by cases hv), vx_scr G1.2.2.2.2.2 on2.1 on2.2.2.2.1⟩
      have E2 := hE.on (on1.trans on2).1 (on1.trans on2).2.1 (on1.trans on2).2.2.2.1 (on1.trans on2).2.2.2.2
      obtain ⟨l1, l2, l3, l4, l5, l6⟩ := E2 L hL
      obtain ⟨c1, c2, c3, c4, c5, c6, c7, c8⟩ := vx_ent_ok G2 l5 e.1
      have d := G2.1.ge (vx_k_lt (vx_sub_lt (l1.mono l3) (vx_put_lt (fun q _ => vx_sg_lt c8 q.1)))) e.2
      rw [vx_k_ev, vx_sub_ev, vx_put_ev, vx_m1] at d
      have d' : 0 ≤ vx_ev ρ2 (lp_q L) - vx_ev (vx_rg ρ2 (vx_mkg (lp_n L) (a.2.2 ++ b.2))) (lp_q L) + -1 := d
      have k := l6 _ _ h c1 c2 c3 (by omega)
      refine sm_weak (fun z hz => ?_) k
      have z1 := c4 z hz
      rw [vx_dL_agr on2.1 on2.2.1 G1.2.2.2.1] at z1
      exact m1 z z1
/-- a loop's head for the first time -/
theorem vx_alts_ok {rec : RC} (hR : ROk D κ n md h0 rec) {y uc us : Nat} (hu : uc ≤ ft_mc y ∧ us ≤ ft_mz y) {M : MR} (hM : MOK y M) {Q : Option Value → ft_H → Prop} {h : ft_H} {ρ : Nat → Int} {τ : Nat → Nat} {s : VS} {lv : LV} {E : List LPv} {pc : Nat} (G : VG D κ n md h0 y h ρ τ s lv []) (hE : EOk D κ n md h0 y uc us Q E s ρ τ) : ∀ {l : List CU} {i : Nat} {outs : List OU}, vx_alts rec E y M pc s lv i l = some outs → (∀ v h', QOv D κ n md h0 (vs_n s) (vs_r s) ρ τ outs v h' → Q v h') → sm D y pc (vx_dL D ρ τ lv) [] h uc us Q
  | [], i, outs, e, _ => by cases e
  | A :: r, i, outs, e, hQ => by
    unfold vx_alts at e
    split at e
    · rename_i L hL
      obtain ⟨q1, q2⟩ := vx_lf_in hL
      cases hb : vx_bk L s lv
      · rw [hb] at e
        exact vx_alts_ok hR hu hM G hE e hQ
      · have := vx_bk_ok G hE q1 hb
        rw [q2] at this
        exact this
    · split at e
      · exact vx_alts_ok hR hu hM G hE e hQ
      · rename_i q hq
        cases hb : (vx_ent q.2.2.2 q.1 q.2.1 q.2.2.1 && (vx_g (lp_s q.2.2.2) (lp_q q.2.2.2) && (Nat.ble (vs_n q.1) (lp_n q.2.2.2) && (Nat.beq (lp_pc q.2.2.2) pc && Nat.ble (vs_r q.1) (vs_r (lp_s q.2.2.2))))))
        · rw [hb] at e
          exact vx_alts_ok hR hu hM G hE e hQ
        · rw [hb] at e
          simp only [cond_true] at e
          rw [Bool.and_eq_true, Bool.and_eq_true, Bool.and_eq_true, Bool.and_eq_true] at hb
          obtain ⟨b1, b2, b3, b4, b5⟩ := hb
          have n3 := Nat.le_of_ble_eq_true b3
          have n5 := Nat.le_of_ble_eq_true b5
          have hpc := Nat.eq_of_beq_eq_true b4
          -- the way from s to the state that is looked at
          have way : ∃ ρ2 τ2, vx_on D κ h ρ τ s q.1 ρ2 τ2 ∧ VG D κ n md h0 y h ρ2 τ2 q.1 q.2.1 [] ∧ ∀ z ∈ vx_dL D ρ2 τ2 q.2.1, z ∈ vx_dL D ρ τ lv := by
            unfold vx_arr at hq
            split at hq
            · cases hq
            · rename_i a ha
              split at hq
              · cases hq
              · rename_i b hbb
                split at hq
                · cases hq
                · rename_i c hc
                  simp only [] at hq
                  split at hq
                  · cases hq
                  · split at hq
                    · cases hq
                    · cases hq
                      obtain ⟨ρ0, τ0, on0⟩ := vx_ri_ok G.1 G.2.1 ha
                      have G0 : VG D κ n md h0 y h ρ0 τ0 a.1 lv [] := ⟨on0.2.2.1, G.2.1, G.2.2.1, G.2.2.2.1.mono on0.2.2.2.1 on0.2.2.2.2, fun v hv => (by cases hv), vx_scr G.2.2.2.2.2 on0.1 on0.2.2.2.1⟩
                      obtain ⟨ρ1, on1, G1, m1⟩ := vx_vh_ok G0 hbb
                      obtain ⟨ρ2, τ2, on2⟩ := vx_vi_ok on1.2.2.1 G.2.1 G1.2.2.2.1 hc
                      have G2 : VG D κ n md h0 y h ρ2 τ2 c.1 b.2.1 [] := ⟨on2.2.2.1, G.2.1, G.2.2.1, G1.2.2.2.1.mono on2.2.2.2.1 on2.2.2.2.2, fun v hv => (by cases hv), vx_scr G1.2.2.2.2.2 on2.1 on2.2.2.2.1⟩
                      refine ⟨ρ2, τ2, (on0.trans on1).trans on2, G2, fun z hz => ?_⟩
                      have z1 : z ∈ vx_dL D ρ2 τ2 b.2.1 := hz
                      rw [vx_dL_agr on2.1 on2.2.1 G1.2.2.2.1] at z1
                      have z2 := m1 z z1
                      rw [vx_dL_agr on0.1 on0.2.1 G.2.2.2.1] at z2
                      exact z2
          obtain ⟨ρ2, τ2, on, G2, mm⟩ := way
          have hy : y = 0 → 0 < lp_n q.2.2.2 := fun z => by
            have := (G2.2.2.2.2.2 z).1
            omega
          obtain ⟨c1, c2, c3, c4, c5, c6, c7, c8⟩ := vx_ent_ok G2 hy b1
          have E2 := hE.on on.1 on.2.1 on.2.2.2.1 on.2.2.2.2
          -- all numbers that the head allows
          have key : ∀ (N : Nat) (ρ'' : Nat → Int) (τ'' : Nat → Nat) (h'' : ft_H), vx_agr (lp_n q.2.2.2) ρ2 ρ'' → vx_agr (vs_r (lp_s q.2.2.2)) τ2 τ'' → VG D κ n md h0 y h'' ρ'' τ'' (lp_s q.2.2.2) (lp_v q.2.2.2) [] → (vx_ev ρ'' (lp_q q.2.2.2)).toNat < N → sm D y pc (vx_dL D ρ'' τ'' (lp_v q.2.2.2)) [] h'' uc us Q := by
            intro N
            induction N with
            | zero => intro ρ'' τ'' h'' _ _ _ hz; omega
            | succ N ih =>
              intro ρ'' τ'' h'' a1 a2 G3 hz
              refine hR _ y M pc 1 _ _ [] outs e hM uc us ρ'' τ'' h'' Q hu (fun v h' hv => hQ v h' ?_) G3 ?_
              · refine QOv.on (fun z hz => hz) ?_ ?_ ?_ ?_ hv
                · exact on.1.trans (a1.mono n3) on.2.2.2.1
                · exact on.2.1.trans (a2.mono n5) on.2.2.2.2
                · exact Nat.le_trans on.2.2.2.1 (Nat.le_trans n3 c6)
                · exact Nat.le_trans on.2.2.2.2 n5
              · intro L hL
                rcases List.mem_cons.mp hL with w | w
                · rw [w]
                  refine ⟨c5, c6, Nat.le_refl _, Nat.le_refl _, hy, fun ρ3 τ3 h3 x1 x2 x3 x4 => ?_⟩
                  rw [hpc]
                  have p1 := x3.1.ge c5 b2
                  exact ih ρ3 τ3 h3 (a1.trans x1 (Nat.le_refl _)) (a2.trans x2 (Nat.le_refl _)) x3 (by omega)
                · exact (E2.on (s' := lp_s q.2.2.2) (a1.mono n3) (a2.mono n5) (Nat.le_trans n3 c6) n5) L w
          exact sm_weak (fun z hz => mm z (c4 z hz)) (key _ _ _ h c1 c2 c3 (Nat.lt_succ_self _))
end VXX
