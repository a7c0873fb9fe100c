section VXY
variable {D : ft_G} {κ : Nat → Nat × Nat} {n : Nat} {md : MD} {h0 : ft_H}
theorem vx_popn_ok : ∀ {n : Nat} {st acc as r : List AV}, vx_popn n st acc = some (as, r) → as.reverse ++ r = acc.reverse ++ st ∧ as.length = acc.length + n
  | 0, st, acc, as, r, h => by cases h; exact ⟨rfl, rfl⟩
  | n + 1, [], acc, as, r, h => by cases h
  | n + 1, a :: st, acc, as, r, h => by
    obtain ⟨h1, h2⟩ := vx_popn_ok (n := n) (st := st) (acc := a :: acc) h
    refine ⟨?_, ?_⟩
    · rw [h1, List.reverse_cons, List.append_assoc]; rfl
    · rw [h2, List.length_cons]; omega
theorem vx_al_ok {ρ : Nat → Int} {τ : Nat → Nat} : ∀ (k : Nat) (as : List AV), vx_dL D ρ τ (vx_al k as) = lv_args k (vx_dS D ρ τ as)
  | _, [] => by unfold vx_al lv_args; rfl
  | k, a :: r => by
    show (k, vx_d D ρ τ a) :: vx_dL D ρ τ (vx_al (k + vx_cat a) r) = (k, vx_d D ρ τ a) :: lv_args (if (vx_d D ρ τ a).category = 2 then k + 2 else k + 1) (vx_dS D ρ τ r)
    rw [vx_al_ok, vx_d_cat]
    have : vx_cat a = 1 ∨ vx_cat a = 2 := by
      unfold vx_cat; cases Nat.beq a.1 1
      · exact Or.inl rfl
      · exact Or.inr rfl
    rcases this with e | e <;> rw [e] <;> rfl
theorem vx_al_alt {m r : Nat} : ∀ {k : Nat} {as : List AV}, vx_altS m r as → vx_altL m r (vx_al k as)
  | _, [], _, q, hq => by cases hq
  | k, a :: l, h, q, hq => by
    rcases List.mem_cons.mp hq with e | e
    · rw [e]; exact h a List.mem_cons_self
    · exact vx_al_alt (fun z hz => h z (List.mem_cons_of_mem _ hz)) q e
theorem vx_sl_len {ρ : Nat → Int} {τ : Nat → Nat} : ∀ as : List AV, (lg_sl (vx_dS D ρ τ as)).length = (as.map vx_cat).sum
  | [] => rfl
  | a :: r => by
    have ih := vx_sl_len (ρ := ρ) (τ := τ) r
    unfold lg_sl at ih ⊢
    show (List.flatMap _ ((vx_d D ρ τ a) :: vx_dS D ρ τ r)).length = _
    rw [List.flatMap_cons, List.length_append, ih, List.map_cons, List.sum_cons]
    congr 1
    rw [vx_d_cat]
    have : vx_cat a = 1 ∨ vx_cat a = 2 := by
      unfold vx_cat; cases Nat.beq a.1 1
      · exact Or.inl rfl
      · exact Or.inr rfl
    rcases this with e | e <;> rw [e] <;> rfl
theorem vx_cat_sum {ρ : Nat → Int} {τ : Nat → Nat} (r : List AV) : ((vx_dS D ρ τ r).map fun v => v.category).sum = (r.map vx_cat).sum := by
  rw [List.map_map]
  congr 1
  refine List.map_congr_left (fun v _ => ?_)
  show (vx_d D ρ τ v).category = _
  exact vx_d_cat v
theorem vx_nmA_ok {h : ft_H} {τ : Nat → Nat} : ∀ {as : List AV} {s : VS} {ρ : Nat → Int}, VOk D κ h ρ τ s → vx_altS (vs_n s) (vs_r s) as → ∀ {q : VS × List AV}, vx_nmA as s = some q → ∃ ρ', vx_on D κ h ρ τ s q.1 ρ' τ ∧ vx_altS (vs_n q.1) (vs_r q.1) q.2 ∧ vx_dS D ρ' τ q.2 = vx_dS D ρ τ as ∧ q.2.length = as.length
  | [], s, ρ, V, _, q, e => by
    cases e
    exact ⟨ρ, V.on, fun v hv => (by cases hv), rfl, rfl⟩
  | a :: r, s, ρ, V, ha, q, e => by
    unfold vx_nmA at e
    split at e
    · cases e
    · rename_i w hw
      split at e
      · cases e
      · rename_i x hx
        cases e
        obtain ⟨ρ1, o1, a1, d1, -, -⟩ := vx_norm_ok V (ha a List.mem_cons_self) (s' := w.1) (w := w.2) hw
        have hr : vx_altS (vs_n s) (vs_r s) r := fun z hz => ha z (List.mem_cons_of_mem _ hz)
        obtain ⟨ρ2, o2, a2, d2, l2⟩ := vx_nmA_ok o1.2.2.1 (hr.mono o1.2.2.2.1 o1.2.2.2.2) hx
        refine ⟨ρ2, o1.trans o2, vx_altS_c (a1.mono o2.2.2.2.1 o2.2.2.2.2) a2, ?_, by rw [List.length_cons, List.length_cons, l2]⟩
        show vx_d D ρ2 τ w.2 :: vx_dS D ρ2 τ x.2 = vx_d D ρ τ a :: vx_dS D ρ τ r
        rw [vx_d_agr a1 o2.1 o2.2.1, d1, d2, vx_dS_agr o1.1 o1.2.1 hr]
theorem vx_retV_ok {h : ft_H} {ρ : Nat → Int} {τ : Nat → Nat} {s : VS} (V : VOk D κ h ρ τ s) {ty : Option FieldType} {v : Option AV} {i : Instr} (hv : ∀ a, v = some a → vx_alt (vs_n s) (vs_r s) a) (e : vx_retV s ty v i = true) : ft_ret ty (v.map (vx_d D ρ τ)) i := by
  unfold vx_retV at e
  split at e
  · trivial
  · rename_i a; show ft_ret _ (some (vx_d D ρ τ a)) _; rw [vx_d0 (Nat.eq_of_beq_eq_true e)]; trivial
  · rename_i a
    show ft_ret _ (some (vx_d D ρ τ a)) _
    have hF := (vx_fitV_ok (D := D) V (hv a rfl) e).1
    obtain ⟨x, hx⟩ := vx_z0 (D := D) (ρ := ρ) (τ := τ) e
    rw [hx] at hF ⊢
    exact hF
  · rename_i a; show ft_ret _ (some (vx_d D ρ τ a)) _; rw [vx_d1 (Nat.eq_of_beq_eq_true e)]; trivial
  · rename_i a; show ft_ret _ (some (vx_d D ρ τ a)) _
    rcases vx_dR (D := D) (ρ := ρ) (τ := τ) e with ⟨q, e1⟩ | e1 <;> rw [e1] <;> trivial
  · cases e
theorem vx_end_ok {y uc us : Nat} (hu : uc ≤ ft_mc y ∧ us ≤ ft_mz y) {M : MR} (hM : MOK y M) {Q : Option Value → ft_H → Prop} {h : ft_H} {ρ : Nat → Int} {τ : Nat → Nat} {s : VS} {lv : LV} {v : Option AV} {st : List AV} (hst : st = v.toList) {pc nn : Nat} {i : Instr} (hi : ft_len i nn = 1) (hk : ft_lk pc (ft_c y) = some (i, nn, [])) (G : VG D κ n md h0 y h ρ τ s lv st) {outs : List OU} (e : vx_end M s v i = some outs) (hQ : ∀ v h', QOv D κ n md h0 (vs_n s) (vs_r s) ρ τ outs v h' → Q v h') : sm D y pc (vx_dL D ρ τ lv) (vx_dS D ρ τ st) h uc us Q := by
  unfold vx_end at e
  have hv : ∀ a, v = some a → vx_alt (vs_n s) (vs_r s) a := fun a ha => G.2.2.2.2.1 a (by rw [hst, ha]; exact List.mem_singleton.mpr rfl)
  cases hb : vx_retV s M.2.2.2.2.2.2 v i
  · rw [hb] at e; cases e
  · rw [hb] at e
    cases e
    have es : vx_dS D ρ τ st = (v.map (vx_d D ρ τ)).toList := by
      rw [hst]; cases v <;> rfl
    rw [es]
    refine r_ret hM.1 (ax_len hM.1 hk hi) ?_ hu.1 hu.2 (hQ _ _ ⟨_, List.mem_singleton.mpr rfl, ρ, τ, vx_agr.refl, vx_agr.refl, G.1, G.2.1, G.2.2.1, rfl, hv, Nat.le_refl _, Nat.le_refl _⟩)
    rw [hM.2.2.2.2.2.2.2.1]
    exact vx_retV_ok G.1 hv hb
theorem vx_ct1_ok {T : TT} (hT : ∀ q ∈ T, CV D κ n q.1 q.2) {h : ft_H} {ρ : Nat → Int} {τ : Nat → Nat} {s : VS} {as : List AV} {z : Nat} (V : VOk D κ h ρ τ s) (I : vx_I D κ n h) (Fr : vx_fr κ md h0 h) (ha : vx_altS (vs_n s) (vs_r s) as) : ∀ {l : TT}, (∀ q ∈ l, q ∈ T) → ∀ {outs : List OU}, vx_ct1 md s z as l = some outs → sm D z 0 (lv_args 0 (vx_dS D ρ τ as)) [] h 0 0 (QOv D κ n md h0 (vs_n s) (vs_r s) ρ τ outs)
  | [], _, outs, e => by cases e
  | q :: r, hl, outs, e => by
    unfold vx_ct1 at e
    cases hb : Nat.beq q.1 z
    · rw [hb] at e
      exact vx_ct1_ok hT V I Fr ha (fun w hw => hl w (List.mem_cons_of_mem _ hw)) e
    · rw [hb] at e
      simp only [cond_true] at e
      split at e
      · rename_i o ho
        cases e
        have hz := Nat.eq_of_beq_eq_true hb
        have hC := hT q (hl q List.mem_cons_self)
        rw [hz] at hC
        exact vx_ctc_ok hC V I Fr ha ho
      · exact vx_ct1_ok hT V I Fr ha (fun w hw => hl w (List.mem_cons_of_mem _ hw)) e
theorem vx_cee_ok {rec : RC} (hR : ROk D κ n md h0 rec) {T : TT} (hT : ∀ q ∈ T, CV D κ n q.1 q.2) {h : ft_H} {ρ : Nat → Int} {τ : Nat → Nat} {s : VS} {as : List AV} {z : Nat} {N : MR} (hN : MOK z N) (V : VOk D κ h ρ τ s) (I : vx_I D κ n h) (Fr : vx_fr κ md h0 h) (ha : vx_altS (vs_n s) (vs_r s) as) {outs : List OU} (e : vx_cee rec T md z N s as = some outs) : sm D z 0 (lv_args 0 (vx_dS D ρ τ as)) [] h 0 0 (QOv D κ n md h0 (vs_n s) (vs_r s) ρ τ outs) := by
  unfold vx_cee at e
  cases hb : T.any (fun q => Nat.beq q.1 z)
  · rw [hb] at e
    simp only [cond_false] at e
    cases hz : Nat.blt 0 z
    · rw [hz] at e; cases e
    · rw [hz] at e
      have z0 := blt_lt hz
      have k := hR [] z N 0 0 s (vx_al 0 as) [] outs e hN 0 0 ρ τ h (QOv D κ n md h0 (vs_n s) (vs_r s) ρ τ outs) ⟨Nat.zero_le _, Nat.zero_le _⟩ (fun v h' q => q) ⟨V, I, Fr, vx_al_alt ha, fun v hv => (by cases hv), fun q => by omega⟩ (fun L hL => by cases hL)
      rw [vx_al_ok] at k
      exact k
  · rw [hb] at e
    exact vx_ct1_ok hT V I Fr ha (fun w hw => hw) e
theorem vx_optL {ρ : Nat → Int} {τ : Nat → Nat} (v : Option AV) (r : List AV) : vx_dS D ρ τ (v.toList ++ r) = (v.map (vx_d D ρ τ)).toList ++ vx_dS D ρ τ r := by
  cases v <;> rfl
/-- behind a call -/
theorem vx_aft {rec : RC} (hR : ROk D κ n md h0 rec) {y uc us : Nat} (hu : uc ≤ ft_mc y ∧ us ≤ ft_mz y) {M : MR} (hM : MOK y M) {Q : Option Value → ft_H → Prop} {h : ft_H} {ρ ρ1 : Nat → Int} {τ : Nat → Nat} {s s1 : VS} {lv : LV} {st r : List AV} {E : List LPv} {pc : Nat} (G : VG D κ n md h0 y h ρ τ s lv st) (hr : ∀ z ∈ r, z ∈ st) (on : vx_on D κ h ρ τ s s1 ρ1 τ) (hE : EOk D κ n md h0 y uc us Q E s ρ τ) {outs os : List OU} (e : vx_all (fun o => rec E y M pc 0 o.1 lv (o.2.toList ++ r)) os = some outs) (hQ : ∀ v h', QOv D κ n md h0 (vs_n s) (vs_r s) ρ τ outs v h' → Q v h')
    {v : Option Value} {h' : ft_H} (q : QOv D κ n md h0 (vs_n s1) (vs_r s1) ρ1 τ os v h') : sm D y pc (vx_dL D ρ τ lv) (v.toList ++ vx_dS D ρ τ r) h' uc us Q := by
  obtain ⟨o, m, ρ2, τ2, q1, q2, q3, q4, q5, q6, q7, q8, q9⟩ := q
  obtain ⟨x, x1, x2⟩ := vx_all_in e o m
  have a1 : vx_agr (vs_n s) ρ ρ2 := on.1.trans q1 on.2.2.2.1
  have a2 : vx_agr (vs_r s) τ τ2 := on.2.1.trans q2 on.2.2.2.2
  have n1 : vs_n s ≤ vs_n o.1 := Nat.le_trans on.2.2.2.1 q8
  have n2 : vs_r s ≤ vs_r o.1 := Nat.le_trans on.2.2.2.2 q9
  have hr' : vx_altS (vs_n s) (vs_r s) r := fun z hz => G.2.2.2.2.1 z (hr z hz)
  have k := hR E y M pc 0 o.1 lv (o.2.toList ++ r) x x1 hM uc us ρ2 τ2 h' Q hu (fun w h2 z => hQ w h2 (QOv.on x2 a1 a2 n1 n2 z)) ⟨q3, q4, q5, G.2.2.2.1.mono n1 n2, fun z hz => by
    rcases List.mem_append.mp hz with w | w
    · cases ho : o.2 with
      | none => rw [ho] at w; cases w
      | some a =>
        rw [ho] at w
        rw [List.mem_singleton.mp w]
        exact q7 a ho
    · exact (hr' z w).mono n1 n2, vx_scr G.2.2.2.2.2 a1 n1⟩ (hE.on a1 a2 n1 n2)
  rw [vx_optL, ← q6, vx_dL_agr a1 a2 G.2.2.2.1, vx_dS_agr a1 a2 hr'] at k
  exact k
set_option maxHeartbeats 4000000 in
theorem vx_ins2_ok {rec : RC} (hR : ROk D κ n md h0 rec) {C : TR MR} (hC : COK C) {T : TT} (hT : ∀ q ∈ T, CV D κ n q.1 q.2) {y uc us : Nat} (hu : uc ≤ ft_mc y ∧ us ≤ ft_mz y) {M : MR} (hM : MOK y M) {Q : Option Value → ft_H → Prop} {h : ft_H} {ρ : Nat → Int} {τ : Nat → Nat} {s : VS} {lv : LV} {st : List AV} {E : List LPv} {pc : Nat} (G : VG D κ n md h0 y h ρ τ s lv st) (hE : EOk D κ n md h0 y uc us Q E s ρ τ) {outs : List OU} (e : vx_ins2 rec C T md E y M pc s lv st = some outs) (hQ : ∀ v h', QOv D κ n md h0 (vs_n s) (vs_r s) ρ τ outs v h' → Q v h') : sm D y pc (vx_dL D ρ τ lv) (vx_dS D ρ τ st) h uc us Q := by
  have hc := hM.1
  unfold vx_ins2 at e
  split at e
  · cases e
  · rename_i i nn pr hk0
    have hk := hM.2.2.2.2.2.2.2.2 _ _ hk0
    split at e
    · -- invokevirtual
      rename_i ix x0 nest z jl jc ji js je
      split at e
      · cases e
      · rename_i N hN
        obtain ⟨hNM, hNz⟩ := hC z N hN
        split at e
        · rename_i as r hp
          obtain ⟨p1, p2⟩ := vx_popn_ok hp
          have p1' : as.reverse ++ r = st := p1
          split at e
          · cases e
          · rename_i q hq
            have has : vx_altS (vs_n s) (vs_r s) as := fun w hw => G.2.2.2.2.1 w (by rw [← p1']; exact List.mem_append.mpr (Or.inl (List.mem_reverse.mpr hw)))
            obtain ⟨ρ1, on, a1, d1, l1⟩ := vx_nmA_ok G.1 has hq
            split at e
            · cases e
            · rename_i a bs hq2
              cases hb : (vx_cal M N (a :: bs) r && vx_rcv q.1 a N)
              · rw [hb] at e; cases e
              · rw [hb] at e
                simp only [cond_true] at e
                split at e
                · cases e
                · rename_i os hos
                  rw [Bool.and_eq_true] at hb
                  obtain ⟨b1, b2⟩ := hb
                  unfold vx_cal at b1
                  rw [Bool.and_eq_true, Bool.and_eq_true, Bool.and_eq_true] at b1
                  unfold vx_rcv at b2
                  rw [Bool.and_eq_true] at b2
                  have a2 : a.1 = 2 := Nat.eq_of_beq_eq_true b2.1
                  rw [hq2] at a1 d1 l1
                  have ea := vx_d2 (D := D) (ρ := ρ1) (τ := τ) a2
                  cases as with
                  | nil => cases l1
                  | cons a0 as' =>
                    have d2 : vx_d D ρ1 τ a :: vx_dS D ρ1 τ bs = vx_d D ρ τ a0 :: vx_dS D ρ τ as' := d1
                    injection d2 with d3 d4
                    have hb3 := b2.2
                    split at hb3
                    · rename_i k hkk
                      rw [Bool.and_eq_true] at hb3
                      have hkap := (on.2.2.1.2.2.1 _ k hkk).2
                      have kz := vx_cee_ok hR hT hNM on.2.2.1 G.2.1 G.2.2.1 a1 hos
                      have hrr : ∀ w ∈ r, w ∈ st := fun w hw => by rw [← p1']; exact List.mem_append.mpr (Or.inr hw)
                      have hst : vx_dS D ρ τ st = (vx_dS D ρ τ as').reverse ++ .ref (τ a.2.2) :: vx_dS D ρ τ r := by
                        rw [← p1', ← ea, d3]
                        show List.map _ ((a0 :: as').reverse ++ r) = _
                        rw [List.reverse_cons, List.map_append, List.map_append, List.map_reverse, List.append_assoc]
                        rfl
                      rw [hst]
                      have hz0 := hNM.2.2.2.2.1
                      have hz1 := hNM.2.2.2.2.2.1
                      have m0 : ft_mc z = 0 := by rw [hz0]; exact Nat.eq_of_beq_eq_true b1.2.2.1
                      have m1 : ft_mz z = 0 := by rw [hz1]; exact Nat.eq_of_beq_eq_true b1.2.2.2
                      have kz' : sm D z 0 (lv_args 0 (.ref (τ a.2.2) :: vx_dS D ρ τ as')) [] h 0 0 (QOv D κ n md h0 (vs_n q.1) (vs_r q.1) ρ1 τ os) := by
                        have : vx_dS D ρ1 τ (a :: bs) = .ref (τ a.2.2) :: vx_dS D ρ τ as' := by
                          show vx_d D ρ1 τ a :: vx_dS D ρ1 τ bs = _
                          rw [ea, d4]
                        rw [← this]; exact kz
                      refine r_callV hc (ax_len hc hk rfl) hNz ?_ (blt_lt hb3.1) (hNM.2.2.2.2.2.2.1 (blt_lt hb3.1)) ?_ ?_ ?_ (by rw [m0]; exact hu.1) (by rw [m1]; exact hu.2) kz' (fun v h' qv => ?_)
                      · rw [hNM.2.2.1, List.length_map]
                        simp only [List.length_cons, List.length_nil] at p2
                        omega
                      · rw [vx_kap G, hkap]; exact Nat.eq_of_beq_eq_true hb3.2
                      · rw [vx_cat_sum]; exact Nat.le_of_ble_eq_true b1.1
                      · have : (lg_sl (vx_dS D ρ1 τ (a :: bs))).length ≤ ft_nL z := by
                          rw [vx_sl_len, hNM.2.2.2.1]; exact Nat.le_of_ble_eq_true b1.2.1
                        have e3 : vx_dS D ρ1 τ (a :: bs) = .ref (τ a.2.2) :: vx_dS D ρ τ as' := by
                          show vx_d D ρ1 τ a :: vx_dS D ρ1 τ bs = _
                          rw [ea, d4]
                        rw [e3] at this
                        exact this
                      · rw [m0, m1]
                        exact vx_aft hR hu hM G hrr on hE e hQ qv
                    · cases hb3
        · cases e
    · -- invokestatic
      rename_i ix x0 nest z jl jc ji js
      split at e
      · cases e
      · rename_i N hN
        obtain ⟨hNM, hNz⟩ := hC z N hN
        split at e
        · rename_i as r hp
          obtain ⟨p1, p2⟩ := vx_popn_ok hp
          have p1' : as.reverse ++ r = st := p1
          split at e
          · cases e
          · rename_i q hq
            have has : vx_altS (vs_n s) (vs_r s) as := fun w hw => G.2.2.2.2.1 w (by rw [← p1']; exact List.mem_append.mpr (Or.inl (List.mem_reverse.mpr hw)))
            obtain ⟨ρ1, on, a1, d1, l1⟩ := vx_nmA_ok G.1 has hq
            cases hb : vx_cal M N q.2 r
            · rw [hb] at e; cases e
            · rw [hb] at e
              simp only [cond_true] at e
              split at e
              · cases e
              · rename_i os hos
                unfold vx_cal at hb
                rw [Bool.and_eq_true, Bool.and_eq_true, Bool.and_eq_true] at hb
                have kz := vx_cee_ok hR hT hNM on.2.2.1 G.2.1 G.2.2.1 a1 hos
                rw [d1] at kz
                have hrr : ∀ w ∈ r, w ∈ st := fun w hw => by rw [← p1']; exact List.mem_append.mpr (Or.inr hw)
                have hst : vx_dS D ρ τ st = (vx_dS D ρ τ as).reverse ++ vx_dS D ρ τ r := by
                  rw [← p1']
                  show List.map _ (as.reverse ++ r) = _
                  rw [List.map_append, List.map_reverse]
                rw [hst]
                have m0 : ft_mc z = 0 := by rw [hNM.2.2.2.2.1]; exact Nat.eq_of_beq_eq_true hb.2.2.1
                have m1 : ft_mz z = 0 := by rw [hNM.2.2.2.2.2.1]; exact Nat.eq_of_beq_eq_true hb.2.2.2
                refine r_callS hc (ax_len hc hk rfl) hNz ?_ ?_ ?_ (by rw [m0]; exact hu.1) (by rw [m1]; exact hu.2) kz (fun v h' qv => ?_)
                · rw [hNM.2.2.1, List.length_map]
                  simp only [List.length_nil] at p2
                  omega
                · rw [vx_cat_sum]; exact Nat.le_of_ble_eq_true hb.1
                · have : (lg_sl (vx_dS D ρ1 τ q.2)).length ≤ ft_nL z := by
                    rw [vx_sl_len, hNM.2.2.2.1]; exact Nat.le_of_ble_eq_true hb.2.1
                  rw [d1] at this
                  exact this
                · rw [m0, m1]
                  exact vx_aft hR hu hM G hrr on hE e hQ qv
        · cases e
    · rename_i a
      exact vx_end_ok hu hM (v := some a) rfl rfl hk G e hQ
    · rename_i a
      exact vx_end_ok hu hM (v := some a) rfl rfl hk G e hQ
    · rename_i a
      exact vx_end_ok hu hM (v := some a) rfl rfl hk G e hQ
    · exact vx_end_ok hu hM (v := none) rfl rfl hk G e hQ
    · split at e
      · rename_i L hL
        refine vx_step_ok hM.2.2.2.1.symm hc hk G hL (fun u hm => ?_)
        obtain ⟨x, x1, x2⟩ := vx_all_in e u hm
        intro ρ' τ' h' a1 a2 n1 n2 G'
        exact hR E y M u.2.1 0 u.1 u.2.2.1 u.2.2.2 x x1 hM uc us ρ' τ' h' Q hu (fun w h2 z => hQ w h2 (QOv.on x2 a1 a2 n1 n2 z)) G' (hE.on a1 a2 n1 n2)
      · cases e
/-- THE WALK IS SOUND -/
theorem vx_ok {C : TR MR} (hC : COK C) {T : TT} (hT : ∀ q ∈ T, CV D κ n q.1 q.2) {U : UT} {Hn : HT} : ∀ f : Nat, ROk D κ n md h0 (vx C T U Hn md f)
  | 0 => fun E y M pc fl s lv st outs e => by cases e
  | f + 1 => fun E y M pc fl s lv st outs e hM uc us ρ τ h Q hu hQ G hE => by
    have hR := vx_ok hC hT (U := U) (Hn := Hn) f
    unfold vx at e
    split at e
    · split at e
      · exact vx_alts_ok hR hu hM G hE e hQ
      · cases e
    · split at e
      · split at e
        · cases e
        · rename_i l hl
          obtain ⟨s', m, V', n1, r1⟩ := vx_hx_ok G.1 G.2.2.2.1 G.2.2.2.2.1 hl
          obtain ⟨x, x1, x2⟩ := vx_all_in e s' m
          have n1' : vs_n s ≤ vs_n s' := by rw [n1]; exact Nat.le_refl _
          have r1' : vs_r s ≤ vs_r s' := by rw [r1]; exact Nat.le_refl _
          exact hR E y M pc 2 s' lv st x x1 hM uc us ρ τ h Q hu (fun w h2 z => hQ w h2 (QOv.on x2 vx_agr.refl vx_agr.refl n1' r1' z)) ⟨V', G.2.1, G.2.2.1, G.2.2.2.1.mono n1' r1', G.2.2.2.2.1.mono n1' r1', vx_scr G.2.2.2.2.2 vx_agr.refl n1'⟩ (hE.on vx_agr.refl vx_agr.refl n1' r1')
      · exact vx_ins2_ok hR hC hT hu hM G hE e hQ
end VXY
