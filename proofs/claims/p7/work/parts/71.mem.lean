/-! steps that read or change cells -/
def vx_ald (t : Nat → Bool) (s : VS) (pc : Nat) (lv : LV) (st : List AV) : Option (List SU) := match st with
  | ix :: a :: r => bif vx_is0 ix && vx_is2 a then (match tG (vs_K s) a.2.2 with
    | none => none
    | some k => bif t k.1 && (Nat.blt k.2 1000000 && vx_in s ix.2.1 (Int.ofNat 0) (Int.ofNat k.2 + Int.negSucc 0)) then (match vx_read s a.2.2 ix.2.1 with
      | none => none
      | some q => some [(q.1, pc + 1, lv, q.2 :: r)]) else none) else none
  | _ => none
def vx_ast (md : MD) (t : Nat → Bool) (ty : FieldType) (s : VS) (pc : Nat) (lv : LV) (st : List AV) : Option (List SU) := match st with
  | v :: ix :: a :: r => bif vx_is0 ix && vx_is2 a then (match tG (vs_K s) a.2.2 with
    | none => none
    | some k => bif t k.1 && (Nat.blt k.2 1000000 && (vx_in s ix.2.1 (Int.ofNat 0) (Int.ofNat k.2 + Int.negSucc 0) && vx_fitV s ty v)) then (match vx_norm s v with
      | none => none
      | some q => match vx_write md q.1 a.2.2 ix.2.1 q.2 with
        | none => none
        | some s' => some [(s', pc + 1, lv, r)]) else none) else none
  | _ => none
def vx_gf (ci k : Nat) (s : VS) (pc : Nat) (lv : LV) (st : List AV) : Option (List SU) := match st with
  | a :: r => bif vx_is2 a && Nat.blt k 999 then (match tG (vs_K s) a.2.2 with
    | none => none
    | some z => bif Nat.beq z.1 (ci + 1) then (match vx_read s a.2.2 (vx_c (Int.ofNat k)) with
      | none => none
      | some q => some [(q.1, pc + 3, lv, q.2 :: r)]) else none) else none
  | _ => none
def vx_pf (md : MD) (ci k : Nat) (s : VS) (pc : Nat) (lv : LV) (st : List AV) : Option (List SU) := match st with
  | v :: a :: r => bif vx_is2 a && (Nat.blt k 999 && vx_fitV s (ft_ty ci k) v) then (match tG (vs_K s) a.2.2 with
    | none => none
    | some z => bif Nat.beq z.1 (ci + 1) then (match vx_norm s v with
      | none => none
      | some q => match vx_write md q.1 a.2.2 (vx_c (Int.ofNat k)) q.2 with
        | none => none
        | some s' => some [(s', pc + 3, lv, r)]) else none) else none
  | _ => none
def vx_aas (md : MD) (ci : Nat) (s : VS) (pc : Nat) (lv : LV) (st : List AV) : Option (List SU) := match st with
  | v :: ix :: a :: r => bif vx_is0 ix && (vx_is2 a && vx_is2 v) then (match tG (vs_K s) a.2.2, tG (vs_K s) v.2.2 with
    | some k, some z => bif Nat.blt ci ft_nc && (kdObj k.1 ci && (Nat.beq z.1 (ci + 1) && (Nat.blt k.2 1000000 && vx_in s ix.2.1 (Int.ofNat 0) (Int.ofNat k.2 + Int.negSucc 0)))) then (match vx_write md s a.2.2 ix.2.1 v with
        | none => none
        | some s' => some [(s', pc + 1, lv, r)]) else none
    | _, _ => none) else none
  | _ => none
def vx_len (y : Nat) (s : VS) (pc : Nat) (lv : LV) (st : List AV) : Option (List SU) := match st with
  | a :: r => bif vx_is2 a then (match tG (vs_K s) a.2.2 with
    | none => none
    | some k => bif kdArr k.1 then some [(s, pc + 1, lv, av_i (vx_c (Int.ofNat k.2)) :: r)] else none) else bif Nat.beq a.1 5 && Nat.beq y 0 then some [(s, pc + 1, lv, av_i (vx_v 0) :: r)] else none
  | _ => none
/-- a static row, the script, or an array of ints -/
def vx_ial (y : Nat) (s : VS) (pc : Nat) (lv : LV) (st : List AV) : Option (List SU) := match st with
  | ix :: a :: r => bif Nat.beq a.1 4 then (bif vx_is0 ix && (Nat.blt a.2.2 3 && vx_in s ix.2.1 (Int.ofNat 0) (Int.ofNat 3)) then (match ix.2.1 with
      | (.ofNat j, []) => some [(s, pc + 1, lv, av_i (vx_c (Int.ofNat (svN a.2.2 j))) :: r)]
      | _ => match vx_new s (Int.ofNat 0) (Int.ofNat 255) with
        | none => none
        | some q => some [(q.1, pc + 1, lv, av_i q.2 :: r)]) else none)
    else bif Nat.beq a.1 5 then (bif vx_is0 ix && (Nat.beq y 0 && (vx_g s ix.2.1 && (vx_g s (vx_k (vx_sub (vx_v 0) ix.2.1) (Int.negSucc 0)) && Nat.blt 0 (vs_r s)))) then (match vx_find 0 ix.2.1 (vs_M s) with
      | some v => some [(s, pc + 1, lv, v :: r)]
      | none => match vx_new s fI.1 fI.2 with
        | none => none
        | some q => some [(vx_mem q.1 (0, ix.2.1, av_i q.2), pc + 1, lv, av_i q.2 :: r)]) else none)
    else vx_ald (fun c => kdIs c .int) s pc lv st
  | _ => none
section VXM
variable {D : ft_G} {κ : Nat → Nat × Nat} {n : Nat} {md : MD} {h0 : ft_H} {y uc us : Nat} {Q : Option Value → ft_H → Prop} {h : ft_H} {ρ : Nat → Int} {τ : Nat → Nat} {s : VS} {lv : LV} {st : List AV}
theorem vx_idx {x : Int} {m : Nat} (hm : m < 1000000) (h1 : Int.ofNat 0 ≤ x) (h2 : x ≤ Int.ofNat m + Int.negSucc 0) : (Int32.ofInt x).toNatClampNeg = x.toNat ∧ vp_in (Int32.ofInt x) m ∧ x < 1000000 ∧ 0 ≤ x := by
  have h1' : 0 ≤ x := h1
  have h2' : x ≤ (m : Int) + -1 := h2
  have e : Int32.ofInt x = nI x.toNat := by
    rw [show x = ((x.toNat : Nat) : Int) from by omega]
    simp only [Int.toNat_natCast]
    exact Int32.ofInt_eq_ofNat
  refine ⟨?_, ?_, by omega, h1'⟩
  · rw [e, clampE (by omega)]
  · rw [e]; exact vpE (by omega) (by omega)
theorem vx_kap (G : VG D κ n md h0 y h ρ τ s lv st) : h.2.1 = κ := by
  have := G.2.1.1
  rw [this]
theorem vx_ald_ok {i : Instr} {pr : List Nat} {pc nn : Nat} {t : Nat → Bool} (hc : ft_chk y = true) (hk : ft_lk pc (ft_c y) = some (i, nn, pr)) (G : VG D κ n md h0 y h ρ τ s lv st) {L : List SU} (e : vx_ald t s pc lv st = some L)
    (hG : ∀ (a : Nat) (j : Int32) (v : Value) (r : List Value), t (h.2.1 a).1 = true → vp_in j (h.2.1 a).2 → h.1 a j.toNatClampNeg = v → ∃ gs, ft_e D y i pr pc (vx_dL D ρ τ lv) (.int j :: .ref a :: r) h [v] = some (gs, pc + 1, vx_dL D ρ τ lv, v :: r, h, []) ∧ ft_all gs)
    (K : ∀ u ∈ L, VK D κ n md h0 y uc us Q s ρ τ u) : sm D y pc (vx_dL D ρ τ lv) (vx_dS D ρ τ st) h uc us Q := by
  unfold vx_ald at e
  split at e
  · rename_i ix a r
    cases hb : (vx_is0 ix && vx_is2 a)
    · rw [hb] at e; cases e
    · rw [hb] at e
      simp only [cond_true] at e
      rw [Bool.and_eq_true] at hb
      have ai := G.2.2.2.2.1 ix List.mem_cons_self
      split at e
      · cases e
      · rename_i k hkk
        cases hb2 : (t k.1 && (Nat.blt k.2 1000000 && vx_in s ix.2.1 (Int.ofNat 0) (Int.ofNat k.2 + Int.negSucc 0)))
        · rw [hb2] at e; cases e
        · rw [hb2] at e
          simp only [cond_true] at e
          rw [Bool.and_eq_true, Bool.and_eq_true] at hb2
          split at e
          · cases e
          · rename_i q hq
            cases e
            obtain ⟨i1, i2⟩ := G.1.inn ai.1 hb2.2.2
            obtain ⟨j1, j2, j3, j4⟩ := vx_idx (blt_lt hb2.2.1) i1 i2
            obtain ⟨ρ', τ', on, av, lk, rr, x0, -, -⟩ := vx_read_ok G.1 G.2.1 ai.1 (s' := q.1) (v := q.2) hq
            have hK := (G.1.2.2.1 _ k hkk).2
            show sm D y pc _ (vx_d D ρ τ ix :: vx_d D ρ τ a :: vx_dS D ρ τ r) h uc us Q
            rw [vx_d0 (Nat.eq_of_beq_eq_true hb.1), vx_d2 (Nat.eq_of_beq_eq_true hb.2)]
            have hval : h.1 (τ a.2.2) (Int32.ofInt (vx_ev ρ ix.2.1)).toNatClampNeg = vx_d D ρ' τ' q.2 := by
              rw [j1, ← lk, vx_look_lo j3]
            obtain ⟨gs, e1, e2⟩ := hG (τ a.2.2) (Int32.ofInt (vx_ev ρ ix.2.1)) (vx_d D ρ' τ' q.2) (vx_dS D ρ τ r) (by rw [vx_kap G, hK]; exact hb2.1) (by rw [vx_kap G, hK]; exact j2) hval
            refine ft_e_ok hc hk e1 e2 ?_
            exact vx_push G on av (fun z hz => List.mem_cons_of_mem _ (List.mem_cons_of_mem _ hz)) (K _ (List.mem_singleton.mpr rfl))
  · cases e
/-- a place changed -/
theorem vx_chg (G : VG D κ n md h0 y h ρ τ s lv st) {s1 s2 : VS} {ρ' : Nat → Int} {v w : AV} (on : vx_on D κ h ρ τ s s1 ρ' τ) (hw : vx_alt (vs_n s1) (vs_r s1) w) (hd : vx_d D ρ' τ w = vx_d D ρ τ v) {a : Nat} (ha : a < vs_r s) {i : LE} (hi : vx_lt (vs_n s) i) (e : vx_write md s1 a i w = some s2) {r : List AV} (hr : ∀ z ∈ r, z ∈ st) {pc' : Nat} (K : VK D κ n md h0 y uc us Q s ρ τ (s2, pc', lv, r)) :
    sm D y pc' (vx_dL D ρ τ lv) (vx_dS D ρ τ r) (ft_set h (τ a) (vx_ev ρ i).toNat (vx_d D ρ τ v)) uc us Q ∧ ft_B D ≤ τ a := by
  obtain ⟨W1, W2, W3, W4, W5, W6, W7, W8⟩ := vx_write_ok on.2.2.1 G.2.1 G.2.2.1 (hi.mono on.2.2.2.1) hw e
  rw [hd, vx_ev_agr on.1 hi] at W1 W2 W3
  have hr' : vx_altS (vs_n s) (vs_r s) r := fun z hz => G.2.2.2.2.1 z (hr z hz)
  have n1 : vs_n s ≤ vs_n s2 := by rw [W4]; exact on.2.2.2.1
  have n2 : vs_r s ≤ vs_r s2 := by rw [W5]; exact on.2.2.2.2
  have k := K ρ' τ _ on.1 on.2.1 n1 n2 ⟨W1, W2, W3, G.2.2.2.1.mono n1 n2, hr'.mono n1 n2, vx_scr G.2.2.2.2.2 on.1 n1⟩
  have e1 := vx_dL_agr (D := D) on.1 on.2.1 G.2.2.2.1
  have e2 := vx_dS_agr (D := D) on.1 on.2.1 hr'
  have k' : sm D y pc' (vx_dL D ρ' τ lv) (vx_dS D ρ' τ r) (ft_set h (τ a) (vx_ev ρ i).toNat (vx_d D ρ τ v)) uc us Q := k
  rw [e1, e2] at k'
  exact ⟨k', W7⟩
theorem vx_ast_ok {i : Instr} {pr : List Nat} {pc nn : Nat} {t : Nat → Bool} {ty : FieldType} (hc : ft_chk y = true) (hk : ft_lk pc (ft_c y) = some (i, nn, pr)) (G : VG D κ n md h0 y h ρ τ s lv st) {L : List SU} (e : vx_ast md t ty s pc lv st = some L)
    (hG : ∀ (a : Nat) (j : Int32) (v : AV) (r : List Value), vx_fitV s ty v = true → t (h.2.1 a).1 = true → ft_B D ≤ a → vp_in j (h.2.1 a).2 → narrow ty (vx_d D ρ τ v) = vx_d D ρ τ v → ∃ gs, ft_e D y i pr pc (vx_dL D ρ τ lv) (vx_d D ρ τ v :: .int j :: .ref a :: r) h [] = some (gs, pc + 1, vx_dL D ρ τ lv, r, ft_set h a j.toNatClampNeg (vx_d D ρ τ v), []) ∧ ft_all gs)
    (K : ∀ u ∈ L, VK D κ n md h0 y uc us Q s ρ τ u) : sm D y pc (vx_dL D ρ τ lv) (vx_dS D ρ τ st) h uc us Q := by
  unfold vx_ast at e
  split at e
  · rename_i v ix a r
    cases hb : (vx_is0 ix && vx_is2 a)
    · rw [hb] at e; cases e
    · rw [hb] at e
      simp only [cond_true] at e
      rw [Bool.and_eq_true] at hb
      have av := G.2.2.2.2.1 v List.mem_cons_self
      have ai := G.2.2.2.2.1 ix (List.mem_cons_of_mem _ List.mem_cons_self)
      split at e
      · cases e
      · rename_i k hkk
        cases hb2 : (t k.1 && (Nat.blt k.2 1000000 && (vx_in s ix.2.1 (Int.ofNat 0) (Int.ofNat k.2 + Int.negSucc 0) && vx_fitV s ty v)))
        · rw [hb2] at e; cases e
        · rw [hb2] at e
          simp only [cond_true] at e
          rw [Bool.and_eq_true, Bool.and_eq_true, Bool.and_eq_true] at hb2
          split at e
          · cases e
          · rename_i q hq
            split at e
            · cases e
            · rename_i s' hs'
              cases e
              obtain ⟨i1, i2⟩ := G.1.inn ai.1 hb2.2.2.1
              obtain ⟨j1, j2, j3, j4⟩ := vx_idx (blt_lt hb2.2.1) i1 i2
              obtain ⟨ρ', on, aw, dw, -, -⟩ := vx_norm_ok G.1 av (s' := q.1) (w := q.2) hq
              obtain ⟨hK1, hK⟩ := G.1.2.2.1 _ k hkk
              obtain ⟨S1, S2⟩ := vx_chg (Q := Q) G on aw dw hK1 ai.1 hs' (r := r) (fun z hz => List.mem_cons_of_mem _ (List.mem_cons_of_mem _ (List.mem_cons_of_mem _ hz))) (K _ (List.mem_singleton.mpr rfl))
              show sm D y pc _ (vx_d D ρ τ v :: vx_d D ρ τ ix :: vx_d D ρ τ a :: vx_dS D ρ τ r) h uc us Q
              rw [vx_d0 (Nat.eq_of_beq_eq_true hb.1), vx_d2 (Nat.eq_of_beq_eq_true hb.2)]
              obtain ⟨gs, e1, e2⟩ := hG (τ a.2.2) (Int32.ofInt (vx_ev ρ ix.2.1)) v (vx_dS D ρ τ r) hb2.2.2.2 (by rw [vx_kap G, hK]; exact hb2.1) S2 (by rw [vx_kap G, hK]; exact j2) (vx_fitV_ok G.1 av hb2.2.2.2).1
              refine ft_e_ok hc hk e1 e2 ?_
              rw [j1]
              exact S1
  · cases e
theorem vx_gf_ok {ix : Nat} {jj ci k : Nat} {pc nn : Nat} (hc : ft_chk y = true) (hk : ft_lk pc (ft_c y) = some (.getfield ix, nn, [jj, ci, k])) (G : VG D κ n md h0 y h ρ τ s lv st) {L : List SU} (e : vx_gf ci k s pc lv st = some L)
    (K : ∀ u ∈ L, VK D κ n md h0 y uc us Q s ρ τ u) : sm D y pc (vx_dL D ρ τ lv) (vx_dS D ρ τ st) h uc us Q := by
  unfold vx_gf at e
  split at e
  · rename_i a r
    cases hb : (vx_is2 a && Nat.blt k 999)
    · rw [hb] at e; cases e
    · rw [hb] at e
      simp only [cond_true] at e
      rw [Bool.and_eq_true] at hb
      split at e
      · cases e
      · rename_i z hz
        cases hb2 : Nat.beq z.1 (ci + 1)
        · rw [hb2] at e; cases e
        · rw [hb2] at e
          simp only [cond_true] at e
          split at e
          · cases e
          · rename_i q hq
            cases e
            obtain ⟨ρ', τ', on, av, lk, rr, x0, -, -⟩ := vx_read_ok G.1 G.2.1 vx_c_lt (s' := q.1) (v := q.2) hq
            have hK := (G.1.2.2.1 _ z hz).2
            rw [vx_c_ev] at lk
            have kb := blt_lt hb.2
            have ek : (Int.ofNat k : Int) = (k : Int) := rfl
            rw [vx_look_lo (by omega)] at lk
            show sm D y pc _ (vx_d D ρ τ a :: vx_dS D ρ τ r) h uc us Q
            rw [vx_d2 (Nat.eq_of_beq_eq_true hb.1)]
            refine ft_e_ok hc hk (os := [vx_d D ρ' τ' q.2]) (os' := []) rfl ⟨?_, ?_, trivial⟩ ?_
            · rw [vx_kap G, hK]; exact Nat.eq_of_beq_eq_true hb2
            · exact lk
            · exact vx_push G on av (fun z hz => List.mem_cons_of_mem _ hz) (K _ (List.mem_singleton.mpr rfl))
  · cases e
theorem vx_pf_ok {ix : Nat} {jj ci k : Nat} {pc nn : Nat} (hc : ft_chk y = true) (hk : ft_lk pc (ft_c y) = some (.putfield ix, nn, [jj, ci, k])) (G : VG D κ n md h0 y h ρ τ s lv st) {L : List SU} (e : vx_pf md ci k s pc lv st = some L)
    (K : ∀ u ∈ L, VK D κ n md h0 y uc us Q s ρ τ u) : sm D y pc (vx_dL D ρ τ lv) (vx_dS D ρ τ st) h uc us Q := by
  unfold vx_pf at e
  split at e
  · rename_i v a r
    cases hb : (vx_is2 a && (Nat.blt k 999 && vx_fitV s (ft_ty ci k) v))
    · rw [hb] at e; cases e
    · rw [hb] at e
      simp only [cond_true] at e
      rw [Bool.and_eq_true, Bool.and_eq_true] at hb
      have av := G.2.2.2.2.1 v List.mem_cons_self
      split at e
      · cases e
      · rename_i z hz
        cases hb2 : Nat.beq z.1 (ci + 1)
        · rw [hb2] at e; cases e
        · rw [hb2] at e
          simp only [cond_true] at e
          split at e
          · cases e
          · rename_i q hq
            split at e
            · cases e
            · rename_i s' hs'
              cases e
              obtain ⟨ρ', on, aw, dw, -, -⟩ := vx_norm_ok G.1 av (s' := q.1) (w := q.2) hq
              obtain ⟨hK1, hK⟩ := G.1.2.2.1 _ z hz
              obtain ⟨S1, S2⟩ := vx_chg (Q := Q) G on aw dw hK1 vx_c_lt hs' (r := r) (fun z hz => List.mem_cons_of_mem _ (List.mem_cons_of_mem _ hz)) (K _ (List.mem_singleton.mpr rfl))
              show sm D y pc _ (vx_d D ρ τ v :: vx_d D ρ τ a :: vx_dS D ρ τ r) h uc us Q
              rw [vx_d2 (v := a) (Nat.eq_of_beq_eq_true hb.1)]
              have hF := vx_fitV_ok G.1 av hb.2.2
              refine ft_e_ok hc hk (os := []) (os' := []) rfl ⟨?_, S2, hF.1, hF.2, trivial⟩ ?_
              · rw [vx_kap G, hK]; exact Nat.eq_of_beq_eq_true hb2
              · rw [vx_c_ev] at S1
                exact S1
  · cases e
theorem vx_aas_ok {ci : Nat} {pc nn : Nat} (hc : ft_chk y = true) (hk : ft_lk pc (ft_c y) = some (.aastore, nn, [ci])) (G : VG D κ n md h0 y h ρ τ s lv st) {L : List SU} (e : vx_aas md ci s pc lv st = some L)
    (K : ∀ u ∈ L, VK D κ n md h0 y uc us Q s ρ τ u) : sm D y pc (vx_dL D ρ τ lv) (vx_dS D ρ τ st) h uc us Q := by
  unfold vx_aas at e
  split at e
  · rename_i v ix a r
    cases hb : (vx_is0 ix && (vx_is2 a && vx_is2 v))
    · rw [hb] at e; cases e
    · rw [hb] at e
      simp only [cond_true] at e
      rw [Bool.and_eq_true, Bool.and_eq_true] at hb
      have av := G.2.2.2.2.1 v List.mem_cons_self
      have ai := G.2.2.2.2.1 ix (List.mem_cons_of_mem _ List.mem_cons_self)
      split at e
      · rename_i k z hkk hz
        cases hb2 : (Nat.blt ci ft_nc && (kdObj k.1 ci && (Nat.beq z.1 (ci + 1) && (Nat.blt k.2 1000000 && vx_in s ix.2.1 (Int.ofNat 0) (Int.ofNat k.2 + Int.negSucc 0)))))
        · rw [hb2] at e; cases e
        · rw [hb2] at e
          simp only [cond_true] at e
          rw [Bool.and_eq_true, Bool.and_eq_true, Bool.and_eq_true, Bool.and_eq_true] at hb2
          split at e
          · cases e
          · rename_i s' hs'
            cases e
            obtain ⟨i1, i2⟩ := G.1.inn ai.1 hb2.2.2.2.2
            obtain ⟨j1, j2, j3, j4⟩ := vx_idx (blt_lt hb2.2.2.2.1) i1 i2
            obtain ⟨hK1, hK⟩ := G.1.2.2.1 _ k hkk
            have hZ := (G.1.2.2.1 _ z hz).2
            obtain ⟨S1, S2⟩ := vx_chg (Q := Q) G G.1.on av rfl hK1 ai.1 hs' (r := r) (fun z hz => List.mem_cons_of_mem _ (List.mem_cons_of_mem _ (List.mem_cons_of_mem _ hz))) (K _ (List.mem_singleton.mpr rfl))
            show sm D y pc _ (vx_d D ρ τ v :: vx_d D ρ τ ix :: vx_d D ρ τ a :: vx_dS D ρ τ r) h uc us Q
            rw [vx_d2 (v := v) (Nat.eq_of_beq_eq_true hb.2.2)] at S1 ⊢
            rw [vx_d0 (Nat.eq_of_beq_eq_true hb.1), vx_d2 (v := a) (Nat.eq_of_beq_eq_true hb.2.1)]
            refine ft_e_ok hc hk (os := []) (os' := []) rfl ⟨blt_lt hb2.1, ?_, ?_, S2, ?_, trivial⟩ ?_
            · rw [vx_kap G, hK]; exact kdObj_ok hb2.2.1
            · rw [vx_kap G, hZ]; exact Nat.eq_of_beq_eq_true hb2.2.2.1
            · rw [vx_kap G, hK]; exact j2
            · rw [j1]; exact S1
      · cases e
  · cases e
end VXM
def vx_cov (md : MD) (q : Nat × Int × Int) : Bool := md.any (fun z => Nat.beq z.1 q.1 && (vx_ile z.2.1 q.2.1 && vx_ile q.2.2 z.2.2))
section VXCV
variable {κ : Nat → Nat × Nat} {md : MD} {h0 h : ft_H}
theorem vx_cov_ok {mds : MD} (e : mds.all (vx_cov md) = true) {h' : ft_H} (Fr : vx_fr κ md h0 h) (F : vx_fr κ mds h h') : vx_fr κ md h0 h' := fun a k hq => by
  rw [F a k (fun q hqm z => ?_), Fr a k hq]
  have := List.all_eq_true.mp e q hqm
  obtain ⟨w, hw, hz⟩ := List.any_eq_true.mp this
  rw [Bool.and_eq_true, Bool.and_eq_true] at hz
  have i1 := vx_ile_ok hz.2.1
  have i2 := vx_ile_ok hz.2.2
  exact hq w hw ⟨by rw [z.1]; exact (Nat.eq_of_beq_eq_true hz.1).symm, by omega, by omega⟩
end VXCV
