section VXU
variable {D : ft_G} {κ : Nat → Nat × Nat} {n : Nat} {md : MD} {h0 : ft_H} {y : Nat} {Q : Option Value → ft_H → Prop} {h : ft_H} {ρ : Nat → Int} {τ : Nat → Nat} {s : VS} {lv : LV} {st : List AV}
theorem vx_i0 {v : AV} (e : vx_fitV s .int v = true) : ∃ x, vx_d D ρ τ v = .int x := ⟨_, vx_d0 (Nat.eq_of_beq_eq_true e)⟩
theorem vx_j0 {v : AV} (e : vx_fitV s .long v = true) : ∃ x, vx_d D ρ τ v = .long x := ⟨_, vx_d1 (Nat.eq_of_beq_eq_true e)⟩
theorem vx_b0 {v : AV} (e : vx_fitV s .byte v = true) : ∃ x, vx_d D ρ τ v = .int x := by
  have e' : (vx_is0 v && vx_in s v.2.1 (Int.negSucc 127) (Int.ofNat 127)) = true := e
  rw [Bool.and_eq_true] at e'
  exact ⟨_, vx_d0 (Nat.eq_of_beq_eq_true e'.1)⟩
theorem vx_z0 {v : AV} (e : vx_fitV s .boolean v = true) : ∃ x, vx_d D ρ τ v = .int x := by
  have e' : (vx_is0 v && vx_in s v.2.1 (Int.ofNat 0) (Int.ofNat 1)) = true := e
  rw [Bool.and_eq_true] at e'
  exact ⟨_, vx_d0 (Nat.eq_of_beq_eq_true e'.1)⟩
set_option maxHeartbeats 4000000 in
theorem vx_step_ok {nL : Nat} {i : Instr} {pr : List Nat} {pc nn : Nat} (hL : nL = ft_nL y) (hc : ft_chk y = true) (hk : ft_lk pc (ft_c y) = some (i, nn, pr)) (G : VG D κ n md h0 y h ρ τ s lv st) {L : List SU} (e : vx_step md y nL i pr pc s lv st = some L)
    (K : ∀ u ∈ L, VK D κ n md h0 y Q s ρ τ u) : sm D y pc (vx_dL D ρ τ lv) (vx_dS D ρ τ st) h 0 0 Q := by
  unfold vx_step at e
  split at e
  · exact vx_2i_ok hc hk G e (fun x z r _ => ⟨[], rfl, trivial⟩) K
  · exact vx_2i_ok hc hk G e (fun x z r _ => ⟨[], rfl, trivial⟩) K
  · exact vx_2i_ok hc hk G e (fun x z r _ => ⟨[], rfl, trivial⟩) K
  · exact vx_2i_ok hc hk G e (fun x z r _ => ⟨[], rfl, trivial⟩) K
  · exact vx_2i_ok hc hk G e (fun x z r _ => ⟨[], rfl, trivial⟩) K
  · exact vx_2i_ok hc hk G e (fun x z r _ => ⟨[], rfl, trivial⟩) K
  · exact vx_2i_ok hc hk G e (fun x z r _ => ⟨[], rfl, trivial⟩) K
  · exact vx_2i_ok hc hk G e (fun x z r _ => ⟨[], rfl, trivial⟩) K
  · exact vx_2i_ok hc hk G e (fun x z r hz => ⟨[¬ z = 0], rfl, hz (by decide), trivial⟩) K
  · exact vx_2i_ok hc hk G e (fun x z r hz => ⟨[¬ z = 0], rfl, hz (by decide), trivial⟩) K
  · exact vx_2l_ok (by decide) hc hk G e (fun x z r => rfl) K
  · exact vx_2l_ok (by decide) hc hk G e (fun x z r => rfl) K
  · exact vx_2l_ok (by decide) hc hk G e (fun x z r => rfl) K
  · exact vx_2l_ok (by decide) hc hk G e (fun x z r => rfl) K
  · exact vx_2s_ok (by decide) hc hk G e (fun x z r => rfl) K
  · exact vx_2s_ok (by decide) hc hk G e (fun x z r => rfl) K
  · -- i2l
    split at e
    · rename_i a r
      have aa := G.2.2.2.2.1 a List.mem_cons_self
      cases hb : vx_is0 a
      · rw [hb] at e; cases e
      · rw [hb] at e
        simp only [cond_true] at e
        cases hq : vx_fin s (vx_i2l s a.2.1) with
        | none => rw [hq] at e; cases e
        | some q =>
          rw [hq] at e
          cases e
          obtain ⟨ρ', on, l1, l2, -, -⟩ := vx_finJ G.1 (vx_i2l_ok G.1 aa.1) (s' := q.1) (l := q.2) hq
          show sm D y pc _ (vx_d D ρ τ a :: vx_dS D ρ τ r) h 0 0 Q
          rw [vx_d0 (Nat.eq_of_beq_eq_true hb)]
          refine ft_e_ok hc hk (os := []) (os' := []) rfl trivial ?_
          rw [← l2]
          exact vx_push G (v := av_l q.2) on ⟨l1, fun z => by cases z⟩ (fun z hz => List.mem_cons_of_mem _ hz) (K _ (List.mem_singleton.mpr rfl))
    · cases e
  · -- i2b
    split at e
    · rename_i a r
      have aa := G.2.2.2.2.1 a List.mem_cons_self
      cases hb : vx_is0 a
      · rw [hb] at e; cases e
      · rw [hb] at e
        simp only [cond_true] at e
        cases hq : vx_fin s (vx_i2b s a.2.1) with
        | none => rw [hq] at e; cases e
        | some q =>
          rw [hq] at e
          cases e
          obtain ⟨ρ', on, l1, l2, -, -⟩ := vx_finI G.1 (vx_i2b_ok G.1 aa.1) (s' := q.1) (l := q.2) hq
          show sm D y pc _ (vx_d D ρ τ a :: vx_dS D ρ τ r) h 0 0 Q
          rw [vx_d0 (Nat.eq_of_beq_eq_true hb)]
          refine ft_e_ok hc hk (os := []) (os' := []) rfl trivial ?_
          rw [← l2]
          exact vx_push G (v := av_i q.2) on ⟨l1, fun z => by cases z⟩ (fun z hz => List.mem_cons_of_mem _ hz) (K _ (List.mem_singleton.mpr rfl))
    · cases e
  · -- lcmp
    split at e
    · rename_i b a r
      have aa := G.2.2.2.2.1 a (List.mem_cons_of_mem _ List.mem_cons_self)
      have ab := G.2.2.2.2.1 b List.mem_cons_self
      cases hb : (vx_is1 a && (vx_is1 b && (vx_in s a.2.1 fJ.1 fJ.2 && vx_in s b.2.1 fJ.1 fJ.2)))
      · rw [hb] at e; cases e
      · rw [hb] at e
        cases e
        rw [Bool.and_eq_true, Bool.and_eq_true, Bool.and_eq_true] at hb
        show sm D y pc _ (vx_d D ρ τ b :: vx_d D ρ τ a :: vx_dS D ρ τ r) h 0 0 Q
        rw [vx_d1 (Nat.eq_of_beq_eq_true hb.1), vx_d1 (Nat.eq_of_beq_eq_true hb.2.1)]
        refine ft_e_ok hc hk (os := []) (os' := []) rfl trivial ?_
        have hs : Value.int (lg_cmp (Int64.ofInt (vx_ev ρ a.2.1)) (Int64.ofInt (vx_ev ρ b.2.1))) = vx_d D ρ τ (7, vx_sub a.2.1 b.2.1, 0) := by
          rw [vx_d7 rfl]
          show _ = Value.int (Int32.ofInt (Int.sign (vx_ev ρ (vx_sub a.2.1 b.2.1))))
          rw [vx_sub_ev, vx_sign (G.1.inn aa.1 hb.2.2.1) (G.1.inn ab.1 hb.2.2.2)]
        rw [hs]
        exact vx_push G (v := (7, vx_sub a.2.1 b.2.1, 0)) G.1.on ⟨vx_sub_lt aa.1 ab.1, fun z => by cases z⟩ (fun z hz => List.mem_cons_of_mem _ (List.mem_cons_of_mem _ hz)) (K _ (List.mem_singleton.mpr rfl))
    · cases e
  · -- pop2
    split at e
    · rename_i v r
      cases hb : vx_is1 v
      · rw [hb] at e; cases e
      · rw [hb] at e
        cases e
        obtain ⟨hd, hn, -⟩ := ft_row_ok hc hk
        rw [hn] at hd
        have hcat : (vx_d D ρ τ v).category = 2 := by
          rw [vx_d_cat]
          unfold vx_cat
          have : Nat.beq v.1 1 = true := hb
          rw [this]; rfl
        show sm D y pc _ (vx_d D ρ τ v :: vx_dS D ρ τ r) h 0 0 Q
        exact sm_pure (fun p l en R s m args below meth c H locs Z ls C hl hA hS kk => lv_pop2_2 C.1 C.2.1 hd hcat (kk ls hl)) (vx_stay G G.1.on (fun z hz => List.mem_cons_of_mem _ hz) (K _ (List.mem_singleton.mpr rfl)))
    · cases e
  · -- ifCond
    split at e
    · rename_i cn off _ _ a r
      have aa := G.2.2.2.2.1 a List.mem_cons_self
      split at e
      · rename_i hoff
        cases h7 : Nat.beq a.1 7
        · rw [h7] at e
          simp only [cond_false] at e
          cases hb : vx_is0 a
          · rw [hb] at e; cases e
          · rw [hb] at e
            cases e
            obtain ⟨T, F⟩ := vx_two_ok G aa.1 (P := ft_cond1 cn (Int32.ofInt (vx_ev ρ a.2.1))) (fun hok => by
              have hz := G.1.inn aa.1 hok
              rw [cond12]
              have e0 : nI 0 = Int32.ofInt 0 := rfl
              rw [e0, vx_rel2 hz ⟨by decide, by decide⟩, Int.sub_zero]) (r := r) (fun z hz => List.mem_cons_of_mem _ hz) K
            show sm D y pc _ (vx_d D ρ τ a :: vx_dS D ρ τ r) h 0 0 Q
            rw [vx_d0 (Nat.eq_of_beq_eq_true hb)]
            exact r_if hc (ax_len hc hk rfl) (ft_tgt_ok hoff) T F
        · rw [h7] at e
          cases e
          obtain ⟨T, F⟩ := vx_two_ok G aa.1 (P := ft_cond1 cn (Int32.ofInt (Int.sign (vx_ev ρ a.2.1)))) (fun _ => vx_rel7) (r := r) (fun z hz => List.mem_cons_of_mem _ hz) K
          show sm D y pc _ (vx_d D ρ τ a :: vx_dS D ρ τ r) h 0 0 Q
          rw [vx_d7 (Nat.eq_of_beq_eq_true h7)]
          exact r_if hc (ax_len hc hk rfl) (ft_tgt_ok hoff) T F
      · cases e
    · cases e
  · -- if_icmp
    split at e
    · rename_i cn off _ _ b a r
      have aa := G.2.2.2.2.1 a (List.mem_cons_of_mem _ List.mem_cons_self)
      have ab := G.2.2.2.2.1 b List.mem_cons_self
      split at e
      · rename_i hoff
        cases hb : (vx_is0 a && vx_is0 b)
        · rw [hb] at e; cases e
        · rw [hb] at e
          cases e
          rw [Bool.and_eq_true] at hb
          obtain ⟨T, F⟩ := vx_two_ok G (vx_sub_lt aa.1 ab.1) (P := ft_cond2 cn (Int32.ofInt (vx_ev ρ a.2.1)) (Int32.ofInt (vx_ev ρ b.2.1))) (fun hok => by
            rw [Bool.and_eq_true] at hok
            rw [vx_sub_ev]
            exact vx_rel2 (G.1.inn aa.1 hok.1) (G.1.inn ab.1 hok.2)) (r := r) (fun z hz => List.mem_cons_of_mem _ (List.mem_cons_of_mem _ hz)) K
          show sm D y pc _ (vx_d D ρ τ b :: vx_d D ρ τ a :: vx_dS D ρ τ r) h 0 0 Q
          rw [vx_d0 (Nat.eq_of_beq_eq_true hb.1), vx_d0 (Nat.eq_of_beq_eq_true hb.2)]
          exact r_icmp hc (ax_len hc hk rfl) (ft_tgt_ok hoff) T F
      · cases e
    · cases e
  · -- tableswitch
    split at e
    · rename_i d lo hi offs _ _ a r
      have aa := G.2.2.2.2.1 a List.mem_cons_self
      split at e
      · rename_i hoff
        cases hb : (vx_is0 a && vx_in s a.2.1 fI.1 fI.2)
        · rw [hb] at e; cases e
        · rw [hb] at e
          simp only [cond_true] at e
          rw [Bool.and_eq_true] at hb
          split at e
          · cases e
          · rename_i L' hL'
            cases e
            obtain ⟨b1, b2⟩ := G.1.inn aa.1 hb.2
            have ex : (Int32.ofInt (vx_ev ρ a.2.1)).toInt = vx_ev ρ a.2.1 := vx_oI b1 b2
            have hrs : ∀ z ∈ r, z ∈ a :: r := fun z hz => List.mem_cons_of_mem _ hz
            show sm D y pc _ (vx_d D ρ τ a :: vx_dS D ρ τ r) h 0 0 Q
            rw [vx_d0 (Nat.eq_of_beq_eq_true hb.1)]
            by_cases q1 : vx_ev ρ a.2.1 < lo
            · refine r_swOut hc hk (Or.inl (by rw [ex]; exact q1)) (ft_tgt_ok hoff.1) ?_
              exact vx_opt_ok G (cn := .lt) (vx_k_lt aa.1) (by show vx_ev ρ (vx_k a.2.1 (-lo)) < 0; rw [vx_k_ev]; omega) hrs (fun u hu => List.mem_append.mpr (Or.inl hu)) K
            · by_cases q2 : hi < vx_ev ρ a.2.1
              · refine r_swOut hc hk (Or.inr (by rw [ex]; exact q2)) (ft_tgt_ok hoff.1) ?_
                exact vx_opt_ok G (cn := .gt) (vx_k_lt aa.1) (by show 0 < vx_ev ρ (vx_k a.2.1 (-hi)); rw [vx_k_ev]; omega) hrs (fun u hu => List.mem_append.mpr (Or.inr (List.mem_append.mpr (Or.inl hu)))) K
              · obtain ⟨off, o1, o2, o3⟩ := vx_sw_ok G aa.1 hrs hL' (fun u hu => K u (List.mem_append.mpr (Or.inr (List.mem_append.mpr (Or.inr hu))))) (by omega) (by omega)
                refine r_swIn hc hk (by rw [ex]; exact q1) (by rw [ex]; exact q2) ?_ (ft_tgt_ok o2) o3
                rw [ex, ← Array.getElem?_toList]
                exact o1
      · cases e
    · cases e
  · split at e
    · exact vx_gf_ok hc hk G e K
    · cases e
  · split at e
    · exact vx_pf_ok hc hk G e K
    · cases e
  · -- getstatic
    split at e
    · rename_i j0 k
      cases e
      refine ft_e_ok hc hk (os := []) (os' := []) rfl trivial ?_
      have hv : Value.ref (D.2.2.2.2.1 k) = vx_d D ρ τ (4, vx_c (Int.ofNat 0), k) := rfl
      rw [hv]
      exact vx_push G (v := (4, vx_c (Int.ofNat 0), k)) G.1.on ⟨vx_c_lt, fun z => by cases z⟩ (fun z hz => hz) (K _ (List.mem_singleton.mpr rfl))
    · cases e
  · exact vx_ial_ok hc hk G e K
  · exact vx_ald_ok hc hk G e (fun a j v r e1 e2 e3 => ⟨_, rfl, kdIs_ok e1, e2, e3, trivial⟩) K
  · split at e
    · exact vx_ald_ok hc hk G e (fun a j v r e1 e2 e3 => ⟨_, rfl, kdIs_ok e1, e2, e3, trivial⟩) K
    · exact vx_ald_ok hc hk G e (fun a j v r e1 e2 e3 => ⟨_, rfl, kdIs_ok e1, e2, e3, trivial⟩) K
    · cases e
  · exact vx_ald_ok hc hk G e (fun a j v r e1 e2 e3 => ⟨_, rfl, kdRef_ok e1, e2, e3, trivial⟩) K
  · exact vx_ast_ok hc hk G e (fun a j v r f0 e1 e2 e3 e4 => by
      obtain ⟨x, hx⟩ := vx_i0 (D := D) (ρ := ρ) (τ := τ) f0
      rw [hx]
      exact ⟨_, rfl, kdIs_ok e1, e2, e3, trivial⟩) K
  · exact vx_ast_ok hc hk G e (fun a j v r f0 e1 e2 e3 e4 => by
      obtain ⟨x, hx⟩ := vx_j0 (D := D) (ρ := ρ) (τ := τ) f0
      rw [hx]
      exact ⟨_, rfl, kdIs_ok e1, e2, e3, trivial⟩) K
  · split at e
    · exact vx_ast_ok hc hk G e (fun a j v r f0 e1 e2 e3 e4 => by
        obtain ⟨x, hx⟩ := vx_b0 (D := D) (ρ := ρ) (τ := τ) f0
        rw [hx] at e4 ⊢
        refine ⟨[_, _, _], ?_, kdIs_ok e1, e2, e3, trivial⟩
        show some (_, _, _, _, ft_set h a _ (narrow .byte (.int x)), _) = _
        rw [e4]) K
    · exact vx_ast_ok hc hk G e (fun a j v r f0 e1 e2 e3 e4 => by
        obtain ⟨x, hx⟩ := vx_z0 (D := D) (ρ := ρ) (τ := τ) f0
        rw [hx] at e4 ⊢
        refine ⟨[_, _, _], ?_, kdIs_ok e1, e2, e3, trivial⟩
        show some (_, _, _, _, ft_set h a _ (narrow .boolean (.int x)), _) = _
        rw [e4]) K
    · cases e
  · split at e
    · exact vx_aas_ok hc hk G e K
    · cases e
  · exact vx_len_ok hc hk G e K
  · split at e
    · rename_i pc' lv' st' hp
      cases e
      obtain ⟨p1, p2⟩ := vx_p_ok (D := D) (ρ := ρ) (τ := τ) hp
      rw [hL] at p1
      obtain ⟨hd, hn, ho⟩ := ft_row_ok hc hk
      obtain ⟨a1, a2⟩ := p2 _ _ G.2.2.2.1 G.2.2.2.2.1
      exact ft_p_ok hd hn (ft_okC_of ho) p1 trivial (K _ (List.mem_singleton.mpr rfl) ρ τ h vx_agr.refl vx_agr.refl (Nat.le_refl _) (Nat.le_refl _) ⟨G.1, G.2.1, G.2.2.1, a1, a2, G.2.2.2.2.2⟩)
    · cases e
end VXU
