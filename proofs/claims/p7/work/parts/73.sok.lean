section VXU
variable {D : ft_G} {κ : Nat → Nat × Nat} {n : Nat} {md : MD} {h0 : ft_H} {y uc us : Nat} {Q : Option Value → ft_H → Prop} {h : ft_H} {ρ : Nat → Int} {τ : Nat → Nat} {s : VS} {lv : LV} {st : List AV}
theorem vx_i0 {v : AV} (e : vx_fitV s .int v = true) : ∃ x, vx_d D ρ τ v = .int x := ⟨_, vx_d0 (Nat.eq_of_beq_eq_true e)⟩
theorem vx_j0 {v : AV} (e : vx_fitV s .long v = true) : ∃ x, vx_d D ρ τ v = .long x := ⟨_, vx_d1 (Nat.eq_of_beq_eq_true e)⟩
theorem vx_b0 {v : AV} (e : vx_fitV s .byte v = true) : ∃ x, vx_d D ρ τ v = .int x := by
  have e' : (vx_is0 v && vx_in s v.2.1 (Int.negSucc 127) (Int.ofNat 127)) = true := e
  rw [Bool.and_eq_true] at e'
  exact ⟨_, vx_d0 (Nat.eq_of_beq_eq_true e'.1)⟩
theorem vx_z0 {v : AV} (e : vx_fitV s .boolean v = true) : ∃ x, vx_d D ρ τ v = .int x := by
  have e' : (vx_is0 v && vx_in s v.2.1 (Int.ofNat 0) (Int.ofNat 1)) = true := e
  rw [Bool.and_eq_true] at e'
  exact ⟨_, vx_d0 (Nat.eq_of_beq_eq_true e'.1)⟩
theorem vx_fm_u {c k : Nat} {f : FM} (h1 : vx_fa c (vx_c (Int.ofNat 0)) = some f) (h2 : Nat.beq c kd_M_due = false) (h3 : tG vx_fO c = none) : vx_fm c k = f := by
  unfold vx_fa at h1
  unfold vx_fm
  rw [h2] at h1 ⊢
  simp only [cond_false] at h1 ⊢
  rw [h3] at h1 ⊢
  simp only [] at h1 ⊢
  rw [h1]
theorem vx_cpy_ok {ix j0 : Nat} {pc nn : Nat} (hc : ft_chk y = true) (hk : ft_lk pc (ft_c y) = some (.invokestatic ix, nn, [j0])) (G : VG D κ n md h0 y h ρ τ s lv st) {L : List SU} (e : vx_cpy md y s pc lv st = some L)
    (K : ∀ u ∈ L, VK D κ n md h0 y uc us Q s ρ τ u) : sm D y pc (vx_dL D ρ τ lv) (vx_dS D ρ τ st) h uc us Q := by
  unfold vx_cpy at e
  split at e
  · rename_i m dp d sp a
    cases hb : (Nat.beq y y_Pa_fill && (Nat.beq pc 33 && (vx_is0 m && (vx_is0 dp && (vx_is0 sp && (vx_is2 d && (vx_is2 a && (vx_eq dp.2.1 (vx_c (Int.ofNat 0)) && vx_eq sp.2.1 (vx_c (Int.ofNat 0))))))))))
    · rw [hb] at e; cases e
    · rw [hb] at e
      simp only [cond_true] at e
      rw [Bool.and_eq_true, Bool.and_eq_true, Bool.and_eq_true, Bool.and_eq_true, Bool.and_eq_true, Bool.and_eq_true, Bool.and_eq_true, Bool.and_eq_true] at hb
      obtain ⟨y1, y2, t1, t2, t3, t4, t5, t6, t7⟩ := hb
      have y1' := Nat.eq_of_beq_eq_true y1
      have y2' := Nat.eq_of_beq_eq_true y2
      have am := G.2.2.2.2.1 m List.mem_cons_self
      split at e
      · rename_i ka kd hka hkd
        cases hb2 : (kdIs ka.1 .int && (kdIs kd.1 .int && (Nat.blt 12 ka.1 && (Nat.blt 12 kd.1 && (Nat.blt ka.2 1000000 && (Nat.blt kd.2 1000000 && (vx_in s m.2.1 (Int.ofNat 0) (Int.ofNat ka.2) && (vx_in s m.2.1 (Int.ofNat 0) (Int.ofNat kd.2) && vx_cov md (kd.1, Int.ofNat 0, Int.ofNat kd.2 + Int.negSucc 0)))))))))
        · rw [hb2] at e; cases e
        · rw [hb2] at e
          simp only [cond_true] at e
          rw [Bool.and_eq_true, Bool.and_eq_true, Bool.and_eq_true, Bool.and_eq_true, Bool.and_eq_true, Bool.and_eq_true, Bool.and_eq_true, Bool.and_eq_true] at hb2
          obtain ⟨u1, u2, u3, u4, u5, u6, u7, u8, u9⟩ := hb2
          split at e
          · rename_i l1 w1 l2 w2 f1 f2 f3 f4 f5
            cases hb3 : (vx_ile l2 l1 && vx_ile w1 w2)
            · rw [hb3] at e; cases e
            · rw [hb3] at e
              cases e
              rw [Bool.and_eq_true] at hb3
              have i1 := vx_ile_ok hb3.1
              have i2 := vx_ile_ok hb3.2
              obtain ⟨ha1, ha2⟩ := G.1.2.2.1 _ ka hka
              obtain ⟨hd1, hd2⟩ := G.1.2.2.1 _ kd hkd
              obtain ⟨m1, m2⟩ := G.1.inn am.1 u7
              obtain ⟨-, m3⟩ := G.1.inn am.1 u8
              have la := blt_lt u5
              have ld := blt_lt u6
              obtain ⟨u, hu, -, hu2, hu3⟩ := vx_natI m1 m2 (by omega)
              have hu4 : u ≤ kd.2 := by
                have : vx_ev ρ m.2.1 ≤ ((kd.2 : Nat) : Int) := m3
                omega
              rw [Bool.or_eq_false_iff] at f3
              have fa : ∀ k, vx_fm ka.1 k = (0, l1, w1) := fun k => vx_fm_u f1 f3.1 f4
              have fd : ∀ k, vx_fm kd.1 k = (0, l2, w2) := fun k => vx_fm_u f2 f3.2 f5
              have ka0 : ka.1 ≠ 0 := by have := blt_lt u3; omega
              have kd0 : kd.1 ≠ 0 := by have := blt_lt u4; omega
              have Ia : ∀ k, k < ka.2 → ∃ x : Int, l1 ≤ x ∧ x ≤ w1 ∧ h.1 (τ a.2.2) k = .int (Int32.ofInt x) := fun k hk => by
                have := G.2.1.2.2 (τ a.2.2) k (by rw [ha2]; exact ka0) (by rw [ha2]; exact fun _ => hk)
                rw [ha2, fa k] at this
                exact this
              obtain ⟨hd, hn, -⟩ := ft_row_ok hc hk
              rw [hn] at hd
              have edp : vx_d D ρ τ dp = .int (nI 0) := by
                rw [vx_d0 (Nat.eq_of_beq_eq_true t2), vx_eq_ok t6, vx_c_ev]; rfl
              have esp : vx_d D ρ τ sp = .int (nI 0) := by
                rw [vx_d0 (Nat.eq_of_beq_eq_true t3), vx_eq_ok t7, vx_c_ev]; rfl
              show sm D y pc _ [vx_d D ρ τ m, vx_d D ρ τ dp, vx_d D ρ τ d, vx_d D ρ τ sp, vx_d D ρ τ a] h uc us Q
              rw [edp, esp, vx_d0 (Nat.eq_of_beq_eq_true t1), vx_d2 (Nat.eq_of_beq_eq_true t4), vx_d2 (Nat.eq_of_beq_eq_true t5), hu3]
              have z0 : (nI 0).toNatClampNeg = 0 := rfl
              have zu : (nI u).toNatClampNeg = u := clampE (by omega)
              have hset : ∀ b j, (ft_row h (τ d.2.2) (va_cpy (h.1 (τ a.2.2)) (h.1 (τ d.2.2)) 0 0 u)).1 b j = if b = τ d.2.2 then va_cpy (h.1 (τ a.2.2)) (h.1 (τ d.2.2)) 0 0 u j else h.1 b j := fun _ _ => rfl
              have Fr1 : vx_fr κ [(kd.1, Int.ofNat 0, Int.ofNat kd.2 + Int.negSucc 0)] h (ft_row h (τ d.2.2) (va_cpy (h.1 (τ a.2.2)) (h.1 (τ d.2.2)) 0 0 u)) := fun b j hq => by
                rw [hset]
                by_cases eb : b = τ d.2.2
                · rw [if_pos eb, eb]
                  by_cases ej : j < u
                  · exfalso
                    refine hq _ List.mem_cons_self ⟨by rw [eb, hd2], ?_, ?_⟩
                    · exact Int.natCast_nonneg j
                    · show (j : Int) ≤ (kd.2 : Int) + -1
                      omega
                  · exact pk_cpy_out (Or.inr (by omega))
                · rw [if_neg eb]
              have I1 : vx_I D κ n (ft_row h (τ d.2.2) (va_cpy (h.1 (τ a.2.2)) (h.1 (τ d.2.2)) 0 0 u)) := by
                refine ⟨G.2.1.1, G.2.1.2.1, fun b j hb hj => ?_⟩
                rw [hset]
                by_cases eb : b = τ d.2.2
                · rw [if_pos eb]
                  by_cases ej : j < u
                  · rw [pk_cpy_in (Nat.zero_le _) (by omega)]
                    obtain ⟨x, x1, x2, x3⟩ := Ia (0 + (j - 0)) (by omega)
                    rw [x3, eb, hd2, fd j]
                    exact ⟨x, Int.le_trans i1 x1, Int.le_trans x2 i2, rfl⟩
                  · rw [pk_cpy_out (Or.inr (by omega)), ← eb]
                    exact G.2.1.2.2 b j hb hj
                · rw [if_neg eb]; exact G.2.1.2.2 b j hb hj
              have V1 := G.1.drop Fr1
              have k2 := K _ (List.mem_singleton.mpr rfl) ρ τ _ vx_agr.refl vx_agr.refl (Nat.le_refl _) (Nat.le_refl _) ⟨V1, I1, vx_cov_ok (mds := [(kd.1, Int.ofNat 0, Int.ofNat kd.2 + Int.negSucc 0)]) (by show (vx_cov md _ && true) = true; rw [u9]; rfl) G.2.2.1 Fr1, G.2.2.2.1, fun v hv => (by cases hv), G.2.2.2.2.2⟩
              subst y1'
              subst y2'
              obtain ⟨hd', -, -⟩ := ft_row_ok (y := y_Pa_fill) (pc := 33) k_Pa_fill rfl
              refine sm_copy (ix := 28) (a0 := τ a.2.2) (a := τ d.2.2) (sp := nI 0) (dp := nI 0) (n := nI u) hd' (ft_has_in (j := 887) (by decide +kernel)) (ft_has_in (j := 889) (by decide +kernel)) (ft_has_in (j := 888) (by decide +kernel)) (ft_has_in (j := 85) (by decide +kernel)) (by rw [vx_kap G, ha2]; exact kdIs_ok u1) (by rw [vx_kap G, hd2]; exact kdIs_ok u2) (G.2.1.2.1 _ (by rw [hd2]; exact kd0)) (by decide) (by decide) (nI_nneg (by omega)) (by rw [z0, zu, vx_kap G, ha2]; omega) (by rw [z0, zu, vx_kap G, hd2]; omega) (fun i hi => ?_) (by decide +kernel) (by decide +kernel) ?_
              · rw [zu] at hi
                rw [z0]
                obtain ⟨x, -, -, x3⟩ := Ia (0 + i) (by omega)
                exact ⟨_, x3⟩
              · rw [z0, zu]
                exact k2
          · cases e
      · cases e
  · cases e
set_option maxHeartbeats 4000000 in
theorem vx_step_ok {nL : Nat} {i : Instr} {pr : List Nat} {pc nn : Nat} (hL : nL = ft_nL y) (hc : ft_chk y = true) (hk : ft_lk pc (ft_c y) = some (i, nn, pr)) (G : VG D κ n md h0 y h ρ τ s lv st) {L : List SU} (e : vx_step md y nL i pr pc s lv st = some L)
    (K : ∀ u ∈ L, VK D κ n md h0 y uc us Q s ρ τ u) : sm D y pc (vx_dL D ρ τ lv) (vx_dS D ρ τ st) h uc us Q := by
  unfold vx_step at e
  split at e
  · exact vx_2i_ok hc hk G e (fun x z r _ => ⟨[], rfl, trivial⟩) K
  · exact vx_2i_ok hc hk G e (fun x z r _ => ⟨[], rfl, trivial⟩) K
  · exact vx_2i_ok hc hk G e (fun x z r _ => ⟨[], rfl, trivial⟩) K
  · exact vx_2i_ok hc hk G e (fun x z r _ => ⟨[], rfl, trivial⟩) K
  · exact vx_2i_ok hc hk G e (fun x z r _ => ⟨[], rfl, trivial⟩) K
  · exact vx_2i_ok hc hk G e (fun x z r _ => ⟨[], rfl, trivial⟩) K
  · exact vx_2i_ok hc hk G e (fun x z r _ => ⟨[], rfl, trivial⟩) K
  · exact vx_2i_ok hc hk G e (fun x z r _ => ⟨[], rfl, trivial⟩) K
  · exact vx_2i_ok hc hk G e (fun x z r hz => ⟨[¬ z = 0], rfl, hz (by decide), trivial⟩) K
  · exact vx_2i_ok hc hk G e (fun x z r hz => ⟨[¬ z = 0], rfl, hz (by decide), trivial⟩) K
  · exact vx_2l_ok (by decide) hc hk G e (fun x z r => rfl) K
  · exact vx_2l_ok (by decide) hc hk G e (fun x z r => rfl) K
  · exact vx_2l_ok (by decide) hc hk G e (fun x z r => rfl) K
  · exact vx_2l_ok (by decide) hc hk G e (fun x z r => rfl) K
  · exact vx_2s_ok (by decide) hc hk G e (fun x z r => rfl) K
  · exact vx_2s_ok (by decide) hc hk G e (fun x z r => rfl) K
  · -- i2l
    split at e
    · rename_i a r
      have aa := G.2.2.2.2.1 a List.mem_cons_self
      cases hb : vx_is0 a
      · rw [hb] at e; cases e
      · rw [hb] at e
        simp only [cond_true] at e
        cases hq : vx_fin s (vx_i2l s a.2.1) with
        | none => rw [hq] at e; cases e
        | some q =>
          rw [hq] at e
          cases e
          obtain ⟨ρ', on, l1, l2, -, -⟩ := vx_finJ G.1 (vx_i2l_ok G.1 aa.1) (s' := q.1) (l := q.2) hq
          show sm D y pc _ (vx_d D ρ τ a :: vx_dS D ρ τ r) h uc us Q
          rw [vx_d0 (Nat.eq_of_beq_eq_true hb)]
          refine ft_e_ok hc hk (os := []) (os' := []) rfl trivial ?_
          rw [← l2]
          exact vx_push G (v := av_l q.2) on ⟨l1, fun z => by cases z⟩ (fun z hz => List.mem_cons_of_mem _ hz) (K _ (List.mem_singleton.mpr rfl))
    · cases e
  · -- i2b
    split at e
    · rename_i a r
      have aa := G.2.2.2.2.1 a List.mem_cons_self
      cases hb : vx_is0 a
      · rw [hb] at e; cases e
      · rw [hb] at e
        simp only [cond_true] at e
        cases hq : vx_fin s (vx_i2b s a.2.1) with
        | none => rw [hq] at e; cases e
        | some q =>
          rw [hq] at e
          cases e
          obtain ⟨ρ', on, l1, l2, -, -⟩ := vx_finI G.1 (vx_i2b_ok G.1 aa.1) (s' := q.1) (l := q.2) hq
          show sm D y pc _ (vx_d D ρ τ a :: vx_dS D ρ τ r) h uc us Q
          rw [vx_d0 (Nat.eq_of_beq_eq_true hb)]
          refine ft_e_ok hc hk (os := []) (os' := []) rfl trivial ?_
          rw [← l2]
          exact vx_push G (v := av_i q.2) on ⟨l1, fun z => by cases z⟩ (fun z hz => List.mem_cons_of_mem _ hz) (K _ (List.mem_singleton.mpr rfl))
    · cases e
  · -- lcmp
    split at e
    · rename_i b a r
      have aa := G.2.2.2.2.1 a (List.mem_cons_of_mem _ List.mem_cons_self)
      have ab := G.2.2.2.2.1 b List.mem_cons_self
      cases hb : (vx_is1 a && (vx_is1 b && (vx_in s a.2.1 fJ.1 fJ.2 && vx_in s b.2.1 fJ.1 fJ.2)))
      · rw [hb] at e; cases e
      · rw [hb] at e
        cases e
        rw [Bool.and_eq_true, Bool.and_eq_true, Bool.and_eq_true] at hb
        show sm D y pc _ (vx_d D ρ τ b :: vx_d D ρ τ a :: vx_dS D ρ τ r) h uc us Q
        rw [vx_d1 (Nat.eq_of_beq_eq_true hb.1), vx_d1 (Nat.eq_of_beq_eq_true hb.2.1)]
        refine ft_e_ok hc hk (os := []) (os' := []) rfl trivial ?_
        have hs : Value.int (lg_cmp (Int64.ofInt (vx_ev ρ a.2.1)) (Int64.ofInt (vx_ev ρ b.2.1))) = vx_d D ρ τ (7, vx_sub a.2.1 b.2.1, 0) := by
          rw [vx_d7 rfl]
          show _ = Value.int (Int32.ofInt (Int.sign (vx_ev ρ (vx_sub a.2.1 b.2.1))))
          rw [vx_sub_ev, vx_sign (G.1.inn aa.1 hb.2.2.1) (G.1.inn ab.1 hb.2.2.2)]
        rw [hs]
        exact vx_push G (v := (7, vx_sub a.2.1 b.2.1, 0)) G.1.on ⟨vx_sub_lt aa.1 ab.1, fun z => by cases z⟩ (fun z hz => List.mem_cons_of_mem _ (List.mem_cons_of_mem _ hz)) (K _ (List.mem_singleton.mpr rfl))
    · cases e
  · -- pop2
    split at e
    · rename_i v r
      cases hb : vx_is1 v
      · rw [hb] at e; cases e
      · rw [hb] at e
        cases e
        obtain ⟨hd, hn, -⟩ := ft_row_ok hc hk
        rw [hn] at hd
        have hcat : (vx_d D ρ τ v).category = 2 := by
          rw [vx_d_cat]
          unfold vx_cat
          have : Nat.beq v.1 1 = true := hb
          rw [this]; rfl
        show sm D y pc _ (vx_d D ρ τ v :: vx_dS D ρ τ r) h uc us Q
        exact sm_pure (fun p l en R s m args below meth c H locs Z ls C hl hA hS kk => lv_pop2_2 C.1 C.2.1 hd hcat (kk ls hl)) (vx_stay G G.1.on (fun z hz => List.mem_cons_of_mem _ hz) (K _ (List.mem_singleton.mpr rfl)))
    · cases e
  · -- ifCond
    split at e
    · rename_i cn off _ _ a r
      have aa := G.2.2.2.2.1 a List.mem_cons_self
      split at e
      · rename_i hoff
        cases h7 : Nat.beq a.1 7
        · rw [h7] at e
          simp only [cond_false] at e
          cases hb : vx_is0 a
          · rw [hb] at e; cases e
          · rw [hb] at e
            cases e
            obtain ⟨T, F⟩ := vx_two_ok G aa.1 (P := ft_cond1 cn (Int32.ofInt (vx_ev ρ a.2.1))) (fun hok => by
              have hz := G.1.inn aa.1 hok
              rw [cond12]
              have e0 : nI 0 = Int32.ofInt 0 := rfl
              rw [e0, vx_rel2 hz ⟨by decide, by decide⟩, Int.sub_zero]) (r := r) (fun z hz => List.mem_cons_of_mem _ hz) K
            show sm D y pc _ (vx_d D ρ τ a :: vx_dS D ρ τ r) h uc us Q
            rw [vx_d0 (Nat.eq_of_beq_eq_true hb)]
            exact r_if hc (ax_len hc hk rfl) (ft_tgt_ok hoff) T F
        · rw [h7] at e
          cases e
          obtain ⟨T, F⟩ := vx_two_ok G aa.1 (P := ft_cond1 cn (Int32.ofInt (Int.sign (vx_ev ρ a.2.1)))) (fun _ => vx_rel7) (r := r) (fun z hz => List.mem_cons_of_mem _ hz) K
          show sm D y pc _ (vx_d D ρ τ a :: vx_dS D ρ τ r) h uc us Q
          rw [vx_d7 (Nat.eq_of_beq_eq_true h7)]
          exact r_if hc (ax_len hc hk rfl) (ft_tgt_ok hoff) T F
      · cases e
    · cases e
  · -- if_icmp
    split at e
    · rename_i cn off _ _ b a r
      have aa := G.2.2.2.2.1 a (List.mem_cons_of_mem _ List.mem_cons_self)
      have ab := G.2.2.2.2.1 b List.mem_cons_self
      split at e
      · rename_i hoff
        cases hb : (vx_is0 a && vx_is0 b)
        · rw [hb] at e; cases e
        · rw [hb] at e
          cases e
          rw [Bool.and_eq_true] at hb
          obtain ⟨T, F⟩ := vx_two_ok G (vx_sub_lt aa.1 ab.1) (P := ft_cond2 cn (Int32.ofInt (vx_ev ρ a.2.1)) (Int32.ofInt (vx_ev ρ b.2.1))) (fun hok => by
            rw [Bool.and_eq_true] at hok
            rw [vx_sub_ev]
            exact vx_rel2 (G.1.inn aa.1 hok.1) (G.1.inn ab.1 hok.2)) (r := r) (fun z hz => List.mem_cons_of_mem _ (List.mem_cons_of_mem _ hz)) K
          show sm D y pc _ (vx_d D ρ τ b :: vx_d D ρ τ a :: vx_dS D ρ τ r) h uc us Q
          rw [vx_d0 (Nat.eq_of_beq_eq_true hb.1), vx_d0 (Nat.eq_of_beq_eq_true hb.2)]
          exact r_icmp hc (ax_len hc hk rfl) (ft_tgt_ok hoff) T F
      · cases e
    · cases e
  · -- tableswitch
    split at e
    · rename_i d lo hi offs _ _ a r
      have aa := G.2.2.2.2.1 a List.mem_cons_self
      split at e
      · rename_i hoff
        cases hb : (vx_is0 a && vx_in s a.2.1 fI.1 fI.2)
        · rw [hb] at e; cases e
        · rw [hb] at e
          simp only [cond_true] at e
          rw [Bool.and_eq_true] at hb
          split at e
          · cases e
          · rename_i L' hL'
            cases e
            obtain ⟨b1, b2⟩ := G.1.inn aa.1 hb.2
            have ex : (Int32.ofInt (vx_ev ρ a.2.1)).toInt = vx_ev ρ a.2.1 := vx_oI b1 b2
            have hrs : ∀ z ∈ r, z ∈ a :: r := fun z hz => List.mem_cons_of_mem _ hz
            show sm D y pc _ (vx_d D ρ τ a :: vx_dS D ρ τ r) h uc us Q
            rw [vx_d0 (Nat.eq_of_beq_eq_true hb.1)]
            by_cases q1 : vx_ev ρ a.2.1 < lo
            · refine r_swOut hc hk (Or.inl (by rw [ex]; exact q1)) (ft_tgt_ok hoff.1) ?_
              exact vx_opt_ok G (cn := .lt) (vx_k_lt aa.1) (by show vx_ev ρ (vx_k a.2.1 (-lo)) < 0; rw [vx_k_ev]; omega) hrs (fun u hu => List.mem_append.mpr (Or.inl hu)) K
            · by_cases q2 : hi < vx_ev ρ a.2.1
              · refine r_swOut hc hk (Or.inr (by rw [ex]; exact q2)) (ft_tgt_ok hoff.1) ?_
                exact vx_opt_ok G (cn := .gt) (vx_k_lt aa.1) (by show 0 < vx_ev ρ (vx_k a.2.1 (-hi)); rw [vx_k_ev]; omega) hrs (fun u hu => List.mem_append.mpr (Or.inr (List.mem_append.mpr (Or.inl hu)))) K
              · obtain ⟨off, o1, o2, o3⟩ := vx_sw_ok G aa.1 hrs hL' (fun u hu => K u (List.mem_append.mpr (Or.inr (List.mem_append.mpr (Or.inr hu))))) (by omega) (by omega)
                refine r_swIn hc hk (by rw [ex]; exact q1) (by rw [ex]; exact q2) ?_ (ft_tgt_ok o2) o3
                rw [ex, ← Array.getElem?_toList]
                exact o1
      · cases e
    · cases e
  · split at e
    · exact vx_gf_ok hc hk G e K
    · cases e
  · split at e
    · exact vx_pf_ok hc hk G e K
    · cases e
  · -- getstatic
    split at e
    · rename_i j0 k
      cases e
      refine ft_e_ok hc hk (os := []) (os' := []) rfl trivial ?_
      have hv : Value.ref (D.2.2.2.2.1 k) = vx_d D ρ τ (4, vx_c (Int.ofNat 0), k) := rfl
      rw [hv]
      exact vx_push G (v := (4, vx_c (Int.ofNat 0), k)) G.1.on ⟨vx_c_lt, fun z => by cases z⟩ (fun z hz => hz) (K _ (List.mem_singleton.mpr rfl))
    · cases e
  · exact vx_ial_ok hc hk G e K
  · exact vx_ald_ok hc hk G e (fun a j v r e1 e2 e3 => ⟨_, rfl, kdIs_ok e1, e2, e3, trivial⟩) K
  · split at e
    · exact vx_ald_ok hc hk G e (fun a j v r e1 e2 e3 => ⟨_, rfl, kdIs_ok e1, e2, e3, trivial⟩) K
    · exact vx_ald_ok hc hk G e (fun a j v r e1 e2 e3 => ⟨_, rfl, kdIs_ok e1, e2, e3, trivial⟩) K
    · cases e
  · exact vx_ald_ok hc hk G e (fun a j v r e1 e2 e3 => ⟨_, rfl, kdRef_ok e1, e2, e3, trivial⟩) K
  · exact vx_ast_ok hc hk G e (fun a j v r f0 e1 e2 e3 e4 => by
      obtain ⟨x, hx⟩ := vx_i0 (D := D) (ρ := ρ) (τ := τ) f0
      rw [hx]
      exact ⟨_, rfl, kdIs_ok e1, e2, e3, trivial⟩) K
  · exact vx_ast_ok hc hk G e (fun a j v r f0 e1 e2 e3 e4 => by
      obtain ⟨x, hx⟩ := vx_j0 (D := D) (ρ := ρ) (τ := τ) f0
      rw [hx]
      exact ⟨_, rfl, kdIs_ok e1, e2, e3, trivial⟩) K
  · split at e
    · exact vx_ast_ok hc hk G e (fun a j v r f0 e1 e2 e3 e4 => by
        obtain ⟨x, hx⟩ := vx_b0 (D := D) (ρ := ρ) (τ := τ) f0
        rw [hx] at e4 ⊢
        refine ⟨[_, _, _], ?_, kdIs_ok e1, e2, e3, trivial⟩
        show some (_, _, _, _, ft_set h a _ (narrow .byte (.int x)), _) = _
        rw [e4]) K
    · exact vx_ast_ok hc hk G e (fun a j v r f0 e1 e2 e3 e4 => by
        obtain ⟨x, hx⟩ := vx_z0 (D := D) (ρ := ρ) (τ := τ) f0
        rw [hx] at e4 ⊢
        refine ⟨[_, _, _], ?_, kdIs_ok e1, e2, e3, trivial⟩
        show some (_, _, _, _, ft_set h a _ (narrow .boolean (.int x)), _) = _
        rw [e4]) K
    · cases e
  · split at e
    · exact vx_aas_ok hc hk G e K
    · cases e
  · exact vx_len_ok hc hk G e K
  · split at e
    · exact vx_cpy_ok hc hk G e K
    · cases e
  · split at e
    · rename_i pc' lv' st' hp
      cases e
      obtain ⟨p1, p2⟩ := vx_p_ok (D := D) (ρ := ρ) (τ := τ) hp
      rw [hL] at p1
      obtain ⟨hd, hn, ho⟩ := ft_row_ok hc hk
      obtain ⟨a1, a2⟩ := p2 _ _ G.2.2.2.1 G.2.2.2.2.1
      exact ft_p_ok hd hn (ft_okC_of ho) p1 trivial (K _ (List.mem_singleton.mpr rfl) ρ τ h vx_agr.refl vx_agr.refl (Nat.le_refl _) (Nat.le_refl _) ⟨G.1, G.2.1, G.2.2.1, a1, a2, G.2.2.2.2.2⟩)
    · cases e
end VXU
