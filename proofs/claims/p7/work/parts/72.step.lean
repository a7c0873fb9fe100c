section VXT
variable {D : ft_G} {κ : Nat → Nat × Nat} {n : Nat} {md : MD} {h0 : ft_H} {y uc us : Nat} {Q : Option Value → ft_H → Prop} {h : ft_H} {ρ : Nat → Int} {τ : Nat → Nat} {s : VS} {lv : LV} {st : List AV}
theorem vx_d4 {v : AV} (h : v.1 = 4) : vx_d D ρ τ v = .ref (D.2.2.2.2.1 v.2.2) := by
  unfold vx_d
  split <;> first | rfl | (rename_i e; rw [h] at e; cases e) | (rename_i _ _ _ e _ _; exact absurd h e)
theorem vx_d5 {v : AV} (h : v.1 = 5) : vx_d D ρ τ v = .ref D.2.2.2.2.2.1 := by
  unfold vx_d
  split <;> first | rfl | (rename_i e; rw [h] at e; cases e) | (rename_i _ _ _ _ e _; exact absurd h e)
theorem vx_d7 {v : AV} (h : v.1 = 7) : vx_d D ρ τ v = .int (Int32.ofInt (Int.sign (vx_ev ρ v.2.1))) := by
  unfold vx_d
  split <;> first | rfl | (rename_i e; rw [h] at e; cases e) | (rename_i _ _ _ _ _ e; exact absurd h e)
theorem vx_len_ok {pr : List Nat} {pc nn : Nat} (hc : ft_chk y = true) (hk : ft_lk pc (ft_c y) = some (.arraylength, nn, pr)) (G : VG D κ n md h0 y h ρ τ s lv st) {L : List SU} (e : vx_len y s pc lv st = some L)
    (K : ∀ u ∈ L, VK D κ n md h0 y uc us Q s ρ τ u) : sm D y pc (vx_dL D ρ τ lv) (vx_dS D ρ τ st) h uc us Q := by
  unfold vx_len at e
  split at e
  · rename_i a r
    cases hb : vx_is2 a
    · rw [hb] at e
      simp only [cond_false] at e
      cases hb2 : (Nat.beq a.1 5 && Nat.beq y 0)
      · rw [hb2] at e; cases e
      · rw [hb2] at e
        cases e
        rw [Bool.and_eq_true] at hb2
        obtain ⟨g1, g2, g3⟩ := G.2.2.2.2.2 (Nat.eq_of_beq_eq_true hb2.2)
        obtain ⟨hd, hn, -⟩ := ft_row_ok hc hk
        rw [hn] at hd
        show sm D y pc _ (vx_d D ρ τ a :: vx_dS D ρ τ r) h uc us Q
        rw [vx_d5 (Nat.eq_of_beq_eq_true hb2.1)]
        refine sm_slen hd (v := vx_d D ρ τ (av_i (vx_v 0))) ?_ ?_
        · show _ = Value.int (Int32.ofInt (vx_ev ρ (vx_v 0)))
          rw [vx_v_ev, g2, Int32.ofInt_eq_ofNat]
        · exact vx_push G G.1.on ⟨vx_v_lt g1, fun z => by cases z⟩ (fun z hz => List.mem_cons_of_mem _ hz) (K _ (List.mem_singleton.mpr rfl))
    · rw [hb] at e
      simp only [cond_true] at e
      split at e
      · cases e
      · rename_i k hkk
        cases hb2 : kdArr k.1
        · rw [hb2] at e; cases e
        · rw [hb2] at e
          cases e
          have hK := (G.1.2.2.1 _ k hkk).2
          show sm D y pc _ (vx_d D ρ τ a :: vx_dS D ρ τ r) h uc us Q
          rw [vx_d2 (Nat.eq_of_beq_eq_true hb)]
          refine ft_e_ok hc hk (os := [vx_d D ρ τ (av_i (vx_c (Int.ofNat k.2)))]) (os' := []) rfl ⟨?_, ?_, trivial⟩ ?_
          · rw [vx_kap G, hK]; exact kdArr_ok hb2
          · rw [vx_kap G, hK, vx_dc]
            have : Int32.ofInt (Int.ofNat k.2) = Int32.ofNat k.2 := Int32.ofInt_eq_ofNat
            rw [this]
          · exact vx_push G G.1.on vx_altk (fun z hz => List.mem_cons_of_mem _ hz) (K _ (List.mem_singleton.mpr rfl))
  · cases e
theorem vx_svb : ∀ k, k < 3 → ∀ j, j < 4 → svN k j ≤ 255 := by decide +kernel
theorem vx_ial_ok {pr : List Nat} {pc nn : Nat} (hc : ft_chk y = true) (hk : ft_lk pc (ft_c y) = some (.iaload, nn, pr)) (G : VG D κ n md h0 y h ρ τ s lv st) {L : List SU} (e : vx_ial y s pc lv st = some L)
    (K : ∀ u ∈ L, VK D κ n md h0 y uc us Q s ρ τ u) : sm D y pc (vx_dL D ρ τ lv) (vx_dS D ρ τ st) h uc us Q := by
  obtain ⟨hd, hn, -⟩ := ft_row_ok hc hk
  rw [hn] at hd
  unfold vx_ial at e
  split at e
  · rename_i ix a r
    have ai := G.2.2.2.2.1 ix List.mem_cons_self
    cases h4 : Nat.beq a.1 4
    · rw [h4] at e
      simp only [cond_false] at e
      cases h5 : Nat.beq a.1 5
      · rw [h5] at e
        simp only [cond_false] at e
        exact vx_ald_ok hc hk G e (fun a j v r e1 e2 e3 => ⟨_, rfl, kdIs_ok e1, e2, e3, trivial⟩) K
      · rw [h5] at e
        simp only [cond_true] at e
        cases hb : (vx_is0 ix && (Nat.beq y 0 && (vx_g s ix.2.1 && (vx_g s (vx_k (vx_sub (vx_v 0) ix.2.1) (Int.negSucc 0)) && Nat.blt 0 (vs_r s)))))
        · rw [hb] at e; cases e
        · rw [hb] at e
          simp only [cond_true] at e
          rw [Bool.and_eq_true, Bool.and_eq_true, Bool.and_eq_true, Bool.and_eq_true] at hb
          obtain ⟨b1, b2, b3, b4, b5⟩ := hb
          obtain ⟨g1, g2, g3⟩ := G.2.2.2.2.2 (Nat.eq_of_beq_eq_true b2)
          have x0 := G.1.ge ai.1 b3
          have x1 := G.1.ge (vx_k_lt (vx_sub_lt (vx_v_lt g1) ai.1)) b4
          rw [vx_k_ev, vx_sub_ev, vx_v_ev, vx_m1, g2] at x1
          have ei : Int32.ofInt (vx_ev ρ ix.2.1) = nI (vx_ev ρ ix.2.1).toNat := by
            have : vx_ev ρ ix.2.1 = (((vx_ev ρ ix.2.1).toNat : Nat) : Int) := by omega
            rw [this]
            simp only [Int.toNat_natCast]
            exact Int32.ofInt_eq_ofNat
          show sm D y pc _ (vx_d D ρ τ ix :: vx_d D ρ τ a :: vx_dS D ρ τ r) h uc us Q
          rw [vx_d0 (Nat.eq_of_beq_eq_true b1), vx_d5 (Nat.eq_of_beq_eq_true h5), ei]
          refine sm_sld hd (vpE (by omega) g3) ?_
          rw [clampE (by omega)]
          split at e
          · rename_i v hv
            cases e
            obtain ⟨m1, m2, m3, m4⟩ := G.1.2.2.2.1 _ (vx_find_ok hv)
            have m5 := m4.2
            simp only [if_true] at m5
            rw [m5]
            exact vx_push G G.1.on m2 (fun z hz => List.mem_cons_of_mem _ (List.mem_cons_of_mem _ hz)) (K _ (List.mem_singleton.mpr rfl))
          · split at e
            · cases e
            · rename_i q hq
              cases e
              have hx := vx_fI (D.2.2.2.2.2.2.2 (vx_ev ρ ix.2.1).toNat)
              obtain ⟨o1, o2, o3, o4, o5⟩ := G.1.new hx.1 hx.2 (s' := q.1) (l := q.2) hq
              have hval : Value.int (D.2.2.2.2.2.2.2 (vx_ev ρ ix.2.1).toNat) = vx_d D (vx_upd ρ (vs_n s) (D.2.2.2.2.2.2.2 (vx_ev ρ ix.2.1).toNat).toInt) τ (av_i q.2) := by
                show _ = Value.int (Int32.ofInt (vx_ev _ q.2))
                rw [o3, Int32.ofInt_toInt]
              have hei : vx_ev (vx_upd ρ (vs_n s) (D.2.2.2.2.2.2.2 (vx_ev ρ ix.2.1).toNat).toInt) ix.2.1 = vx_ev ρ ix.2.1 := vx_ev_agr o1.1 ai.1
              have V2 : VOk D κ h (vx_upd ρ (vs_n s) (D.2.2.2.2.2.2.2 (vx_ev ρ ix.2.1).toNat).toInt) τ (vx_mem q.1 (0, ix.2.1, av_i q.2)) := by
                refine o1.2.2.1.mem (ai.1.mono o1.2.2.2.1) ⟨o2, fun z => by cases z⟩ (Nat.lt_of_lt_of_le (blt_lt b5) o1.2.2.2.2) ⟨?_, ?_⟩
                · show 0 ≤ vx_ev _ ix.2.1
                  rw [hei]; exact x0
                · show (if (0 : Nat) = 0 then Value.int (D.2.2.2.2.2.2.2 (vx_ev _ ix.2.1).toNat) = vx_d D _ τ (av_i q.2) else _)
                  rw [if_pos rfl, hei]; exact hval
              rw [hval]
              exact vx_push G (v := av_i q.2) ⟨o1.1, o1.2.1, V2, o1.2.2.2⟩ ⟨o2, fun z => by cases z⟩ (fun z hz => List.mem_cons_of_mem _ (List.mem_cons_of_mem _ hz)) (K _ (List.mem_singleton.mpr rfl))
    · rw [h4] at e
      simp only [cond_true] at e
      cases hb : (vx_is0 ix && (Nat.blt a.2.2 3 && vx_in s ix.2.1 (Int.ofNat 0) (Int.ofNat 3)))
      · rw [hb] at e; cases e
      · rw [hb] at e
        simp only [cond_true] at e
        rw [Bool.and_eq_true, Bool.and_eq_true] at hb
        obtain ⟨b1, b2, b3⟩ := hb
        obtain ⟨i1, i2⟩ := G.1.inn ai.1 b3
        obtain ⟨u, hu, -, u2, u3⟩ := vx_natI i1 i2 (by decide)
        have k3 := blt_lt b2
        have hst : ft_st[a.2.2]? = some (ft_st.getD a.2.2 ("", "", "")) := by
          have h3 : a.2.2 < ft_st.length := k3
          rw [List.getD_eq_getElem?_getD, List.getElem?_eq_getElem h3]
          rfl
        show sm D y pc _ (vx_d D ρ τ ix :: vx_d D ρ τ a :: vx_dS D ρ τ r) h uc us Q
        rw [vx_d0 (Nat.eq_of_beq_eq_true b1), vx_d4 (Nat.eq_of_beq_eq_true h4), u3]
        refine sm_tld hd hst (vpE (by omega) (by decide)) ?_
        rw [clampE (by omega), svN_ok a.2.2 k3 u (by omega)]
        split at e
        · rename_i j hj
          cases e
          have : vx_ev ρ ix.2.1 = (j : Int) := by rw [hj]; exact vx_c_ev _
          have hju : u = j := by omega
          rw [hju]
          have hv : Value.int (nI (svN a.2.2 j)) = vx_d D ρ τ (av_i (vx_c (Int.ofNat (svN a.2.2 j)))) := by rw [vx_dc, ft_k32]
          rw [hv]
          exact vx_push G G.1.on vx_altk (fun z hz => List.mem_cons_of_mem _ (List.mem_cons_of_mem _ hz)) (K _ (List.mem_singleton.mpr rfl))
        · split at e
          · cases e
          · rename_i q hq
            cases e
            have hb255 := vx_svb a.2.2 k3 u (by omega)
            obtain ⟨o1, o2, o3, o4, o5⟩ := G.1.new (lo := Int.ofNat 0) (hi := Int.ofNat 255) (x := ((svN a.2.2 u : Nat) : Int)) (Int.natCast_nonneg _) (by show ((svN a.2.2 u : Nat) : Int) ≤ 255; omega) (s' := q.1) (l := q.2) hq
            have hv : Value.int (nI (svN a.2.2 u)) = vx_d D (vx_upd ρ (vs_n s) ((svN a.2.2 u : Nat) : Int)) τ (av_i q.2) := by
              show _ = Value.int (Int32.ofInt (vx_ev _ q.2))
              rw [o3, Int32.ofInt_eq_ofNat]
              rfl
            rw [hv]
            exact vx_push G o1 ⟨o2, fun z => by cases z⟩ (fun z hz => List.mem_cons_of_mem _ (List.mem_cons_of_mem _ hz)) (K _ (List.mem_singleton.mpr rfl))
  · cases e
end VXT
/-- System.arraycopy of ints from and to the first place (Packet.fill alone has it) -/
def vx_cpy (md : MD) (y : Nat) (s : VS) (pc : Nat) (lv : LV) (st : List AV) : Option (List SU) := match st with
  | [nn, dp, d, sp, a] => bif Nat.beq y y_Pa_fill && (Nat.beq pc 33 && (vx_is0 nn && (vx_is0 dp && (vx_is0 sp && (vx_is2 d && (vx_is2 a && (vx_eq dp.2.1 (vx_c (Int.ofNat 0)) && vx_eq sp.2.1 (vx_c (Int.ofNat 0))))))))) then (match tG (vs_K s) a.2.2, tG (vs_K s) d.2.2 with
    | some ka, some kd => bif kdIs ka.1 .int && (kdIs kd.1 .int && (Nat.blt 12 ka.1 && (Nat.blt 12 kd.1 && (Nat.blt ka.2 1000000 && (Nat.blt kd.2 1000000 && (vx_in s nn.2.1 (Int.ofNat 0) (Int.ofNat ka.2) && (vx_in s nn.2.1 (Int.ofNat 0) (Int.ofNat kd.2) && vx_cov md (kd.1, Int.ofNat 0, Int.ofNat kd.2 + Int.negSucc 0)))))))) then (match vx_fa ka.1 (vx_c (Int.ofNat 0)), vx_fa kd.1 (vx_c (Int.ofNat 0)), Nat.beq ka.1 kd_M_due || Nat.beq kd.1 kd_M_due, tG vx_fO ka.1, tG vx_fO kd.1 with
      | some (0, l1, u1), some (0, l2, u2), false, none, none => bif vx_ile l2 l1 && vx_ile u1 u2 then some [(vx_cut s (fun e => vx_keepm s e [(kd.1, Int.ofNat 0, Int.ofNat kd.2 + Int.negSucc 0)]), pc + 3, lv, [])] else none
      | _, _, _, _, _ => none) else none
    | _, _ => none) else none
  | _ => none
def vx_1 (o : Option (VS × AV)) (pc : Nat) (lv : LV) (r : List AV) : Option (List SU) := match o with
  | none => none
  | some q => some [(q.1, pc, lv, q.2 :: r)]
/-- a step of a walk that is no call, no end -/
def vx_step (md : MD) (y nL : Nat) (i : Instr) (pr : List Nat) (pc : Nat) (s : VS) (lv : LV) (st : List AV) : Option (List SU) := match i with
  | .iadd => vx_2i 0 s pc lv st
  | .isub => vx_2i 1 s pc lv st
  | .imul => vx_2i 2 s pc lv st
  | .iand => vx_2i 3 s pc lv st
  | .ior => vx_2i 4 s pc lv st
  | .ixor => vx_2i 5 s pc lv st
  | .ishl => vx_2i 6 s pc lv st
  | .ishr => vx_2i 7 s pc lv st
  | .idiv => vx_2i 8 s pc lv st
  | .irem => vx_2i 9 s pc lv st
  | .ladd => vx_2l 20 s pc lv st
  | .lsub => vx_2l 21 s pc lv st
  | .land => vx_2l 22 s pc lv st
  | .lor => vx_2l 23 s pc lv st
  | .lshl => vx_2s 24 s pc lv st
  | .lshr => vx_2s 25 s pc lv st
  | .i2l => match st with
    | a :: r => bif vx_is0 a then vx_1 ((vx_fin s (vx_i2l s a.2.1)).map (fun q => (q.1, av_l q.2))) (pc + 1) lv r else none
    | _ => none
  | .i2b => match st with
    | a :: r => bif vx_is0 a then vx_1 ((vx_fin s (vx_i2b s a.2.1)).map (fun q => (q.1, av_i q.2))) (pc + 1) lv r else none
    | _ => none
  | .lcmp => match st with
    | b :: a :: r => bif vx_is1 a && (vx_is1 b && (vx_in s a.2.1 fJ.1 fJ.2 && vx_in s b.2.1 fJ.1 fJ.2)) then some [(s, pc + 1, lv, (7, vx_sub a.2.1 b.2.1, 0) :: r)] else none
    | _ => none
  | .pop2 => match st with
    | v :: r => bif vx_is1 v then some [(s, pc + 1, lv, r)] else none
    | _ => none
  | .ifCond cn off => match pr, st with
    | [], a :: r => if 0 ≤ (pc : Int) + off then (bif Nat.beq a.1 7 then some (vx_two s true cn a.2.1 (ft_tgt pc off) (pc + 3) lv r) else bif vx_is0 a then some (vx_two s (vx_in s a.2.1 fI.1 fI.2) cn a.2.1 (ft_tgt pc off) (pc + 3) lv r) else none) else none
    | _, _ => none
  | .if_icmp cn off => match pr, st with
    | [], b :: a :: r => if 0 ≤ (pc : Int) + off then (bif vx_is0 a && vx_is0 b then some (vx_two s (vx_in s a.2.1 fI.1 fI.2 && vx_in s b.2.1 fI.1 fI.2) cn (vx_sub a.2.1 b.2.1) (ft_tgt pc off) (pc + 3) lv r) else none) else none
    | _, _ => none
  | .tableswitch d lo hi offs => match pr, st with
    | [], a :: r => if 0 ≤ (pc : Int) + d ∧ hi - lo + 1 = (offs.toList.length : Int) then (bif vx_is0 a && vx_in s a.2.1 fI.1 fI.2 then (match vx_sw s a.2.1 pc lv r lo offs.toList with
      | none => none
      | some L => some (vx_opt (vx_asm s .lt (vx_k a.2.1 (-lo))) (ft_tgt pc d) lv r ++ (vx_opt (vx_asm s .gt (vx_k a.2.1 (-hi))) (ft_tgt pc d) lv r ++ L))) else none) else none
    | _, _ => none
  | .getfield _ => match pr with
    | [_, ci, k] => vx_gf ci k s pc lv st
    | _ => none
  | .putfield _ => match pr with
    | [_, ci, k] => vx_pf md ci k s pc lv st
    | _ => none
  | .getstatic _ => match pr with
    | [_, k] => some [(s, pc + 3, lv, (4, vx_c (Int.ofNat 0), k) :: st)]
    | _ => none
  | .iaload => vx_ial y s pc lv st
  | .laload => vx_ald (fun c => kdIs c .long) s pc lv st
  | .baload => match pr with
    | [0] => vx_ald (fun c => kdIs c .byte) s pc lv st
    | [1] => vx_ald (fun c => kdIs c .boolean) s pc lv st
    | _ => none
  | .aaload => vx_ald kdRef s pc lv st
  | .iastore => vx_ast md (fun c => kdIs c .int) .int s pc lv st
  | .lastore => vx_ast md (fun c => kdIs c .long) .long s pc lv st
  | .bastore => match pr with
    | [0] => vx_ast md (fun c => kdIs c .byte) .byte s pc lv st
    | [1] => vx_ast md (fun c => kdIs c .boolean) .boolean s pc lv st
    | _ => none
  | .aastore => match pr with
    | [ci] => vx_aas md ci s pc lv st
    | _ => none
  | .arraylength => vx_len y s pc lv st
  | .invokestatic _ => match pr with
    | [_] => vx_cpy md y s pc lv st
    | _ => none
  | i => match vx_p i pr pc nL lv st with
    | some (pc', lv', st') => some [(s, pc', lv', st')]
    | none => none
