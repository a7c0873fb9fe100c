section VXP2
variable {D : ft_G} {ρ : Nat → Int} {τ : Nat → Nat}
set_option maxHeartbeats 4000000 in
theorem vx_p_ok {i : Instr} {pr : List Nat} {pc pc' nL : Nat} {lv lv' : LV} {st st' : List AV} (e : vx_p i pr pc nL lv st = some (pc', lv', st')) : vx_Pok D ρ τ i pr pc nL lv st pc' lv' st' := by
  unfold vx_p at e
  split at e
  · -- iconst
    split at e
    · cases e
      refine ⟨?_, fun n m h1 h2 => ⟨h1, vx_altS_c vx_altk h2⟩⟩
      show some (_, _, _, _ :: _) = some (_, _, _, vx_d D ρ τ (av_i (vx_c _)) :: _)
      rw [vx_dc, ft_k32]
    · cases e
      refine ⟨?_, fun n m h1 h2 => ⟨h1, vx_altS_c vx_altk h2⟩⟩
      show some (_, _, _, _ :: _) = some (_, _, _, vx_d D ρ τ (av_i (vx_c _)) :: _)
      rw [vx_dc]
  · -- bipush
    split at e
    · rename_i k
      cases hb : Nat.blt k 128
      · rw [hb] at e; cases e
      · rw [hb] at e; cases e
        refine ⟨?_, fun n m h1 h2 => ⟨h1, vx_altS_c vx_altk h2⟩⟩
        show (if k < 128 then some (([] : List Prop), pc + 2, vx_dL D ρ τ lv, Value.int (nI k) :: vx_dS D ρ τ st) else none) = some (_, _, _, vx_d D ρ τ (av_i (vx_c _)) :: _)
        rw [if_pos (blt_lt hb), vx_dc, ft_k32]
    · rename_i k
      cases hb : Nat.blt k 128
      · rw [hb] at e; cases e
      · rw [hb] at e; cases e
        refine ⟨?_, fun n m h1 h2 => ⟨h1, vx_altS_c vx_altk h2⟩⟩
        show some (_, _, _, Value.int (Int8.ofInt (Int.negSucc k)).toInt32 :: _) = some (_, _, _, vx_d D ρ τ (av_i (vx_c _)) :: _)
        rw [vx_dc, vx_n8 k (blt_lt hb)]
  · -- sipush
    split at e
    · rename_i k
      cases hb : Nat.blt k 32768
      · rw [hb] at e; cases e
      · rw [hb] at e; cases e
        refine ⟨?_, fun n m h1 h2 => ⟨h1, vx_altS_c vx_altk h2⟩⟩
        show (if k < 32768 then some (([] : List Prop), pc + 3, vx_dL D ρ τ lv, Value.int (nI k) :: vx_dS D ρ τ st) else none) = some (_, _, _, vx_d D ρ τ (av_i (vx_c _)) :: _)
        rw [if_pos (blt_lt hb), vx_dc, ft_k32]
    · cases e
  · -- lconst
    cases e
    refine ⟨?_, fun n m h1 h2 => ⟨h1, vx_altS_c vx_altkl h2⟩⟩
    show some (_, _, _, _ :: _) = some (_, _, _, vx_d D ρ τ (av_l (vx_c _)) :: _)
    rw [vx_dcl]
    have : ∀ k : Nat, Int64.ofInt (Int.ofNat k) = lN k := fun k => Int64.ofInt_eq_ofNat
    rw [this]
  · -- aconst_null
    cases e
    exact ⟨rfl, fun n m h1 h2 => ⟨h1, vx_altS_c ⟨vx_c_lt, fun z => by cases z⟩ h2⟩⟩
  · -- ldc
    split at e
    · cases e
      refine ⟨?_, fun n m h1 h2 => ⟨h1, vx_altS_c vx_altk h2⟩⟩
      show some (_, _, _, _ :: _) = some (_, _, _, vx_d D ρ τ (av_i (vx_c _)) :: _)
      rw [vx_dc, ft_k32]
    · cases e
  · -- ldc_w
    split at e
    · cases e
      refine ⟨?_, fun n m h1 h2 => ⟨h1, vx_altS_c vx_altk h2⟩⟩
      show some (_, _, _, _ :: _) = some (_, _, _, vx_d D ρ τ (av_i (vx_c _)) :: _)
      rw [vx_dc, ft_k32]
    · cases e
  · -- ldc2_w
    split at e
    · rename_i v
      cases hb : Nat.blt v 18446744073709551616
      · rw [hb] at e; cases e
      · rw [hb] at e; cases e
        refine ⟨?_, fun n m h1 h2 => ⟨h1, vx_altS_c vx_altkl h2⟩⟩
        show some (_, _, _, _ :: _) = some (_, _, _, vx_d D ρ τ (av_l (vx_c _)) :: _)
        rw [vx_dcl, vx_kJ_ok (blt_lt hb)]
    · cases e
  · exact vx_ld_ok (F := fun o => match o with | some (.int x) => some ([], pc + 2, vx_dL D ρ τ lv, .int x :: vx_dS D ρ τ st) | _ => none) (fun a ha => by rw [vx_d0 (Nat.eq_of_beq_eq_true ha)]) e
  · exact vx_ld_ok (F := fun o => match o with | some (.int x) => some ([], pc + 1, vx_dL D ρ τ lv, .int x :: vx_dS D ρ τ st) | _ => none) (fun a ha => by rw [vx_d0 (Nat.eq_of_beq_eq_true ha)]) e
  · exact vx_ld_ok (F := fun o => match o with | some (.long x) => some ([], pc + 2, vx_dL D ρ τ lv, .long x :: vx_dS D ρ τ st) | _ => none) (fun a ha => by rw [vx_d1 (Nat.eq_of_beq_eq_true ha)]) e
  · exact vx_ld_ok (F := fun o => match o with | some (.long x) => some ([], pc + 1, vx_dL D ρ τ lv, .long x :: vx_dS D ρ τ st) | _ => none) (fun a ha => by rw [vx_d1 (Nat.eq_of_beq_eq_true ha)]) e
  · exact vx_ld_ok (F := fun o => match o with | some (.ref x) => some ([], pc + 2, vx_dL D ρ τ lv, .ref x :: vx_dS D ρ τ st) | some .null => some ([], pc + 2, vx_dL D ρ τ lv, .null :: vx_dS D ρ τ st) | _ => none) (fun a ha => by rcases vx_dR (D := D) (ρ := ρ) (τ := τ) ha with ⟨q, e1⟩ | e1 <;> rw [e1]) e
  · exact vx_ld_ok (F := fun o => match o with | some (.ref x) => some ([], pc + 1, vx_dL D ρ τ lv, .ref x :: vx_dS D ρ τ st) | some .null => some ([], pc + 1, vx_dL D ρ τ lv, .null :: vx_dS D ρ τ st) | _ => none) (fun a ha => by rcases vx_dR (D := D) (ρ := ρ) (τ := τ) ha with ⟨q, e1⟩ | e1 <;> rw [e1]) e
  · rename_i k
    exact vx_st_ok (F := fun s => match s with | .int x :: r => if k < nL then some ([], pc + 2, ft_s1 (vx_dL D ρ τ lv) k (.int x), r) else none | _ => none) (fun a r ha hk => by rw [vx_d0 (Nat.eq_of_beq_eq_true ha)]; simp only [if_pos hk]) e
  · rename_i k
    exact vx_st_ok (F := fun s => match s with | .int x :: r => if (k : Nat) < nL then some ([], pc + 1, ft_s1 (vx_dL D ρ τ lv) (k : Nat) (.int x), r) else none | _ => none) (fun a r ha hk => by rw [vx_d0 (Nat.eq_of_beq_eq_true ha)]; simp only [if_pos hk]) e
  · rename_i k
    exact vx_st2_ok (F := fun s => match s with | .long x :: r => if k + 1 < nL then some ([], pc + 2, ft_s2 (vx_dL D ρ τ lv) k (.long x), r) else none | _ => none) (fun x r hk => by simp only [if_pos hk]) e
  · rename_i k
    exact vx_st2_ok (F := fun s => match s with | .long x :: r => if (k : Nat) + 1 < nL then some ([], pc + 1, ft_s2 (vx_dL D ρ τ lv) (k : Nat) (.long x), r) else none | _ => none) (fun x r hk => by simp only [if_pos hk]) e
  · rename_i k
    exact vx_st_ok (F := fun s => match s with | .ref x :: r => if k < nL then some ([], pc + 2, ft_s1 (vx_dL D ρ τ lv) k (.ref x), r) else none | .null :: r => if k < nL then some ([], pc + 2, ft_s1 (vx_dL D ρ τ lv) k .null, r) else none | _ => none) (fun a r ha hk => by rcases vx_dR (D := D) (ρ := ρ) (τ := τ) ha with ⟨q, e1⟩ | e1 <;> rw [e1] <;> simp only [if_pos hk]) e
  · rename_i k
    exact vx_st_ok (F := fun s => match s with | .ref x :: r => if (k : Nat) < nL then some ([], pc + 1, ft_s1 (vx_dL D ρ τ lv) (k : Nat) (.ref x), r) else none | .null :: r => if (k : Nat) < nL then some ([], pc + 1, ft_s1 (vx_dL D ρ τ lv) (k : Nat) .null, r) else none | _ => none) (fun a r ha hk => by rcases vx_dR (D := D) (ρ := ρ) (τ := τ) ha with ⟨q, e1⟩ | e1 <;> rw [e1] <;> simp only [if_pos hk]) e
  · -- iinc
    rename_i k c
    split at e
    · rename_i a ha
      cases hb : (vx_is0 a && Nat.blt k nL)
      · rw [hb] at e; cases e
      · rw [hb] at e; cases e
        rw [Bool.and_eq_true] at hb
        have ea := vx_d0 (D := D) (ρ := ρ) (τ := τ) (Nat.eq_of_beq_eq_true hb.1)
        have hv : ∀ x : Int32, x = Int32.ofInt c → vx_d D ρ τ (av_i (vx_k a.2.1 c)) = .int (Int32.ofInt (vx_ev ρ a.2.1) + x) := fun x hx => by
          show Value.int (Int32.ofInt (vx_ev ρ (vx_k a.2.1 c))) = _
          rw [vx_k_ev, Int32.ofInt_add, hx]
        refine ⟨?_, fun n m h1 h2 => ⟨vx_altL_s1 h1 ⟨vx_k_lt (h1 (k, a) (ft_lk_mem ha)).1, fun z => by cases z⟩, h2⟩⟩
        unfold ft_p
        dsimp only
        rw [vx_dL_lk, ha]
        show (match some (vx_d D ρ τ a) with | some (.int x) => _ | _ => none) = _
        rw [ea]
        simp only [if_pos (blt_lt hb.2)]
        split
        · rename_i z
          rw [← vx_dL_s1, hv (nI z) (ft_k32 z).symm]
        · rename_i z
          rw [← vx_dL_s1, hv _ rfl]
    · cases e
  · -- l2i
    split at e
    · rename_i a r
      cases hb : vx_is1 a
      · rw [hb] at e; cases e
      · rw [hb] at e; cases e
        refine ⟨?_, fun n m h1 h2 => ⟨h1, vx_altS_c ⟨(h2 a List.mem_cons_self).1, fun z => by cases z⟩ (fun z hz => h2 z (List.mem_cons_of_mem _ hz))⟩⟩
        show ft_p .l2i pr pc nL (vx_dL D ρ τ lv) (vx_d D ρ τ a :: vx_dS D ρ τ r) = _
        rw [vx_d1 (Nat.eq_of_beq_eq_true hb)]
        show some (_, _, _, Value.int (Int64.toInt32 _) :: _) = some (_, _, _, Value.int (Int32.ofInt (vx_ev ρ a.2.1)) :: _)
        rw [vx_l2i_ok]
    · cases e
  · -- dup
    split at e
    · rename_i v r
      cases hb : Nat.beq (vx_cat v) 1
      · rw [hb] at e; cases e
      · rw [hb] at e; cases e
        have q : (vx_d D ρ τ v).category = 1 := by rw [vx_d_cat]; exact Nat.eq_of_beq_eq_true hb
        refine ⟨?_, fun n m h1 h2 => ⟨h1, vx_altS_c (h2 v List.mem_cons_self) h2⟩⟩
        show (if (vx_d D ρ τ v).category = 1 then _ else none) = _
        rw [if_pos q]; rfl
    · cases e
  · -- pop
    split at e
    · rename_i v r
      cases hb : Nat.beq (vx_cat v) 1
      · rw [hb] at e; cases e
      · rw [hb] at e; cases e
        have q : (vx_d D ρ τ v).category = 1 := by rw [vx_d_cat]; exact Nat.eq_of_beq_eq_true hb
        refine ⟨?_, fun n m h1 h2 => ⟨h1, fun z hz => h2 z (List.mem_cons_of_mem _ hz)⟩⟩
        show (if (vx_d D ρ τ v).category = 1 then _ else none) = _
        rw [if_pos q]
    · cases e
  · -- dup_x1
    split at e
    · rename_i v u r
      cases hb : (Nat.beq (vx_cat v) 1 && Nat.beq (vx_cat u) 1)
      · rw [hb] at e; cases e
      · rw [hb] at e; cases e
        rw [Bool.and_eq_true] at hb
        have q : (vx_d D ρ τ v).category = 1 ∧ (vx_d D ρ τ u).category = 1 := by rw [vx_d_cat, vx_d_cat]; exact ⟨Nat.eq_of_beq_eq_true hb.1, Nat.eq_of_beq_eq_true hb.2⟩
        refine ⟨?_, fun n m h1 h2 => ⟨h1, vx_altS_c (h2 v List.mem_cons_self) (vx_altS_c (h2 u (List.mem_cons_of_mem _ List.mem_cons_self)) (vx_altS_c (h2 v List.mem_cons_self) (fun z hz => h2 z (List.mem_cons_of_mem _ (List.mem_cons_of_mem _ hz)))))⟩⟩
        show (if (vx_d D ρ τ v).category = 1 ∧ (vx_d D ρ τ u).category = 1 then _ else none) = _
        rw [if_pos q]; rfl
    · cases e
  · -- dup_x2
    split at e
    · rename_i v u t r
      cases hb : (Nat.beq (vx_cat v) 1 && (Nat.beq (vx_cat u) 1 && Nat.beq (vx_cat t) 1))
      · rw [hb] at e; cases e
      · rw [hb] at e; cases e
        rw [Bool.and_eq_true, Bool.and_eq_true] at hb
        have q : (vx_d D ρ τ v).category = 1 ∧ (vx_d D ρ τ u).category = 1 ∧ (vx_d D ρ τ t).category = 1 := by rw [vx_d_cat, vx_d_cat, vx_d_cat]; exact ⟨Nat.eq_of_beq_eq_true hb.1, Nat.eq_of_beq_eq_true hb.2.1, Nat.eq_of_beq_eq_true hb.2.2⟩
        refine ⟨?_, fun n m h1 h2 => ⟨h1, vx_altS_c (h2 v List.mem_cons_self) (vx_altS_c (h2 u (List.mem_cons_of_mem _ List.mem_cons_self)) (vx_altS_c (h2 t (List.mem_cons_of_mem _ (List.mem_cons_of_mem _ List.mem_cons_self))) (vx_altS_c (h2 v List.mem_cons_self) (fun z hz => h2 z (List.mem_cons_of_mem _ (List.mem_cons_of_mem _ (List.mem_cons_of_mem _ hz)))))))⟩⟩
        show (if (vx_d D ρ τ v).category = 1 ∧ (vx_d D ρ τ u).category = 1 ∧ (vx_d D ρ τ t).category = 1 then _ else none) = _
        rw [if_pos q]; rfl
    · cases e
  · -- dup2
    split at e
    · rename_i v u r
      cases hb : (Nat.beq (vx_cat v) 1 && Nat.beq (vx_cat u) 1)
      · rw [hb] at e; cases e
      · rw [hb] at e; cases e
        rw [Bool.and_eq_true] at hb
        have q : (vx_d D ρ τ v).category = 1 ∧ (vx_d D ρ τ u).category = 1 := by rw [vx_d_cat, vx_d_cat]; exact ⟨Nat.eq_of_beq_eq_true hb.1, Nat.eq_of_beq_eq_true hb.2⟩
        refine ⟨?_, fun n m h1 h2 => ⟨h1, vx_altS_c (h2 v List.mem_cons_self) (vx_altS_c (h2 u (List.mem_cons_of_mem _ List.mem_cons_self)) h2)⟩⟩
        show (if (vx_d D ρ τ v).category = 1 ∧ (vx_d D ρ τ u).category = 1 then _ else none) = _
        rw [if_pos q]; rfl
    · cases e
  · -- goto
    split at e
    · rename_i q
      cases e
      refine ⟨?_, fun n m h1 h2 => ⟨h1, h2⟩⟩
      unfold ft_p
      dsimp only
      rw [if_pos q]
    · cases e
  · -- ifnull
    split at e
    · rename_i off _ v r
      cases hb : vx_is2 v
      · rw [hb] at e
        simp only [cond_false] at e
        cases h3 : Nat.beq v.1 3
        · rw [h3] at e; cases e
        · rw [h3] at e
          simp only [cond_true] at e
          split at e
          · rename_i q
            cases e
            refine ⟨?_, fun n m h1 h2 => ⟨h1, fun z hz => h2 z (List.mem_cons_of_mem _ hz)⟩⟩
            show ft_p (.ifnull off) pr pc nL _ (vx_d D ρ τ v :: _) = _
            rw [vx_d3 (Nat.eq_of_beq_eq_true h3)]
            show (if 0 ≤ (pc : Int) + off then _ else none) = _
            rw [if_pos q]
          · cases e
      · rw [hb] at e; cases e
        refine ⟨?_, fun n m h1 h2 => ⟨h1, fun z hz => h2 z (List.mem_cons_of_mem _ hz)⟩⟩
        show ft_p (.ifnull off) pr pc nL _ (vx_d D ρ τ v :: _) = _
        rw [vx_d2 (Nat.eq_of_beq_eq_true hb)]
        rfl
    · cases e
  · -- ifnonnull
    split at e
    · rename_i off _ v r
      cases hb : vx_is2 v
      · rw [hb] at e
        simp only [cond_false] at e
        cases h3 : Nat.beq v.1 3
        · rw [h3] at e; cases e
        · rw [h3] at e; cases e
          refine ⟨?_, fun n m h1 h2 => ⟨h1, fun z hz => h2 z (List.mem_cons_of_mem _ hz)⟩⟩
          show ft_p (.ifnonnull off) pr pc nL _ (vx_d D ρ τ v :: _) = _
          rw [vx_d3 (Nat.eq_of_beq_eq_true h3)]
          rfl
      · rw [hb] at e
        simp only [cond_true] at e
        split at e
        · rename_i q
          cases e
          refine ⟨?_, fun n m h1 h2 => ⟨h1, fun z hz => h2 z (List.mem_cons_of_mem _ hz)⟩⟩
          show ft_p (.ifnonnull off) pr pc nL _ (vx_d D ρ τ v :: _) = _
          rw [vx_d2 (Nat.eq_of_beq_eq_true hb)]
          show (if 0 ≤ (pc : Int) + off then _ else none) = _
          rw [if_pos q]
        · cases e
    · cases e
  · cases e
end VXP2
