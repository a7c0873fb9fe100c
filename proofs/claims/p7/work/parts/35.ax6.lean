/-! exact runs: branches, calls, ends -/
abbrev OUT : Type := BD × Option AE × AH
/-- how a value compares with itself -/
def selfC : Jvm.ClassFile.Cond → Bool
  | .eq => true | .ne => false | .lt => false | .ge => true | .gt => false | .le => true
def axbr (B : BD) (cn : Jvm.ClassFile.Cond) (a b : AE) (T F : BD → Option (List OUT)) : Option (List OUT) := match sides a b with
  | (p, p2) => match (bif aB p p2 then some (selfC cn) else match cmpN cn (bd B p) (bd B p2) with
    | some r => some r
    | none => cmpF cn p p2 B) with
    | some true => T B
    | some false => F B
    | none => match T (refB cn p p2 B) with
      | none => none
      | some x => match F (refB (negC cn) p p2 B) with
        | none => none
        | some y => some (x ++ y)
def popn : Nat → List AE → List AE → Option (List AE × List AE)
  | 0, st, acc => some (acc, st)
  | _ + 1, [], _ => none
  | n + 1, a :: st, acc => popn n st (a :: acc)
def al_args : Nat → List AE → List (Nat × AE)
  | _, [] => []
  | k, a :: r => (k, a) :: al_args (k + (aC a)) r
def axall : List OUT → (OUT → Option (List OUT)) → Option (List OUT)
  | [], _ => some []
  | o :: l, g => match g o with
    | none => none
    | some x => match axall l g with
      | none => none
      | some y => some (x ++ y)
def retE (ty : Option FieldType) (v : Option AE) (i : Instr) : Bool := match ty, v, i with
  | none, none, .return_ => true
  | some .int, some a, .ireturn => (aI a)
  | some .boolean, some a, .ireturn => fitE .boolean a
  | some .long, some a, .lreturn => (aL a)
  | some (.object _), some a, .areturn => (aR a)
  | _, _, _ => false
/-- a method that is called: its budget, and what it leaves on the stack -/
def axcal (M N : MR) (args r : List AE) (uc us : Nat) : Bool := Nat.ble ((r.map aC).sum) 8 && (Nat.ble ((args.map aC).sum) N.2.2.1 && (Nat.ble (uc + N.2.2.2.1) M.2.2.2.1 && Nat.ble (us + N.2.2.2.2.1) M.2.2.2.2.1))
def axrcv (H : AH) (o : Nat) (N : MR) : Bool := match tG H.2 o with
  | some c => Nat.blt N.2.2.2.2.2.1 ft_nc && Nat.beq c.1 (N.2.2.2.2.2.1 + 1)
  | none => false
abbrev AXS : Type := Nat → List AE → AH → Option (Option AE × AH)
def axend (B : BD) (M : MR) (v : Option AE) (i : Instr) (H : AH) (uc us : Nat) : Option (List OUT) := bif retE M.2.2.2.2.2.2 v i && (Nat.ble uc M.2.2.2.1 && Nat.ble us M.2.2.2.2.1) then some [(B, v, H)] else none
def ax (S : AXS) (C : TR MR) (X : SCR) : Nat → BD → Nat → MR → Nat → List (Nat × AE) → List AE → AH → Nat → Nat → Option (List OUT)
  | 0, _, _, _, _, _, _, _, _, _ => none
  | f + 1, B, y, M, pc, lv, st, H, uc, us => match tG M.1 pc with
    | none => none
    | some (i, _, pr) => match i, pr, st with
      | .ifCond cn off, [], a :: r => bif (aI a) && decide (0 ≤ (pc : Int) + off) then axbr B cn a (kI 0) (fun B => ax S C X f B y M (ft_tgt pc off) lv r H uc us) (fun B => ax S C X f B y M (pc + 3) lv r H uc us) else none
      | .if_icmp cn off, [], b :: a :: r => bif ((aI a) && (aI b)) && decide (0 ≤ (pc : Int) + off) then axbr B cn a b (fun B => ax S C X f B y M (ft_tgt pc off) lv r H uc us) (fun B => ax S C X f B y M (pc + 3) lv r H uc us) else none
      | .invokevirtual _, [_, z, _, _, _, _, _], st => match tG C z with
        | none => none
        | some N => match popn N.2.1 st [] with
          | some (as, .leaf (2, o) :: r) => bif axcal M N (kR o :: as) r uc us && axrcv H o N then (match S z (kR o :: as) H with
            | some (v, H') => ax S C X f B y M (pc + 3) lv (v.toList ++ r) H' (uc + N.2.2.2.1) (us + N.2.2.2.2.1)
            | none => match ax S C X f B z N 0 (al_args 0 (kR o :: as)) [] H 0 0 with
              | none => none
              | some outs => axall outs (fun q => ax S C X f q.1 y M (pc + 3) lv (q.2.1.toList ++ r) q.2.2 (uc + N.2.2.2.1) (us + N.2.2.2.2.1))) else none
          | _ => none
      | .invokestatic _, [_, z, _, _, _, _], st => match tG C z with
        | none => none
        | some N => match popn N.2.1 st [] with
          | some (as, r) => bif axcal M N as r uc us then (match S z as H with
            | some (v, H') => ax S C X f B y M (pc + 3) lv (v.toList ++ r) H' (uc + N.2.2.2.1) (us + N.2.2.2.2.1)
            | none => match ax S C X f B z N 0 (al_args 0 as) [] H 0 0 with
              | none => none
              | some outs => axall outs (fun q => ax S C X f q.1 y M (pc + 3) lv (q.2.1.toList ++ r) q.2.2 (uc + N.2.2.2.1) (us + N.2.2.2.2.1))) else none
          | none => none
      | .invokespecial _, [_, z, _, _, _, _], st => match tG C z with
        | none => none
        | some N => match popn N.2.1 st [] with
          | some (as, .leaf (2, o) :: r) => bif axcal M N (kR o :: as) r uc us then (match S z (kR o :: as) H with
            | some (v, H') => ax S C X f B y M (pc + 3) lv (v.toList ++ r) H' (uc + N.2.2.2.1) (us + N.2.2.2.2.1)
            | none => match ax S C X f B z N 0 (al_args 0 (kR o :: as)) [] H 0 0 with
              | none => none
              | some outs => axall outs (fun q => ax S C X f q.1 y M (pc + 3) lv (q.2.1.toList ++ r) q.2.2 (uc + N.2.2.2.1) (us + N.2.2.2.2.1))) else none
          | _ => none
      | .ireturn, [], [a] => axend B M (some a) .ireturn H uc us
      | .lreturn, [], [a] => axend B M (some a) .lreturn H uc us
      | .areturn, [], [a] => axend B M (some a) .areturn H uc us
      | .return_, [], [] => axend B M none .return_ H uc us
      | i, pr, st => match axe X B y M i pr pc lv st H uc us with
        | some (pc', lv', st', H', uc', us') => ax S C X f B y M pc' lv' st' H' uc' us'
        | none => none
section AX9
variable {D : ft_G} {ρ : Nat → Int32} {σ : Nat → Int64} {h0 : ft_H}
/-- how a run may end -/
def QO (D : ft_G) (ρ : Nat → Int32) (σ : Nat → Int64) (h0 : ft_H) (outs : List OUT) (v : Option Value) (h : ft_H) : Prop := ∃ o ∈ outs, BOK ρ σ o.1 ∧ v = o.2.1.map (aD D ρ σ) ∧ h = (hD D ρ σ h0 o.2.2)
theorem cond12 (cn : Jvm.ClassFile.Cond) (x : Int32) : ft_cond1 cn x ↔ ft_cond2 cn x (nI 0) := by
  cases cn <;> exact Iff.rfl
theorem axbr_ok {B : BD} (hB : BOK ρ σ B) {cn : Jvm.ClassFile.Cond} {a b : AE} (ha : (aI a) = true) (hb : (aI b) = true) {T F : BD → Option (List OUT)} {outs : List OUT} {RT RF : (Option Value → ft_H → Prop) → Prop}
    (mono : ∀ {Q Q' : Option Value → ft_H → Prop}, (∀ v h, Q v h → Q' v h) → (RT Q → RT Q') ∧ (RF Q → RF Q'))
    (hT : ∀ B o, BOK ρ σ B → T B = some o → RT (QO D ρ σ h0 o)) (hF : ∀ B o, BOK ρ σ B → F B = some o → RF (QO D ρ σ h0 o)) (he : axbr B cn a b T F = some outs) :
    (ft_cond2 cn (eP ρ σ a).1 (eP ρ σ b).1 → RT (QO D ρ σ h0 outs)) ∧ (¬ ft_cond2 cn (eP ρ σ a).1 (eP ρ σ b).1 → RF (QO D ρ σ h0 outs)) := by
  have hs := sides_ok (ρ := ρ) (σ := σ) (cn := cn) ha hb
  unfold axbr at he
  split at he
  rename_i p p2 hpq
  rw [hpq] at hs
  have hp := bd_ok hB p
  have hq := bd_ok hB p2
  have hcm : ∀ r, (bif aB p p2 then some (selfC cn) else match cmpN cn (bd B p) (bd B p2) with
    | some r => some r
    | none => cmpF cn p p2 B) = some r → (r = true → relN cn (ov ρ σ p) (ov ρ σ p2)) ∧ (r = false → ¬ relN cn (ov ρ σ p) (ov ρ σ p2)) := by
    intro r hr
    cases hpp : aB p p2
    · rw [hpp] at hr
      simp only [cond_false] at hr
      split at hr
      · rename_i r' hr'
        cases hr
        exact cmpN_ok hp hq hr'
      · exact cmpF_ok hB hr
    · rw [hpp] at hr
      cases hr
      rw [← aB_ok hpp]
      cases cn
      · exact ⟨fun _ => rfl, fun z => by cases z⟩
      · exact ⟨fun z => (by cases z), fun _ z => z rfl⟩
      · exact ⟨fun z => (by cases z), fun _ => Nat.lt_irrefl _⟩
      · exact ⟨fun _ => Nat.le_refl _, fun z => by cases z⟩
      · exact ⟨fun z => (by cases z), fun _ => Nat.lt_irrefl _⟩
      · exact ⟨fun _ => Nat.le_refl _, fun z => by cases z⟩
  split at he
  · rename_i hc
    have z := (hcm _ hc).1 rfl
    exact ⟨fun _ => hT _ _ hB he, fun n => absurd (hs.mp z) n⟩
  · rename_i hc
    have z := (hcm _ hc).2 rfl
    exact ⟨fun n => absurd (hs.mpr n) z, fun _ => hF _ _ hB he⟩
  · split at he
    · cases he
    · rename_i x hx
      split at he
      · cases he
      · rename_i y hy
        cases he
        refine ⟨fun z => (mono ?_).1 (hT _ _ (refB_ok hB (hs.mpr z)) hx), fun z => (mono ?_).2 (hF _ _ (refB_ok hB (negC_ok (fun n => z (hs.mp n)))) hy)⟩
        · rintro v h ⟨o, ho, hv⟩
          exact ⟨o, List.mem_append.mpr (Or.inl ho), hv⟩
        · rintro v h ⟨o, ho, hv⟩
          exact ⟨o, List.mem_append.mpr (Or.inr ho), hv⟩
theorem popn_ok : ∀ {n : Nat} {st acc as r : List AE}, popn n st acc = some (as, r) → as.reverse ++ r = acc.reverse ++ st ∧ as.length = acc.length + n
  | 0, st, acc, as, r, h => by cases h; exact ⟨rfl, rfl⟩
  | n + 1, [], acc, as, r, h => by cases h
  | n + 1, a :: st, acc, as, r, h => by
    obtain ⟨h1, h2⟩ := popn_ok (n := n) (st := st) (acc := a :: acc) h
    refine ⟨?_, ?_⟩
    · rw [h1, List.reverse_cons, List.append_assoc]; rfl
    · rw [h2, List.length_cons]; omega
theorem popn_st {n : Nat} {st as r : List AE} (h : popn n st [] = some (as, r)) : st = as.reverse ++ r ∧ as.length = n := by
  obtain ⟨h1, h2⟩ := popn_ok h
  exact ⟨h1.symm, by rw [h2]; simp⟩
theorem al_args_ok : ∀ (k : Nat) (as : List AE), dL D ρ σ (al_args k as) = lv_args k (dS D ρ σ as)
  | _, [] => by unfold al_args lv_args; rfl
  | k, a :: r => by
    show (k, aD D ρ σ a) :: dL D ρ σ (al_args (k + aC a) r) = (k, aD D ρ σ a) :: lv_args (if (aD D ρ σ a).category = 2 then k + 2 else k + 1) (dS D ρ σ r)
    rw [al_args_ok, aD_cat]
    have : aC a = 1 ∨ aC a = 2 := by
      unfold aC; cases aL a
      · exact Or.inl rfl
      · exact Or.inr rfl
    rcases this with e | e <;> rw [e] <;> rfl
theorem lg_sl_len : ∀ as : List AE, (lg_sl (dS D ρ σ as)).length = (as.map aC).sum
  | [] => rfl
  | a :: r => by
    have ih := lg_sl_len r
    unfold lg_sl at ih ⊢
    show (List.flatMap _ ((aD D ρ σ a) :: dS D ρ σ r)).length = _
    rw [List.flatMap_cons, List.length_append, ih, List.map_cons, List.sum_cons]
    congr 1
    rw [aD_cat]
    have : (aC a) = 1 ∨ (aC a) = 2 := by
      unfold aC; cases (aL a)
      · exact Or.inl rfl
      · exact Or.inr rfl
    rcases this with e | e <;> rw [e] <;> rfl
theorem retE_ok {ty : Option FieldType} {v : Option AE} {i : Instr} (h : retE ty v i = true) : ft_ret ty (v.map (aD D ρ σ)) i := by
  unfold retE at h
  split at h
  · trivial
  · rename_i a; show ft_ret _ (some ((aD D ρ σ a))) _; rw [aD_I h]; trivial
  · rename_i a
    show ft_ret _ (some ((aD D ρ σ a))) _
    have hF := (fitE_ok (D := D) (ρ := ρ) (σ := σ) h).1
    unfold fitE at h
    simp only [] at h
    split at h
    · exact hF
    · cases h
  · rename_i a; show ft_ret _ (some ((aD D ρ σ a))) _; rw [aD_L h]; trivial
  · rename_i a; show ft_ret _ (some ((aD D ρ σ a))) _
    rcases aD_R (D := D) (ρ := ρ) (σ := σ) h with ⟨q, e1⟩ | e1 <;> rw [e1] <;> trivial
  · cases h
theorem axall_ok {g : OUT → Option (List OUT)} {R : OUT → (Option Value → ft_H → Prop) → Prop} (mono : ∀ o {Q Q' : Option Value → ft_H → Prop}, (∀ v h, Q v h → Q' v h) → R o Q → R o Q') (hg : ∀ o x, BOK ρ σ o.1 → g o = some x → R o (QO D ρ σ h0 x)) :
    ∀ {l : List OUT} {outs : List OUT}, axall l g = some outs → ∀ o ∈ l, BOK ρ σ o.1 → R o (QO D ρ σ h0 outs)
  | [], outs, h, o, ho, _ => by cases ho
  | q :: l, outs, h, o, ho, hc => by
    unfold axall at h
    split at h
    · cases h
    · rename_i x hx
      split at h
      · cases h
      · rename_i y hy
        cases h
        rcases List.mem_cons.mp ho with e | e
        · subst e
          refine mono _ ?_ (hg _ _ hc hx)
          rintro v h ⟨p, hp, hv⟩
          exact ⟨p, List.mem_append.mpr (Or.inl hp), hv⟩
        · refine mono _ ?_ (axall_ok mono hg hy o e hc)
          rintro v h ⟨p, hp, hv⟩
          exact ⟨p, List.mem_append.mpr (Or.inr hp), hv⟩
/-- what is asked of the calls that are told, not run -/
def SOK (D : ft_G) (ρ : Nat → Int32) (σ : Nat → Int64) (h0 : ft_H) (S : AXS) : Prop := ∀ z as H v H', S z as H = some (v, H') → sm D z 0 (lv_args 0 (dS D ρ σ as)) [] ((hD D ρ σ h0 H)) 0 0 (fun v' h' => v' = v.map (aD D ρ σ) ∧ h' = (hD D ρ σ h0 H'))
def COK (C : TR MR) : Prop := ∀ z N, tG C z = some N → MOK z N ∧ ft_zok z
theorem optL (v : Option AE) (r : List AE) : dS D ρ σ (v.toList ++ r) = (v.map (aD D ρ σ)).toList ++ dS D ρ σ r := by
  cases v <;> rfl
theorem axcal_ok {M N : MR} {y z uc us : Nat} {args r : List AE} (hM : MOK y M) (hN : MOK z N) (h : axcal M N args r uc us = true) : ((dS D ρ σ r).map fun v => v.category).sum ≤ 8 ∧ (lg_sl (dS D ρ σ args)).length ≤ ft_nL z ∧ uc + ft_mc z ≤ ft_mc y ∧ us + ft_mz z ≤ ft_mz y := by
  unfold axcal at h
  rw [Bool.and_eq_true, Bool.and_eq_true, Bool.and_eq_true] at h
  rw [hM.2.2.2.2.1, hM.2.2.2.2.2.1, hN.2.2.2.1, hN.2.2.2.2.1, hN.2.2.2.2.2.1]
  exact ⟨by rw [cat_sum]; exact Nat.le_of_ble_eq_true h.1, by rw [lg_sl_len]; exact Nat.le_of_ble_eq_true h.2.1, Nat.le_of_ble_eq_true h.2.2.1, Nat.le_of_ble_eq_true h.2.2.2⟩
theorem axrcv_ok {H : AH} {o z : Nat} {N : MR} (hN : MOK z N) (h : axrcv H o N = true) : N.2.2.2.2.2.1 < ft_nc ∧ (ft_cd N.2.2.2.2.2.1).1 = (ft_m z).1.cls ∧ (((hD D ρ σ h0 H)).2.1 (ft_B D + o)).1 = N.2.2.2.2.2.1 + 1 := by
  unfold axrcv at h
  split at h
  · rename_i c hc
    rw [Bool.and_eq_true] at h
    exact ⟨blt_lt h.1, hN.2.2.2.2.2.2.1 (blt_lt h.1), by rw [hD_K hc]; exact Nat.eq_of_beq_eq_true h.2⟩
  · cases h
theorem axend_ok {B : BD} (hB : BOK ρ σ B) {M : MR} {y pc uc us : Nat} {v : Option AE} {i : Instr} {H : AH} {lv : List (Nat × AE)} {outs : List OUT} (hM : MOK y M) (hk : ft_lk pc (ft_c y) = some (i, 1, [])) (he : axend B M v i H uc us = some outs) : sm D y pc (dL D ρ σ lv) (v.map (aD D ρ σ)).toList ((hD D ρ σ h0 H)) uc us (QO D ρ σ h0 outs) := by
  unfold axend at he
  cases hb : (retE M.2.2.2.2.2.2 v i && (Nat.ble uc M.2.2.2.1 && Nat.ble us M.2.2.2.2.1)) with
  | false => rw [hb] at he; cases he
  | true =>
    rw [hb] at he
    cases he
    rw [Bool.and_eq_true, Bool.and_eq_true, ← hM.2.2.2.2.1, ← hM.2.2.2.2.2.1, ← hM.2.2.2.2.2.2.2.1] at hb
    exact r_ret hM.1 hk (retE_ok hb.1) (Nat.le_of_ble_eq_true hb.2.1) (Nat.le_of_ble_eq_true hb.2.2) ⟨_, List.mem_singleton.mpr rfl, hB, rfl, rfl⟩
end AX9
section AX10
variable {D : ft_G} {ρ : Nat → Int32} {σ : Nat → Int64} {h0 : ft_H}
set_option maxHeartbeats 4000000 in
theorem ax_ok {S : AXS} {C : TR MR} {X : SCR} (hS : SOK D ρ σ h0 S) (hC : COK C) (hX : XOK D ρ σ X) : ∀ (f : Nat) (B : BD) (y : Nat) (M : MR) (pc : Nat) (lv : List (Nat × AE)) (st : List AE) (H : AH) (uc us : Nat) (outs : List OUT), BOK ρ σ B → MOK y M → ax S C X f B y M pc lv st H uc us = some outs → axsm D ρ σ h0 y pc lv st H uc us (QO D ρ σ h0 outs)
  | 0, B, y, M, pc, lv, st, H, uc, us, outs, hB, hM, he => by cases he
  | f + 1, B, y, M, pc, lv, st, H, uc, us, outs, hB, hM, he => by
    have IH := ax_ok hS hC hX f
    have hc := hM.1
    unfold ax at he
    split at he
    · cases he
    · rename_i i n pr hk0
      have hk := hM.2.2.2.2.2.2.2.2 _ _ hk0
      split at he
      · -- ifCond
        rename_i cn off a r
        cases hb : ((aI a) && decide (0 ≤ (pc : Int) + off)) with
        | false => rw [hb] at he; cases he
        | true =>
          rw [hb] at he
          simp only [cond_true] at he
          rw [Bool.and_eq_true] at hb
          have q := axbr_ok (D := D) (ρ := ρ) (σ := σ) (h0 := h0) hB hb.1 rfl (RT := fun Q => axsm D ρ σ h0 y (ft_tgt pc off) lv r H uc us Q) (RF := fun Q => axsm D ρ σ h0 y (pc + 3) lv r H uc us Q) (fun m => ⟨fun k => sm.mono k m, fun k => sm.mono k m⟩) (fun B o b e => IH _ _ _ _ _ _ _ _ _ _ b hM e) (fun B o b e => IH _ _ _ _ _ _ _ _ _ _ b hM e) he
          show sm D y pc _ ((aD D ρ σ a) :: dS D ρ σ r) _ uc us _
          rw [aD_I hb.1]
          exact r_if hc (ax_len hc hk rfl) (ft_tgt_ok (of_decide_eq_true hb.2)) (fun c => q.1 ((cond12 _ _).mp c)) (fun c => q.2 (fun z => c ((cond12 _ _).mpr z)))
      · -- if_icmp
        rename_i cn off b a r
        cases hb : (((aI a) && (aI b)) && decide (0 ≤ (pc : Int) + off)) with
        | false => rw [hb] at he; cases he
        | true =>
          rw [hb] at he
          simp only [cond_true] at he
          rw [Bool.and_eq_true, Bool.and_eq_true] at hb
          have q := axbr_ok (D := D) (ρ := ρ) (σ := σ) (h0 := h0) hB hb.1.1 hb.1.2 (RT := fun Q => axsm D ρ σ h0 y (ft_tgt pc off) lv r H uc us Q) (RF := fun Q => axsm D ρ σ h0 y (pc + 3) lv r H uc us Q) (fun m => ⟨fun k => sm.mono k m, fun k => sm.mono k m⟩) (fun B o b e => IH _ _ _ _ _ _ _ _ _ _ b hM e) (fun B o b e => IH _ _ _ _ _ _ _ _ _ _ b hM e) he
          show sm D y pc _ ((aD D ρ σ b) :: (aD D ρ σ a) :: dS D ρ σ r) _ uc us _
          rw [aD_I hb.1.1, aD_I hb.1.2]
          exact r_icmp hc (ax_len hc hk rfl) (ft_tgt_ok (of_decide_eq_true hb.2)) q.1 q.2
      · -- invokevirtual
        rename_i z _ _ _ _ _
        split at he
        · cases he
        · rename_i N hnp
          have hNz := hC _ _ hnp
          have hN := hNz.1
          obtain ⟨z1, z2, z3⟩ := (⟨hN.1, hNz.2, hN.2.2.1⟩ : ft_chk z = true ∧ ft_zok z ∧ ft_np z = N.2.1)
          split at he
          · rename_i as o r hp
            obtain ⟨hst, hlen⟩ := popn_st hp
            cases hb : (axcal M N (kR o :: as) r uc us && axrcv H o N) with
            | false => rw [hb] at he; cases he
            | true =>
              rw [hb] at he
              simp only [cond_true] at he
              rw [Bool.and_eq_true] at hb
              obtain ⟨c1, c2, c3, c4⟩ := axcal_ok (D := D) (ρ := ρ) (σ := σ) hM hN hb.1
              obtain ⟨d1, d2, d3⟩ := axrcv_ok (D := D) (ρ := ρ) (σ := σ) (h0 := h0) hN hb.2
              rw [hst]
              show sm D y pc _ (dS D ρ σ (as.reverse ++ kR o :: r)) _ uc us _
              rw [show dS D ρ σ (as.reverse ++ kR o :: r) = (dS D ρ σ as).reverse ++ .ref (ft_B D + o) :: dS D ρ σ r from by simp only [dS, List.map_append, List.map_cons, List.map_reverse]; rfl]
              split at he
              · rename_i v H' hs
                refine r_callV hc (ax_len hc hk rfl) z2 (by rw [List.length_map, hlen, z3]) d1 d2 d3 c1 c2 c3 c4 (hS _ _ _ _ _ hs) ?_
                rintro v' h' ⟨rfl, rfl⟩
                rw [← optL, hN.2.2.2.2.1, hN.2.2.2.2.2.1]
                exact IH _ _ _ _ _ _ _ _ _ _ hB hM he
              · split at he
                · cases he
                · rename_i outs1 h1
                  have k1 := IH _ _ _ _ _ _ _ _ _ _ hB hN h1
                  unfold axsm at k1
                  rw [al_args_ok] at k1
                  refine r_callV hc (ax_len hc hk rfl) z2 (by rw [List.length_map, hlen, z3]) d1 d2 d3 c1 c2 c3 c4 k1 ?_
                  rintro v' h' ⟨q, hq, hqc, rfl, rfl⟩
                  rw [← optL, hN.2.2.2.2.1, hN.2.2.2.2.2.1]
                  exact axall_ok (R := fun q Q => axsm D ρ σ h0 y (pc + 3) lv (q.2.1.toList ++ r) q.2.2 (uc + N.2.2.2.1) (us + N.2.2.2.2.1) Q) (fun o _ _ m k => sm.mono k m) (fun o x b e => IH _ _ _ _ _ _ _ _ _ _ b hM e) he q hq hqc
          · cases he
      · -- invokestatic
        rename_i z _ _ _ _
        split at he
        · cases he
        · rename_i N hnp
          have hNz := hC _ _ hnp
          have hN := hNz.1
          obtain ⟨z1, z2, z3⟩ := (⟨hN.1, hNz.2, hN.2.2.1⟩ : ft_chk z = true ∧ ft_zok z ∧ ft_np z = N.2.1)
          split at he
          · rename_i as r hp
            obtain ⟨hst, hlen⟩ := popn_st hp
            cases hb : axcal M N as r uc us with
            | false => rw [hb] at he; cases he
            | true =>
              rw [hb] at he
              simp only [cond_true] at he
              obtain ⟨c1, c2, c3, c4⟩ := axcal_ok (D := D) (ρ := ρ) (σ := σ) hM hN hb
              rw [hst]
              show sm D y pc _ (dS D ρ σ (as.reverse ++ r)) _ uc us _
              rw [show dS D ρ σ (as.reverse ++ r) = (dS D ρ σ as).reverse ++ dS D ρ σ r from by simp [dS]]
              split at he
              · rename_i v H' hs
                refine r_callS hc (ax_len hc hk rfl) z2 (by rw [List.length_map, hlen, z3]) c1 c2 c3 c4 (hS _ _ _ _ _ hs) ?_
                rintro v' h' ⟨rfl, rfl⟩
                rw [← optL, hN.2.2.2.2.1, hN.2.2.2.2.2.1]
                exact IH _ _ _ _ _ _ _ _ _ _ hB hM he
              · split at he
                · cases he
                · rename_i outs1 h1
                  have k1 := IH _ _ _ _ _ _ _ _ _ _ hB hN h1
                  unfold axsm at k1
                  rw [al_args_ok] at k1
                  refine r_callS hc (ax_len hc hk rfl) z2 (by rw [List.length_map, hlen, z3]) c1 c2 c3 c4 k1 ?_
                  rintro v' h' ⟨q, hq, hqc, rfl, rfl⟩
                  rw [← optL, hN.2.2.2.2.1, hN.2.2.2.2.2.1]
                  exact axall_ok (R := fun q Q => axsm D ρ σ h0 y (pc + 3) lv (q.2.1.toList ++ r) q.2.2 (uc + N.2.2.2.1) (us + N.2.2.2.2.1) Q) (fun o _ _ m k => sm.mono k m) (fun o x b e => IH _ _ _ _ _ _ _ _ _ _ b hM e) he q hq hqc
          · cases he
      · -- invokespecial
        rename_i z _ _ _ _
        split at he
        · cases he
        · rename_i N hnp
          have hNz := hC _ _ hnp
          have hN := hNz.1
          obtain ⟨z1, z2, z3⟩ := (⟨hN.1, hNz.2, hN.2.2.1⟩ : ft_chk z = true ∧ ft_zok z ∧ ft_np z = N.2.1)
          split at he
          · rename_i as o r hp
            obtain ⟨hst, hlen⟩ := popn_st hp
            cases hb : axcal M N (kR o :: as) r uc us with
            | false => rw [hb] at he; cases he
            | true =>
              rw [hb] at he
              simp only [cond_true] at he
              obtain ⟨c1, c2, c3, c4⟩ := axcal_ok (D := D) (ρ := ρ) (σ := σ) hM hN hb
              rw [hst]
              show sm D y pc _ (dS D ρ σ (as.reverse ++ kR o :: r)) _ uc us _
              rw [show dS D ρ σ (as.reverse ++ kR o :: r) = (dS D ρ σ as).reverse ++ .ref (ft_B D + o) :: dS D ρ σ r from by simp only [dS, List.map_append, List.map_cons, List.map_reverse]; rfl]
              split at he
              · rename_i v H' hs
                refine r_callI hc (ax_len hc hk rfl) z2 (by rw [List.length_map, hlen, z3]) c1 c2 c3 c4 (hS _ _ _ _ _ hs) ?_
                rintro v' h' ⟨rfl, rfl⟩
                rw [← optL, hN.2.2.2.2.1, hN.2.2.2.2.2.1]
                exact IH _ _ _ _ _ _ _ _ _ _ hB hM he
              · split at he
                · cases he
                · rename_i outs1 h1
                  have k1 := IH _ _ _ _ _ _ _ _ _ _ hB hN h1
                  unfold axsm at k1
                  rw [al_args_ok] at k1
                  refine r_callI hc (ax_len hc hk rfl) z2 (by rw [List.length_map, hlen, z3]) c1 c2 c3 c4 k1 ?_
                  rintro v' h' ⟨q, hq, hqc, rfl, rfl⟩
                  rw [← optL, hN.2.2.2.2.1, hN.2.2.2.2.2.1]
                  exact axall_ok (R := fun q Q => axsm D ρ σ h0 y (pc + 3) lv (q.2.1.toList ++ r) q.2.2 (uc + N.2.2.2.1) (us + N.2.2.2.2.1) Q) (fun o _ _ m k => sm.mono k m) (fun o x b e => IH _ _ _ _ _ _ _ _ _ _ b hM e) he q hq hqc
          · cases he
      · exact axend_ok hB hM (ax_len hc hk rfl) he
      · exact axend_ok hB hM (ax_len hc hk rfl) he
      · exact axend_ok hB hM (ax_len hc hk rfl) he
      · exact axend_ok hB (v := none) hM (ax_len hc hk rfl) he
      · split at he
        · rename_i hx
          exact axe_ok hX hB hM hk hx (IH _ _ _ _ _ _ _ _ _ _ hB hM he)
        · cases he
end AX10
theorem COK_e : COK tE := fun z N h => by cases h
theorem COK_set {C : TR MR} {y : Nat} {M : MR} (h : COK C) (hM : MOK y M) (hz0 : ft_zok y) (hy : y + 1 < 2 ^ 8) : COK (tS 8 C y M) := by
  intro z N hz
  rw [tG_set 8 C y M z hy] at hz
  split at hz
  · rename_i e
    cases hz
    subst e
    exact ⟨hM, hz0⟩
  · exact h z N hz
