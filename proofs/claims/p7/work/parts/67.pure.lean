/-! steps that move values alone -/
abbrev LV : Type := List (Nat × AV)
abbrev vx_dL (D : ft_G) (ρ : Nat → Int) (τ : Nat → Nat) (lv : LV) : List (Nat × Value) := lv.map (fun q => (q.1, vx_d D ρ τ q.2))
abbrev vx_dS (D : ft_G) (ρ : Nat → Int) (τ : Nat → Nat) (st : List AV) : List Value := st.map (vx_d D ρ τ)
def vx_isR (v : AV) : Bool := !(Nat.beq v.1 0 || (Nat.beq v.1 1 || Nat.beq v.1 7))
def vx_is2 (v : AV) : Bool := Nat.beq v.1 2
def vx_is0 (v : AV) : Bool := Nat.beq v.1 0
def vx_is1 (v : AV) : Bool := Nat.beq v.1 1
def vx_s1 (lv : LV) (i : Nat) (v : AV) : LV := (i, v) :: lv.filter (fun q => !(q.1 == i) && !(q.1 + 1 == i && (vx_cat q.2) == 2))
def vx_s2 (lv : LV) (i : Nat) (v : AV) : LV := (i, v) :: lv.filter (fun q => !(q.1 == i) && (!(q.1 == i + 1) && !(q.1 + 1 == i && (vx_cat q.2) == 2)))
abbrev VP : Type := Nat × LV × List AV
def vx_ld (t : AV → Bool) (pc k : Nat) (lv : LV) (st : List AV) : Option VP := match ft_lk k lv with
  | some a => bif t a then some (pc, lv, a :: st) else none
  | none => none
def vx_st (t : AV → Bool) (pc k nL : Nat) (lv : LV) (st : List AV) : Option VP := match st with
  | a :: r => bif t a && Nat.blt k nL then some (pc, vx_s1 lv k a, r) else none
  | _ => none
def vx_st2 (pc k nL : Nat) (lv : LV) (st : List AV) : Option VP := match st with
  | a :: r => bif vx_is1 a && Nat.blt (k + 1) nL then some (pc, vx_s2 lv k a, r) else none
  | _ => none
/-- a long constant, signed -/
def vx_kJ (v : Nat) : Int := bif Nat.blt v 9223372036854775808 then Int.ofNat v else Int.negSucc (18446744073709551615 - v)
def vx_p (i : Instr) (pr : List Nat) (pc nL : Nat) (lv : LV) (st : List AV) : Option VP := match i with
  | .iconst n => match n with
    | .ofNat k => some (pc + 1, lv, av_i (vx_c (Int.ofNat k)) :: st)
    | .negSucc k => some (pc + 1, lv, av_i (vx_c (Int.negSucc k)) :: st)
  | .bipush n => match n with
    | .ofNat k => bif Nat.blt k 128 then some (pc + 2, lv, av_i (vx_c (Int.ofNat k)) :: st) else none
    | .negSucc k => bif Nat.blt k 128 then some (pc + 2, lv, av_i (vx_c (Int.negSucc k)) :: st) else none
  | .sipush n => match n with
    | .ofNat k => bif Nat.blt k 32768 then some (pc + 3, lv, av_i (vx_c (Int.ofNat k)) :: st) else none
    | .negSucc _ => none
  | .lconst n => some (pc + 1, lv, av_l (vx_c (Int.ofNat (n : Nat))) :: st)
  | .aconst_null => some (pc + 1, lv, av_z :: st)
  | .ldc _ => match pr with
    | [_, v] => some (pc + 2, lv, av_i (vx_c (Int.ofNat v)) :: st)
    | _ => none
  | .ldc_w _ => match pr with
    | [_, v] => some (pc + 3, lv, av_i (vx_c (Int.ofNat v)) :: st)
    | _ => none
  | .ldc2_w _ => match pr with
    | [_, v] => bif Nat.blt v 18446744073709551616 then some (pc + 3, lv, av_l (vx_c (vx_kJ v)) :: st) else none
    | _ => none
  | .iload k => vx_ld vx_is0 (pc + 2) k lv st
  | .iload_n k => vx_ld vx_is0 (pc + 1) (k : Nat) lv st
  | .lload k => vx_ld vx_is1 (pc + 2) k lv st
  | .lload_n k => vx_ld vx_is1 (pc + 1) (k : Nat) lv st
  | .aload k => vx_ld vx_isR (pc + 2) k lv st
  | .aload_n k => vx_ld vx_isR (pc + 1) (k : Nat) lv st
  | .istore k => vx_st vx_is0 (pc + 2) k nL lv st
  | .istore_n k => vx_st vx_is0 (pc + 1) (k : Nat) nL lv st
  | .lstore k => vx_st2 (pc + 2) k nL lv st
  | .lstore_n k => vx_st2 (pc + 1) (k : Nat) nL lv st
  | .astore k => vx_st vx_isR (pc + 2) k nL lv st
  | .astore_n k => vx_st vx_isR (pc + 1) (k : Nat) nL lv st
  | .iinc k n => match ft_lk k lv with
    | some a => bif vx_is0 a && Nat.blt k nL then some (pc + 3, vx_s1 lv k (av_i (vx_k a.2.1 n)), st) else none
    | none => none
  | .l2i => match st with
    | a :: r => bif vx_is1 a then some (pc + 1, lv, av_i a.2.1 :: r) else none
    | _ => none
  | .dup => match st with
    | v :: r => bif Nat.beq (vx_cat v) 1 then some (pc + 1, lv, v :: v :: r) else none
    | _ => none
  | .pop => match st with
    | v :: r => bif Nat.beq (vx_cat v) 1 then some (pc + 1, lv, r) else none
    | _ => none
  | .dup_x1 => match st with
    | v :: u :: r => bif Nat.beq (vx_cat v) 1 && Nat.beq (vx_cat u) 1 then some (pc + 1, lv, v :: u :: v :: r) else none
    | _ => none
  | .dup_x2 => match st with
    | v :: u :: t :: r => bif Nat.beq (vx_cat v) 1 && (Nat.beq (vx_cat u) 1 && Nat.beq (vx_cat t) 1) then some (pc + 1, lv, v :: u :: t :: v :: r) else none
    | _ => none
  | .dup2 => match st with
    | v :: u :: r => bif Nat.beq (vx_cat v) 1 && Nat.beq (vx_cat u) 1 then some (pc + 1, lv, v :: u :: v :: u :: r) else none
    | _ => none
  | .goto off => if 0 ≤ (pc : Int) + off then some (ft_tgt pc off, lv, st) else none
  | .ifnull off => match st with
    | v :: r => bif vx_is2 v then some (pc + 3, lv, r) else bif Nat.beq v.1 3 then (if 0 ≤ (pc : Int) + off then some (ft_tgt pc off, lv, r) else none) else none
    | _ => none
  | .ifnonnull off => match st with
    | v :: r => bif vx_is2 v then (if 0 ≤ (pc : Int) + off then some (ft_tgt pc off, lv, r) else none) else bif Nat.beq v.1 3 then some (pc + 3, lv, r) else none
    | _ => none
  | _ => none
section VXP
variable {D : ft_G} {ρ : Nat → Int} {τ : Nat → Nat}
theorem vx_d3 {v : AV} (h : v.1 = 3) : vx_d D ρ τ v = .null := by
  unfold vx_d
  split <;> first | rfl | (rename_i e; rw [h] at e; cases e)
theorem vx_dR {v : AV} (h : vx_isR v = true) : (∃ q, vx_d D ρ τ v = .ref q) ∨ vx_d D ρ τ v = .null := by
  unfold vx_isR at h
  unfold vx_d
  split
  · rename_i e; rw [e] at h; cases h
  · rename_i e; rw [e] at h; cases h
  · exact Or.inl ⟨_, rfl⟩
  · exact Or.inl ⟨_, rfl⟩
  · exact Or.inl ⟨_, rfl⟩
  · rename_i e; rw [e] at h; cases h
  · exact Or.inr rfl
theorem vx_dL_lk {k : Nat} : ∀ {lv : LV}, ft_lk k (vx_dL D ρ τ lv) = (ft_lk k lv).map (vx_d D ρ τ)
  | [] => rfl
  | (j, a) :: r => by
    show (if j = k then _ else _) = Option.map _ (if j = k then _ else _)
    by_cases e : j = k
    · rw [if_pos e, if_pos e]; rfl
    · rw [if_neg e, if_neg e]; exact vx_dL_lk
theorem vx_dL_filter {f : Nat × Value → Bool} {g : Nat × AV → Bool} (h : ∀ q : Nat × AV, f (q.1, vx_d D ρ τ q.2) = g q) : ∀ lv : LV, (vx_dL D ρ τ lv).filter f = vx_dL D ρ τ (lv.filter g)
  | [] => rfl
  | q :: r => by
    show List.filter f ((q.1, vx_d D ρ τ q.2) :: vx_dL D ρ τ r) = _
    rw [List.filter_cons, List.filter_cons, h q]
    cases g q
    · exact vx_dL_filter h r
    · simp only [if_true]
      show _ = (q.1, vx_d D ρ τ q.2) :: vx_dL D ρ τ _
      rw [vx_dL_filter h r]
theorem vx_dL_s1 (lv : LV) (i : Nat) (v : AV) : ft_s1 (vx_dL D ρ τ lv) i (vx_d D ρ τ v) = vx_dL D ρ τ (vx_s1 lv i v) := by
  unfold ft_s1 vx_s1
  show _ = (i, vx_d D ρ τ v) :: vx_dL D ρ τ _
  rw [vx_dL_filter (fun q => by rw [vx_d_cat])]
theorem vx_dL_s2 (lv : LV) (i : Nat) (v : AV) : ft_s2 (vx_dL D ρ τ lv) i (vx_d D ρ τ v) = vx_dL D ρ τ (vx_s2 lv i v) := by
  unfold ft_s2 vx_s2
  show _ = (i, vx_d D ρ τ v) :: vx_dL D ρ τ _
  rw [vx_dL_filter (fun q => by rw [vx_d_cat])]
def vx_altL (n m : Nat) (lv : LV) : Prop := ∀ q ∈ lv, vx_alt n m q.2
def vx_altS (n m : Nat) (st : List AV) : Prop := ∀ v ∈ st, vx_alt n m v
theorem vx_altL.mono {n m n' m' : Nat} {lv : LV} (h : vx_altL n m lv) (hn : n ≤ n') (hm : m ≤ m') : vx_altL n' m' lv := fun q hq => (h q hq).mono hn hm
theorem vx_altS.mono {n m n' m' : Nat} {st : List AV} (h : vx_altS n m st) (hn : n ≤ n') (hm : m ≤ m') : vx_altS n' m' st := fun q hq => (h q hq).mono hn hm
theorem vx_dL_agr {ρ' : Nat → Int} {τ' : Nat → Nat} {n m : Nat} (a : vx_agr n ρ ρ') (b : vx_agr m τ τ') : ∀ {lv : LV}, vx_altL n m lv → vx_dL D ρ' τ' lv = vx_dL D ρ τ lv
  | [], _ => rfl
  | q :: r, h => by
    show (q.1, vx_d D ρ' τ' q.2) :: vx_dL D ρ' τ' r = (q.1, vx_d D ρ τ q.2) :: vx_dL D ρ τ r
    rw [vx_d_agr (h q List.mem_cons_self) a b, vx_dL_agr a b (fun z hz => h z (List.mem_cons_of_mem _ hz))]
theorem vx_dS_agr {ρ' : Nat → Int} {τ' : Nat → Nat} {n m : Nat} (a : vx_agr n ρ ρ') (b : vx_agr m τ τ') : ∀ {st : List AV}, vx_altS n m st → vx_dS D ρ' τ' st = vx_dS D ρ τ st
  | [], _ => rfl
  | q :: r, h => by
    show vx_d D ρ' τ' q :: vx_dS D ρ' τ' r = vx_d D ρ τ q :: vx_dS D ρ τ r
    rw [vx_d_agr (h q List.mem_cons_self) a b, vx_dS_agr a b (fun z hz => h z (List.mem_cons_of_mem _ hz))]
theorem vx_altL_s1 {n m i : Nat} {lv : LV} {v : AV} (h : vx_altL n m lv) (hv : vx_alt n m v) : vx_altL n m (vx_s1 lv i v) := fun q hq => by
  rcases List.mem_cons.mp hq with e | e
  · rw [e]; exact hv
  · exact h q (List.mem_filter.mp e).1
theorem vx_altL_s2 {n m i : Nat} {lv : LV} {v : AV} (h : vx_altL n m lv) (hv : vx_alt n m v) : vx_altL n m (vx_s2 lv i v) := fun q hq => by
  rcases List.mem_cons.mp hq with e | e
  · rw [e]; exact hv
  · exact h q (List.mem_filter.mp e).1
theorem vx_altS_c {n m : Nat} {st : List AV} {v : AV} (hv : vx_alt n m v) (h : vx_altS n m st) : vx_altS n m (v :: st) := fun q hq => by
  rcases List.mem_cons.mp hq with e | e
  · rw [e]; exact hv
  · exact h q e
theorem vx_kJ_ok {v : Nat} (h : v < 18446744073709551616) : Int64.ofInt (vx_kJ v) = lN v := by
  unfold vx_kJ
  cases hb : Nat.blt v 9223372036854775808
  · simp only [cond_false]
    have q := blt_nlt hb
    apply Int64.toInt_inj.mp
    have e : (Int.negSucc (18446744073709551615 - v) : Int) = (v : Int) - 18446744073709551616 := by
      rw [Int.negSucc_eq]; omega
    rw [e, vx_oJ (by omega) (by omega), lN_tI2]
    omega
  · exact Int64.ofInt_eq_ofNat
theorem vx_n8 : ∀ k : Nat, k < 128 → (Int8.ofInt (Int.negSucc k)).toInt32 = Int32.ofInt (Int.negSucc k) := by decide +kernel
/-- what a moved value's step needs of the machine's own -/
abbrev vx_Pok (D : ft_G) (ρ : Nat → Int) (τ : Nat → Nat) (i : Instr) (pr : List Nat) (pc nL : Nat) (lv : LV) (st : List AV) (pc' : Nat) (lv' : LV) (st' : List AV) : Prop := ft_p i pr pc nL (vx_dL D ρ τ lv) (vx_dS D ρ τ st) = some ([], pc', vx_dL D ρ τ lv', vx_dS D ρ τ st') ∧ ∀ n m, vx_altL n m lv → vx_altS n m st → vx_altL n m lv' ∧ vx_altS n m st'
theorem vx_dc {k : Int} : vx_d D ρ τ (av_i (vx_c k)) = .int (Int32.ofInt k) := by
  show Value.int (Int32.ofInt (vx_ev ρ (vx_c k))) = _
  rw [vx_c_ev]
theorem vx_dcl {k : Int} : vx_d D ρ τ (av_l (vx_c k)) = .long (Int64.ofInt k) := by
  show Value.long (Int64.ofInt (vx_ev ρ (vx_c k))) = _
  rw [vx_c_ev]
theorem vx_altk {n m : Nat} {k : Int} : vx_alt n m (av_i (vx_c k)) := ⟨vx_c_lt, fun z => by cases z⟩
theorem vx_altkl {n m : Nat} {k : Int} : vx_alt n m (av_l (vx_c k)) := ⟨vx_c_lt, fun z => by cases z⟩
theorem vx_ld_ok {t : AV → Bool} {pc pc' k : Nat} {lv lv' : LV} {st st' : List AV} {F : Option Value → Option ft_PR} (hF : ∀ a : AV, t a = true → F (some (vx_d D ρ τ a)) = some ([], pc, vx_dL D ρ τ lv, vx_d D ρ τ a :: vx_dS D ρ τ st)) (e : vx_ld t pc k lv st = some (pc', lv', st')) :
    F (ft_lk k (vx_dL D ρ τ lv)) = some ([], pc', vx_dL D ρ τ lv', vx_dS D ρ τ st') ∧ ∀ n m, vx_altL n m lv → vx_altS n m st → vx_altL n m lv' ∧ vx_altS n m st' := by
  unfold vx_ld at e
  split at e
  · rename_i a ha
    cases hb : t a
    · rw [hb] at e; cases e
    · rw [hb] at e; cases e
      rw [vx_dL_lk, ha]
      exact ⟨hF a hb, fun n m h1 h2 => ⟨h1, vx_altS_c (h1 (k, a) (ft_lk_mem ha)) h2⟩⟩
  · cases e
theorem vx_st_ok {t : AV → Bool} {pc pc' k nL : Nat} {lv lv' : LV} {st st' : List AV} {F : List Value → Option ft_PR} (hF : ∀ (a : AV) (r : List Value), t a = true → k < nL → F (vx_d D ρ τ a :: r) = some ([], pc, ft_s1 (vx_dL D ρ τ lv) k (vx_d D ρ τ a), r)) (e : vx_st t pc k nL lv st = some (pc', lv', st')) :
    F (vx_dS D ρ τ st) = some ([], pc', vx_dL D ρ τ lv', vx_dS D ρ τ st') ∧ ∀ n m, vx_altL n m lv → vx_altS n m st → vx_altL n m lv' ∧ vx_altS n m st' := by
  unfold vx_st at e
  split at e
  · rename_i a r
    cases hb : (t a && Nat.blt k nL)
    · rw [hb] at e; cases e
    · rw [hb] at e; cases e
      rw [Bool.and_eq_true] at hb
      refine ⟨?_, fun n m h1 h2 => ⟨vx_altL_s1 h1 (h2 a List.mem_cons_self), fun z hz => h2 z (List.mem_cons_of_mem _ hz)⟩⟩
      show F (vx_d D ρ τ a :: vx_dS D ρ τ _) = _
      rw [hF a _ hb.1 (blt_lt hb.2), vx_dL_s1]
  · cases e
theorem vx_st2_ok {pc pc' k nL : Nat} {lv lv' : LV} {st st' : List AV} {F : List Value → Option ft_PR} (hF : ∀ (x : Int64) (r : List Value), k + 1 < nL → F (.long x :: r) = some ([], pc, ft_s2 (vx_dL D ρ τ lv) k (.long x), r)) (e : vx_st2 pc k nL lv st = some (pc', lv', st')) :
    F (vx_dS D ρ τ st) = some ([], pc', vx_dL D ρ τ lv', vx_dS D ρ τ st') ∧ ∀ n m, vx_altL n m lv → vx_altS n m st → vx_altL n m lv' ∧ vx_altS n m st' := by
  unfold vx_st2 at e
  split at e
  · rename_i a r
    cases hb : (vx_is1 a && Nat.blt (k + 1) nL)
    · rw [hb] at e; cases e
    · rw [hb] at e; cases e
      rw [Bool.and_eq_true] at hb
      refine ⟨?_, fun n m h1 h2 => ⟨vx_altL_s2 h1 (h2 a List.mem_cons_self), fun z hz => h2 z (List.mem_cons_of_mem _ hz)⟩⟩
      show F (vx_d D ρ τ a :: vx_dS D ρ τ _) = _
      have e1 := vx_d1 (D := D) (ρ := ρ) (τ := τ) (Nat.eq_of_beq_eq_true hb.1)
      rw [e1, hF _ _ (blt_lt hb.2), ← e1, vx_dL_s2]
  · cases e
end VXP
