/-! exact runs: the heap's cells, each known -/
abbrev CE : Type := Nat × Nat × Option (AE × AE) × TR AE
abbrev AH : Type := Nat × TR CE
def dfT : FieldType → AE
  | .long => kL 0
  | .object _ => kZ
  | .array _ => kZ
  | _ => kI 0
def cA (c : CE) (j : Nat) : AE := match tG c.2.2.2 j with
  | some a => a
  | none => match c.2.2.1 with
    | some (a, b) => bif Nat.blt j c.2.1 then a else b
    | none => dfT (ft_ty (c.1 - 1) j)
def aD (D : ft_G) (ρ : Nat → Int32) (σ : Nat → Int64) (e : AE) : Value := match e with
  | .leaf (2, o) => .ref (ft_B D + o)
  | .leaf (3, k) => .ref (D.2.2.2.2.1 k)
  | .leaf (5, _) => .ref D.2.2.2.2.2.1
  | e => bif aI e then .int (eP ρ σ e).1 else bif aL e then .long (eP ρ σ e).2 else .null
def aC (e : AE) : Nat := bif (aL e) then 2 else 1
def hD (D : ft_G) (ρ : Nat → Int32) (σ : Nat → Int64) (h0 : ft_H) (H : AH) : ft_H :=
  (fun b j => if b < ft_B D then h0.1 b j else match tG H.2 (b - ft_B D) with
    | some c => (aD D ρ σ (cA c j))
    | none => h0.1 b j,
   fun b => if b < ft_B D then h0.2.1 b else match tG H.2 (b - ft_B D) with
    | some c => (c.1, c.2.1)
    | none => h0.2.1 b,
   ft_B D + H.1)
def hP (H : AH) (o j : Nat) (a : AE) : Option AH := match tG H.2 o with
  | some c => bif aB (cA c j) a then some H else bif Nat.blt (o + 1) 4096 && Nat.blt (j + 1) 65536 then some ⟨H.1, tS 12 H.2 o ⟨c.1, c.2.1, c.2.2.1, tS 16 c.2.2.2 j a⟩⟩ else none
  | none => none
def hN (H : AH) (c : CE) : Option AH := bif Nat.blt (H.1 + 1) 4096 then some ⟨H.1 + 1, tS 12 H.2 H.1 c⟩ else none
section AX
variable {D : ft_G} {ρ : Nat → Int32} {σ : Nat → Int64} {h0 : ft_H}
theorem aD_I {e : AE} (h : aI e = true) : aD D ρ σ e = .int (eP ρ σ e).1 := by
  unfold aD
  split
  · cases h
  · cases h
  · cases h
  · rw [h]; rfl
theorem aIL {e : AE} (h : aL e = true) : aI e = false := by
  match e, h with
  | .leaf (t, n), h =>
    have h' : (Nat.beq t 1 || Nat.beq t 7) = true := h
    rw [Bool.or_eq_true] at h'
    show (Nat.beq t 0 || Nat.beq t 6) = false
    rcases h' with q | q
    · rw [Nat.eq_of_beq_eq_true q]; rfl
    · rw [Nat.eq_of_beq_eq_true q]; rfl
  | .branch o a b, h =>
    have h' : (!Nat.blt o 20) = true := h
    show Nat.blt o 20 = false
    cases hb : Nat.blt o 20
    · rfl
    · rw [hb] at h'; cases h'
theorem aD_L {e : AE} (h : aL e = true) : aD D ρ σ e = .long (eP ρ σ e).2 := by
  have h2 := aIL h
  unfold aD
  split
  · cases h
  · cases h
  · cases h
  · rw [h, h2]; rfl
theorem aIorL (e : AE) : aR e = true ∨ aI e = true ∨ aL e = true := by
  match e with
  | .leaf (t, n) =>
    show (!((Nat.beq t 0 || Nat.beq t 6) || (Nat.beq t 1 || Nat.beq t 7))) = true ∨ (Nat.beq t 0 || Nat.beq t 6) = true ∨ (Nat.beq t 1 || Nat.beq t 7) = true
    cases (Nat.beq t 0 || Nat.beq t 6)
    · cases (Nat.beq t 1 || Nat.beq t 7)
      · exact Or.inl rfl
      · exact Or.inr (Or.inr rfl)
    · exact Or.inr (Or.inl rfl)
  | .branch o a b =>
    show false = true ∨ Nat.blt o 20 = true ∨ (!Nat.blt o 20) = true
    cases Nat.blt o 20
    · exact Or.inr (Or.inr rfl)
    · exact Or.inr (Or.inl rfl)
theorem aR_not {e : AE} (h : aR e = true) : aI e = false ∧ aL e = false := by
  match e, h with
  | .leaf (t, n), h =>
    have h' : (!((Nat.beq t 0 || Nat.beq t 6) || (Nat.beq t 1 || Nat.beq t 7))) = true := h
    show (Nat.beq t 0 || Nat.beq t 6) = false ∧ (Nat.beq t 1 || Nat.beq t 7) = false
    cases h1 : (Nat.beq t 0 || Nat.beq t 6)
    · cases h2 : (Nat.beq t 1 || Nat.beq t 7)
      · exact ⟨rfl, rfl⟩
      · rw [h1, h2] at h'; cases h'
    · rw [h1] at h'; cases h'
/-- a reference, or none -/
theorem aD_R {e : AE} (h : aR e = true) : (∃ q, aD D ρ σ e = .ref q) ∨ aD D ρ σ e = .null := by
  obtain ⟨h1, h2⟩ := aR_not h
  unfold aD
  split
  · exact Or.inl ⟨_, rfl⟩
  · exact Or.inl ⟨_, rfl⟩
  · exact Or.inl ⟨_, rfl⟩
  · rw [h1, h2]; exact Or.inr rfl
theorem aD_cat (e : AE) : (aD D ρ σ e).category = aC e := by
  rcases aIorL e with h | h | h
  · have hn := aR_not h
    unfold aC
    rw [hn.2]
    rcases aD_R (D := D) (ρ := ρ) (σ := σ) h with ⟨q, e1⟩ | e1 <;> rw [e1] <;> rfl
  · rw [aD_I h]
    have : aL e = false := by cases hl : aL e with
      | false => rfl
      | true => rw [aIL hl] at h; cases h
    unfold aC; rw [this]; rfl
  · rw [aD_L h]; unfold aC; rw [h]; rfl
theorem hD_V {H : AH} {o : Nat} {c : CE} (h : tG H.2 o = some c) (j : Nat) : ((hD D ρ σ h0 H)).1 (ft_B D + o) j = (aD D ρ σ (cA c j)) := by
  show (if ft_B D + o < ft_B D then _ else _) = _
  rw [if_neg (by omega), show ft_B D + o - ft_B D = o from by omega, h]
theorem hD_K {H : AH} {o : Nat} {c : CE} (h : tG H.2 o = some c) : ((hD D ρ σ h0 H)).2.1 (ft_B D + o) = (c.1, c.2.1) := by
  show (if ft_B D + o < ft_B D then _ else _) = _
  rw [if_neg (by omega), show ft_B D + o - ft_B D = o from by omega, h]
/-- a cell's places, one changed -/
theorem cA_set {c : CE} {j : Nat} {a : AE} (hj : j + 1 < 65536) (i : Nat) : (cA ⟨c.1, c.2.1, c.2.2.1, tS 16 c.2.2.2 j a⟩ i) = if i = j then a else cA c i := by
  unfold cA
  simp only []
  rw [tG_set 16 c.2.2.2 j a i (by simpa using hj)]
  by_cases e : i = j
  · rw [if_pos e, if_pos e]
  · rw [if_neg e, if_neg e]
theorem hD_put {H H' : AH} {o j : Nat} {a : AE} (h : hP H o j a = some H') : ft_set ((hD D ρ σ h0 H)) (ft_B D + o) j ((aD D ρ σ a)) = (hD D ρ σ h0 H') := by
  unfold hP at h
  split at h
  · rename_i c hc
    cases hb : aB (cA c j) a with
    | true =>
      rw [hb] at h
      simp only [cond_true, Option.some.injEq] at h
      subst h
      have e := aB_ok hb
      show (_, _) = _
      refine Prod.ext ?_ rfl
      funext b i
      show (if b = ft_B D + o ∧ i = j then _ else _) = _
      by_cases q : b = ft_B D + o ∧ i = j
      · rw [if_pos q, q.1, q.2, hD_V hc, e]
      · rw [if_neg q]
    | false =>
      rw [hb] at h
      simp only [cond_false] at h
      cases hz : (Nat.blt (o + 1) 4096 && Nat.blt (j + 1) 65536) with
      | false => rw [hz] at h; cases h
      | true =>
        rw [hz] at h
        simp only [cond_true, Option.some.injEq] at h
        rw [Bool.and_eq_true] at hz
        have z1 := blt_lt hz.1
        have z2 := blt_lt hz.2
        subst h
        have ho : tG (⟨H.1, tS 12 H.2 o ⟨c.1, c.2.1, c.2.2.1, tS 16 c.2.2.2 j a⟩⟩ : AH).2 o = some ⟨c.1, c.2.1, c.2.2.1, tS 16 c.2.2.2 j a⟩ := by
          show tG (tS 12 H.2 o _) o = _
          rw [tG_set 12 H.2 o _ o (by simpa using z1), if_pos rfl]
        have hn : ∀ q, q ≠ o → tG (⟨H.1, tS 12 H.2 o ⟨c.1, c.2.1, c.2.2.1, tS 16 c.2.2.2 j a⟩⟩ : AH).2 q = tG H.2 q := fun q hq => by
          show tG (tS 12 H.2 o _) q = _
          rw [tG_set 12 H.2 o _ q (by simpa using z1), if_neg hq]
        refine Prod.ext ?_ (Prod.ext ?_ rfl)
        · funext b i
          show (if b = ft_B D + o ∧ i = j then _ else _) = _
          by_cases hb2 : b = ft_B D + o
          · subst hb2
            rw [hD_V ho, cA_set z2]
            by_cases q : i = j
            · rw [if_pos ⟨rfl, q⟩, if_pos q]
            · rw [if_neg (fun z => q z.2), if_neg q, hD_V hc]
          · rw [if_neg (fun z => hb2 z.1)]
            show (if b < ft_B D then _ else _) = (if b < ft_B D then _ else _)
            by_cases hlt : b < ft_B D
            · rw [if_pos hlt, if_pos hlt]
            · rw [if_neg hlt, if_neg hlt, hn (b - ft_B D) (by omega)]
        · funext b
          show (if b < ft_B D then _ else _) = (if b < ft_B D then _ else _)
          by_cases hlt : b < ft_B D
          · rw [if_pos hlt, if_pos hlt]
          · rw [if_neg hlt, if_neg hlt]
            by_cases hb2 : b - ft_B D = o
            · rw [hb2, ho, hc]
            · rw [hn _ hb2]
  · cases h
theorem hD_new {H H' : AH} {c : CE} {f : Nat → Value} (h : hN H c = some H') (hf : ∀ j, (aD D ρ σ (cA c j)) = f j) : ft_new ((hD D ρ σ h0 H)) (c.1, c.2.1) f = (hD D ρ σ h0 H') := by
  unfold hN at h
  cases hz : Nat.blt (H.1 + 1) 4096 with
  | false => rw [hz] at h; cases h
  | true =>
    rw [hz] at h
    simp only [cond_true, Option.some.injEq] at h
    have z1 := blt_lt hz
    subst h
    have ho : tG (⟨H.1 + 1, tS 12 H.2 H.1 c⟩ : AH).2 H.1 = some c := by
      show tG (tS 12 H.2 H.1 _) H.1 = _
      rw [tG_set 12 H.2 H.1 _ H.1 (by simpa using z1), if_pos rfl]
    have hn : ∀ q, q ≠ H.1 → tG (⟨H.1 + 1, tS 12 H.2 H.1 c⟩ : AH).2 q = tG H.2 q := fun q hq => by
      show tG (tS 12 H.2 H.1 _) q = _
      rw [tG_set 12 H.2 H.1 _ q (by simpa using z1), if_neg hq]
    refine Prod.ext ?_ (Prod.ext ?_ (by show ft_B D + H.1 + 1 = ft_B D + (H.1 + 1); omega))
    · funext b i
      show (if b = ft_B D + H.1 then _ else _) = _
      by_cases hb2 : b = ft_B D + H.1
      · subst hb2
        rw [hD_V ho, if_pos rfl, hf]
      · rw [if_neg hb2]
        show (if b < ft_B D then _ else _) = (if b < ft_B D then _ else _)
        by_cases hlt : b < ft_B D
        · rw [if_pos hlt, if_pos hlt]
        · rw [if_neg hlt, if_neg hlt, hn (b - ft_B D) (by omega)]
    · funext b
      show (if b = ft_B D + H.1 then _ else _) = _
      by_cases hb2 : b = ft_B D + H.1
      · subst hb2
        rw [hD_K ho, if_pos rfl]
      · rw [if_neg hb2]
        show (if b < ft_B D then _ else _) = (if b < ft_B D then _ else _)
        by_cases hlt : b < ft_B D
        · rw [if_pos hlt, if_pos hlt]
        · rw [if_neg hlt, if_neg hlt, hn (b - ft_B D) (by omega)]
end AX
/-! exact runs: the instructions that leave the heap as it is -/
def as1 (lv : List (Nat × AE)) (i : Nat) (v : AE) : List (Nat × AE) := (i, v) :: lv.filter (fun q => !(q.1 == i) && !(q.1 + 1 == i && (aC q.2) == 2))
def as2 (lv : List (Nat × AE)) (i : Nat) (v : AE) : List (Nat × AE) := (i, v) :: lv.filter (fun q => !(q.1 == i) && (!(q.1 == i + 1) && !(q.1 + 1 == i && (aC q.2) == 2)))
abbrev AXR : Type := Nat × List (Nat × AE) × List AE
def ax2i (o pc : Nat) (lv : List (Nat × AE)) (st : List AE) : Option AXR := match st with
  | b :: a :: r => bif (aI a) && (aI b) then some (pc + 1, lv, mkop o a b :: r) else none
  | _ => none
def ax2l (o pc : Nat) (lv : List (Nat × AE)) (st : List AE) : Option AXR := match st with
  | b :: a :: r => bif (aL a) && (aL b) then some (pc + 1, lv, mkop o a b :: r) else none
  | _ => none
def ax2s (o pc : Nat) (lv : List (Nat × AE)) (st : List AE) : Option AXR := match st with
  | b :: a :: r => bif (aL a) && (aI b) then some (pc + 1, lv, mkop o a b :: r) else none
  | _ => none
def ax2d (o pc : Nat) (lv : List (Nat × AE)) (st : List AE) : Option AXR := match st with
  | .leaf (0, m) :: a :: r => bif (aI a) && (Nat.blt 0 m && Nat.blt m 2147483648) then some (pc + 1, lv, mkop o a (kI m) :: r) else none
  | _ => none
def axld (t : AE → Bool) (pc k : Nat) (lv : List (Nat × AE)) (st : List AE) : Option AXR := match ft_lk k lv with
  | some a => bif t a then some (pc, lv, a :: st) else none
  | none => none
def axst (t : AE → Bool) (pc k nL : Nat) (lv : List (Nat × AE)) (st : List AE) : Option AXR := match st with
  | a :: r => bif t a && Nat.blt k nL then some (pc, as1 lv k a, r) else none
  | _ => none
def axst2 (pc k nL : Nat) (lv : List (Nat × AE)) (st : List AE) : Option AXR := match st with
  | a :: r => bif (aL a) && Nat.blt (k + 1) nL then some (pc, as2 lv k a, r) else none
  | _ => none
def axp (i : Instr) (pr : List Nat) (pc nL : Nat) (lv : List (Nat × AE)) (st : List AE) : Option AXR := match i with
  | .iconst n => match n with
    | .ofNat k => some (pc + 1, lv, kI k :: st)
    | .negSucc k => bif Nat.blt k 100 then some (pc + 1, lv, kI (4294967295 - k) :: st) else none
  | .bipush n => match n with
    | .ofNat k => if k < 128 then some (pc + 2, lv, kI k :: st) else none
    | .negSucc k => bif Nat.blt k 128 then some (pc + 2, lv, kI (4294967295 - k) :: st) else none
  | .sipush n => match n with
    | .ofNat k => if k < 32768 then some (pc + 3, lv, kI k :: st) else none
    | .negSucc _ => none
  | .lconst n => some (pc + 1, lv, kL (n : Nat) :: st)
  | .aconst_null => some (pc + 1, lv, kZ :: st)
  | .ldc _ => match pr with
    | [_, v] => some (pc + 2, lv, kI v :: st)
    | _ => none
  | .ldc_w _ => match pr with
    | [_, v] => some (pc + 3, lv, kI v :: st)
    | _ => none
  | .ldc2_w _ => match pr with
    | [_, v] => some (pc + 3, lv, kL v :: st)
    | _ => none
  | .iload k => axld aI (pc + 2) k lv st
  | .iload_n k => axld aI (pc + 1) (k : Nat) lv st
  | .lload k => axld aL (pc + 2) k lv st
  | .lload_n k => axld aL (pc + 1) (k : Nat) lv st
  | .aload k => axld aR (pc + 2) k lv st
  | .aload_n k => axld aR (pc + 1) (k : Nat) lv st
  | .istore k => axst aI (pc + 2) k nL lv st
  | .istore_n k => axst aI (pc + 1) (k : Nat) nL lv st
  | .lstore k => axst2 (pc + 2) k nL lv st
  | .lstore_n k => axst2 (pc + 1) (k : Nat) nL lv st
  | .astore k => axst aR (pc + 2) k nL lv st
  | .astore_n k => axst aR (pc + 1) (k : Nat) nL lv st
  | .iinc k n => match ft_lk k lv with
    | some a => bif (aI a) && Nat.blt k nL then (match n with
      | .ofNat c => some (pc + 3, as1 lv k (mkop 0 a (kI c)), st)
      | .negSucc c => bif Nat.blt c 100 then some (pc + 3, as1 lv k (mkop 0 a (kI (4294967295 - c))), st) else none) else none
    | none => none
  | .iadd => ax2i 0 pc lv st
  | .isub => ax2i 1 pc lv st
  | .imul => ax2i 2 pc lv st
  | .iand => ax2i 3 pc lv st
  | .ior => ax2i 4 pc lv st
  | .ixor => ax2i 5 pc lv st
  | .ishl => ax2i 6 pc lv st
  | .ishr => ax2i 7 pc lv st
  | .idiv => ax2d 8 pc lv st
  | .irem => ax2d 9 pc lv st
  | .lcmp => ax2l 10 pc lv st
  | .ladd => ax2l 20 pc lv st
  | .lsub => ax2l 21 pc lv st
  | .land => ax2l 22 pc lv st
  | .lor => ax2l 23 pc lv st
  | .lshl => ax2s 24 pc lv st
  | .lshr => ax2s 25 pc lv st
  | .i2l => match st with
    | a :: r => bif (aI a) then some (pc + 1, lv, mkun 26 a :: r) else none
    | _ => none
  | .l2i => match st with
    | a :: r => bif (aL a) then some (pc + 1, lv, mkun 12 a :: r) else none
    | _ => none
  | .i2b => match st with
    | a :: r => bif (aI a) then some (pc + 1, lv, mkun 13 a :: r) else none
    | _ => none
  | .dup => match st with
    | v :: r => bif Nat.beq (aC v) 1 then some (pc + 1, lv, v :: v :: r) else none
    | _ => none
  | .pop => match st with
    | v :: r => bif Nat.beq (aC v) 1 then some (pc + 1, lv, r) else none
    | _ => none
  | .dup_x1 => match st with
    | v :: u :: r => bif Nat.beq (aC v) 1 && Nat.beq (aC u) 1 then some (pc + 1, lv, v :: u :: v :: r) else none
    | _ => none
  | .dup_x2 => match st with
    | v :: u :: t :: r => bif Nat.beq (aC v) 1 && (Nat.beq (aC u) 1 && Nat.beq (aC t) 1) then some (pc + 1, lv, v :: u :: t :: v :: r) else none
    | _ => none
  | .dup2 => match st with
    | v :: u :: r => bif Nat.beq (aC v) 1 && Nat.beq (aC u) 1 then some (pc + 1, lv, v :: u :: v :: u :: r) else none
    | _ => none
  | .goto off => if 0 ≤ (pc : Int) + off then some (ft_tgt pc off, lv, st) else none
  | .ifnull off => match st with
    | .leaf (2, _) :: r => some (pc + 3, lv, r)
    | .leaf (4, _) :: r => if 0 ≤ (pc : Int) + off then some (ft_tgt pc off, lv, r) else none
    | _ => none
  | .ifnonnull off => match st with
    | .leaf (2, _) :: r => if 0 ≤ (pc : Int) + off then some (ft_tgt pc off, lv, r) else none
    | .leaf (4, _) :: r => some (pc + 3, lv, r)
    | _ => none
  | _ => none
section AX3
variable {D : ft_G} {ρ : Nat → Int32} {σ : Nat → Int64}
abbrev dL (D : ft_G) (ρ : Nat → Int32) (σ : Nat → Int64) (lv : List (Nat × AE)) : List (Nat × Value) := lv.map (fun q => (q.1, (aD D ρ σ q.2)))
abbrev dS (D : ft_G) (ρ : Nat → Int32) (σ : Nat → Int64) (st : List AE) : List Value := st.map (aD D ρ σ)
theorem dL_lk {k : Nat} : ∀ {lv : List (Nat × AE)}, ft_lk k (dL D ρ σ lv) = (ft_lk k lv).map (aD D ρ σ)
  | [] => rfl
  | (j, a) :: r => by
    show (if j = k then _ else _) = Option.map _ (if j = k then _ else _)
    by_cases e : j = k
    · rw [if_pos e, if_pos e]; rfl
    · rw [if_neg e, if_neg e]; exact dL_lk
theorem dL_filter {f : Nat × Value → Bool} {g : Nat × AE → Bool} (h : ∀ q : Nat × AE, f (q.1, (aD D ρ σ q.2)) = g q) : ∀ lv : List (Nat × AE), (dL D ρ σ lv).filter f = dL D ρ σ (lv.filter g)
  | [] => rfl
  | q :: r => by
    show List.filter f ((q.1, (aD D ρ σ q.2)) :: dL D ρ σ r) = _
    rw [List.filter_cons, List.filter_cons, h q]
    cases g q
    · exact dL_filter h r
    · simp only [if_true]
      show _ = (q.1, (aD D ρ σ q.2)) :: dL D ρ σ _
      rw [dL_filter h r]
theorem dL_s1 (lv : List (Nat × AE)) (i : Nat) (v : AE) : ft_s1 (dL D ρ σ lv) i ((aD D ρ σ v)) = dL D ρ σ (as1 lv i v) := by
  unfold ft_s1 as1
  show _ = (i, (aD D ρ σ v)) :: dL D ρ σ _
  rw [dL_filter (fun q => by rw [aD_cat])]
theorem dL_s2 (lv : List (Nat × AE)) (i : Nat) (v : AE) : ft_s2 (dL D ρ σ lv) i ((aD D ρ σ v)) = dL D ρ σ (as2 lv i v) := by
  unfold ft_s2 as2
  show _ = (i, (aD D ρ σ v)) :: dL D ρ σ _
  rw [dL_filter (fun q => by rw [aD_cat])]
theorem den_opI {o : Nat} {a b : AE} (ho : Nat.blt o 20 = true) : (aD D ρ σ (mkop o a b)) = .int (opP o (eP ρ σ a) (eP ρ σ b)).1 := by rw [aD_I (mkop_I ho), mkop_ok]
theorem den_opL {o : Nat} {a b : AE} (ho : Nat.blt o 20 = false) : (aD D ρ σ (mkop o a b)) = .long (opP o (eP ρ σ a) (eP ρ σ b)).2 := by rw [aD_L (mkop_L ho), mkop_ok]
theorem den_unI {o : Nat} {a : AE} (ho : Nat.blt o 20 = true) : (aD D ρ σ (mkun o a)) = .int (opP o (eP ρ σ a) (0, 0)).1 := by rw [aD_I (mkun_I ho), mkun_ok]
theorem den_unL {o : Nat} {a : AE} (ho : Nat.blt o 20 = false) : (aD D ρ σ (mkun o a)) = .long (opP o (eP ρ σ a) (0, 0)).2 := by rw [aD_L (mkun_L ho), mkun_ok]
theorem ax2i_ok {o pc pc' : Nat} {lv lv' : List (Nat × AE)} {st st' : List AE} {G : List Value → Option ft_PR} (ho : Nat.blt o 20 = true) (hG : ∀ (x y : Int32 × Int64) (r : List Value), G (.int y.1 :: .int x.1 :: r) = some ([], pc + 1, dL D ρ σ lv, .int (opP o x y).1 :: r)) (he : ax2i o pc lv st = some (pc', lv', st')) :
    ∃ gs, G (dS D ρ σ st) = some (gs, pc', dL D ρ σ lv', dS D ρ σ st') ∧ ft_all gs := by
  unfold ax2i at he
  split at he
  · rename_i b a r
    cases hb : ((aI a) && (aI b)) with
    | false => rw [hb] at he; cases he
    | true =>
      rw [hb] at he
      cases he
      rw [Bool.and_eq_true] at hb
      refine ⟨[], ?_, trivial⟩
      show G ((aD D ρ σ b) :: (aD D ρ σ a) :: dS D ρ σ r) = some ([], _, _, (aD D ρ σ (mkop o a b)) :: dS D ρ σ r)
      rw [aD_I hb.1, aD_I hb.2, hG, den_opI ho]
  · cases he
theorem ax2d_ok {o pc pc' : Nat} {lv lv' : List (Nat × AE)} {st st' : List AE} {G : List Value → Option ft_PR} (ho : Nat.blt o 20 = true) (hG : ∀ (x y : Int32 × Int64) (r : List Value), G (.int y.1 :: .int x.1 :: r) = some ([¬ y.1 = 0], pc + 1, dL D ρ σ lv, .int (opP o x y).1 :: r)) (he : ax2d o pc lv st = some (pc', lv', st')) :
    ∃ gs, G (dS D ρ σ st) = some (gs, pc', dL D ρ σ lv', dS D ρ σ st') ∧ ft_all gs := by
  unfold ax2d at he
  split at he
  · rename_i m a r
    cases hb : ((aI a) && (Nat.blt 0 m && Nat.blt m 2147483648)) with
    | false => rw [hb] at he; cases he
    | true =>
      rw [hb] at he
      cases he
      rw [Bool.and_eq_true, Bool.and_eq_true] at hb
      refine ⟨[¬ nI m = 0], ?_, ?_, trivial⟩
      · show G (.int (eP ρ σ (kI m)).1 :: (aD D ρ σ a) :: dS D ρ σ r) = some ([_], _, _, (aD D ρ σ (mkop o a (kI m))) :: dS D ρ σ r)
        rw [aD_I hb.1, hG, den_opI ho]
        rfl
      · intro z
        have z2 := congrArg Int32.toInt z
        rw [nI_tI (blt_lt hb.2.2)] at z2
        have := blt_lt hb.2.1
        have z3 : (0 : Int32).toInt = 0 := rfl
        rw [z3] at z2
        omega
  · cases he
theorem ax2l_ok {o pc pc' : Nat} {lv lv' : List (Nat × AE)} {st st' : List AE} {G : List Value → Option ft_PR} (hG : ∀ (x y : Int32 × Int64) (r : List Value) (w : Value), w = (bif Nat.blt o 20 then Value.int (opP o x y).1 else Value.long (opP o x y).2) → G (.long y.2 :: .long x.2 :: r) = some ([], pc + 1, dL D ρ σ lv, w :: r)) (he : ax2l o pc lv st = some (pc', lv', st')) :
    ∃ gs, G (dS D ρ σ st) = some (gs, pc', dL D ρ σ lv', dS D ρ σ st') ∧ ft_all gs := by
  unfold ax2l at he
  split at he
  · rename_i b a r
    cases hb : ((aL a) && (aL b)) with
    | false => rw [hb] at he; cases he
    | true =>
      rw [hb] at he
      cases he
      rw [Bool.and_eq_true] at hb
      refine ⟨[], ?_, trivial⟩
      show G ((aD D ρ σ b) :: (aD D ρ σ a) :: dS D ρ σ r) = some ([], _, _, (aD D ρ σ (mkop o a b)) :: dS D ρ σ r)
      rw [aD_L hb.1, aD_L hb.2, hG _ _ _ ((aD D ρ σ (mkop o a b)))]
      cases ho : Nat.blt o 20 with
      | true => rw [den_opI ho]; rfl
      | false => rw [den_opL ho]; rfl
  · cases he
theorem ax2s_ok {o pc pc' : Nat} {lv lv' : List (Nat × AE)} {st st' : List AE} {G : List Value → Option ft_PR} (ho : Nat.blt o 20 = false) (hG : ∀ (x y : Int32 × Int64) (r : List Value), G (.int y.1 :: .long x.2 :: r) = some ([], pc + 1, dL D ρ σ lv, .long (opP o x y).2 :: r)) (he : ax2s o pc lv st = some (pc', lv', st')) :
    ∃ gs, G (dS D ρ σ st) = some (gs, pc', dL D ρ σ lv', dS D ρ σ st') ∧ ft_all gs := by
  unfold ax2s at he
  split at he
  · rename_i b a r
    cases hb : ((aL a) && (aI b)) with
    | false => rw [hb] at he; cases he
    | true =>
      rw [hb] at he
      cases he
      rw [Bool.and_eq_true] at hb
      refine ⟨[], ?_, trivial⟩
      show G ((aD D ρ σ b) :: (aD D ρ σ a) :: dS D ρ σ r) = some ([], _, _, (aD D ρ σ (mkop o a b)) :: dS D ρ σ r)
      rw [aD_L hb.1, aD_I hb.2, hG, den_opL ho]
  · cases he
theorem axld_ok {t : AE → Bool} {pc0 pc' k : Nat} {lv lv' : List (Nat × AE)} {st st' : List AE} {G : Option Value → Option ft_PR} (hG : ∀ a : AE, t a = true → G (some ((aD D ρ σ a))) = some ([], pc0, dL D ρ σ lv, (aD D ρ σ a) :: dS D ρ σ st)) (he : axld t pc0 k lv st = some (pc', lv', st')) :
    ∃ gs, G (ft_lk k (dL D ρ σ lv)) = some (gs, pc', dL D ρ σ lv', dS D ρ σ st') ∧ ft_all gs := by
  unfold axld at he
  split at he
  · rename_i a ha
    cases hb : t a with
    | false => rw [hb] at he; cases he
    | true =>
      rw [hb] at he
      cases he
      exact ⟨[], by rw [dL_lk, ha]; exact hG a hb, trivial⟩
  · cases he
theorem axst_ok {t : AE → Bool} {pc0 pc' k nL : Nat} {lv lv' : List (Nat × AE)} {st st' : List AE} {G : List Value → Option ft_PR} (hG : ∀ (a : AE) (r : List Value), t a = true → k < nL → G ((aD D ρ σ a) :: r) = some ([], pc0, ft_s1 (dL D ρ σ lv) k ((aD D ρ σ a)), r)) (he : axst t pc0 k nL lv st = some (pc', lv', st')) :
    ∃ gs, G (dS D ρ σ st) = some (gs, pc', dL D ρ σ lv', dS D ρ σ st') ∧ ft_all gs := by
  unfold axst at he
  split at he
  · rename_i a r
    cases hb : (t a && Nat.blt k nL) with
    | false => rw [hb] at he; cases he
    | true =>
      rw [hb] at he
      cases he
      rw [Bool.and_eq_true] at hb
      refine ⟨[], ?_, trivial⟩
      show G ((aD D ρ σ a) :: dS D ρ σ _) = _
      rw [hG a _ hb.1 (blt_lt hb.2), dL_s1]
  · cases he
theorem axst2_ok {pc0 pc' k nL : Nat} {lv lv' : List (Nat × AE)} {st st' : List AE} {G : List Value → Option ft_PR} (hG : ∀ (x : Int64) (r : List Value), k + 1 < nL → G (.long x :: r) = some ([], pc0, ft_s2 (dL D ρ σ lv) k (.long x), r)) (he : axst2 pc0 k nL lv st = some (pc', lv', st')) :
    ∃ gs, G (dS D ρ σ st) = some (gs, pc', dL D ρ σ lv', dS D ρ σ st') ∧ ft_all gs := by
  unfold axst2 at he
  split at he
  · rename_i a r
    cases hb : ((aL a) && Nat.blt (k + 1) nL) with
    | false => rw [hb] at he; cases he
    | true =>
      rw [hb] at he
      cases he
      rw [Bool.and_eq_true] at hb
      refine ⟨[], ?_, trivial⟩
      show G ((aD D ρ σ a) :: dS D ρ σ _) = _
      rw [aD_L hb.1, hG _ _ (blt_lt hb.2), ← aD_L (D := D) hb.1, dL_s2]
  · cases he
theorem ax_neg32 : ∀ k, k < 100 → Int32.ofInt (.negSucc k) = nI (4294967295 - k) := by decide +kernel
theorem ax_neg8 : ∀ k, k < 128 → (Int8.ofInt (.negSucc k)).toInt32 = nI (4294967295 - k) := by decide +kernel
theorem cat1 {v : AE} (h : Nat.beq (aC v) 1 = true) : ((aD D ρ σ v)).category = 1 := by rw [aD_cat]; exact Nat.eq_of_beq_eq_true h
end AX3
section AX4
variable {D : ft_G} {ρ : Nat → Int32} {σ : Nat → Int64}
set_option maxHeartbeats 4000000 in
theorem axp_ok {i : Instr} {pr : List Nat} {pc pc' nL : Nat} {lv lv' : List (Nat × AE)} {st st' : List AE} (he : axp i pr pc nL lv st = some (pc', lv', st')) : ∃ gs, ft_p i pr pc nL (dL D ρ σ lv) (dS D ρ σ st) = some (gs, pc', dL D ρ σ lv', dS D ρ σ st') ∧ ft_all gs := by
  unfold axp at he
  split at he
  · -- iconst
    split at he
    · cases he; exact ⟨[], rfl, trivial⟩
    · rename_i k
      cases hb : Nat.blt k 100 with
      | false => rw [hb] at he; cases he
      | true =>
        rw [hb] at he; cases he
        refine ⟨[], ?_, trivial⟩
        show some ([], pc + 1, _, Value.int (Int32.ofInt (.negSucc k)) :: _) = _
        rw [ax_neg32 k (blt_lt hb)]; rfl
  · split at he
    · rename_i k
      split at he
      · rename_i hk
        cases he
        exact ⟨[], by show (if k < 128 then _ else _) = _; rw [if_pos hk]; rfl, trivial⟩
      · cases he
    · rename_i k
      cases hb : Nat.blt k 128 with
      | false => rw [hb] at he; cases he
      | true =>
        rw [hb] at he; cases he
        refine ⟨[], ?_, trivial⟩
        show some ([], pc + 2, _, Value.int (Int8.ofInt (.negSucc k)).toInt32 :: _) = _
        rw [ax_neg8 k (blt_lt hb)]; rfl
  · split at he
    · rename_i k
      split at he
      · rename_i hk
        cases he
        exact ⟨[], by show (if k < 32768 then _ else _) = _; rw [if_pos hk]; rfl, trivial⟩
      · cases he
    · cases he
  · cases he; exact ⟨[], rfl, trivial⟩
  · cases he; exact ⟨[], rfl, trivial⟩
  · split at he
    · cases he; exact ⟨[], rfl, trivial⟩
    · cases he
  · split at he
    · cases he; exact ⟨[], rfl, trivial⟩
    · cases he
  · split at he
    · cases he; exact ⟨[], rfl, trivial⟩
    · cases he
  -- loads
  · exact axld_ok (G := fun z => match z with | some (.int x) => some ([], pc + 2, dL D ρ σ lv, .int x :: dS D ρ σ st) | _ => none) (fun a ha => by rw [aD_I ha]) he
  · exact axld_ok (G := fun z => match z with | some (.int x) => some ([], pc + 1, dL D ρ σ lv, .int x :: dS D ρ σ st) | _ => none) (fun a ha => by rw [aD_I ha]) he
  · exact axld_ok (G := fun z => match z with | some (.long x) => some ([], pc + 2, dL D ρ σ lv, .long x :: dS D ρ σ st) | _ => none) (fun a ha => by rw [aD_L ha]) he
  · exact axld_ok (G := fun z => match z with | some (.long x) => some ([], pc + 1, dL D ρ σ lv, .long x :: dS D ρ σ st) | _ => none) (fun a ha => by rw [aD_L ha]) he
  · exact axld_ok (G := fun z => match z with | some (.ref x) => some ([], pc + 2, dL D ρ σ lv, .ref x :: dS D ρ σ st) | some .null => some ([], pc + 2, dL D ρ σ lv, .null :: dS D ρ σ st) | _ => none) (fun a ha => by rcases aD_R (D := D) (ρ := ρ) (σ := σ) ha with ⟨q, e1⟩ | e1 <;> rw [e1]) he
  · exact axld_ok (G := fun z => match z with | some (.ref x) => some ([], pc + 1, dL D ρ σ lv, .ref x :: dS D ρ σ st) | some .null => some ([], pc + 1, dL D ρ σ lv, .null :: dS D ρ σ st) | _ => none) (fun a ha => by rcases aD_R (D := D) (ρ := ρ) (σ := σ) ha with ⟨q, e1⟩ | e1 <;> rw [e1]) he
  -- stores
  · rename_i k; exact axst_ok (fun a r ha hk => by rw [aD_I ha]; show (if k < nL then _ else _) = _; rw [if_pos hk]) he
  · rename_i k; exact axst_ok (fun a r ha hk => by rw [aD_I ha]; show (if (k : Nat) < nL then _ else _) = _; rw [if_pos hk]) he
  · rename_i k; exact axst2_ok (fun x r hk => by show (if k + 1 < nL then _ else _) = _; rw [if_pos hk]) he
  · rename_i k; exact axst2_ok (fun x r hk => by show (if (k : Nat) + 1 < nL then _ else _) = _; rw [if_pos hk]) he
  · rename_i k; exact axst_ok (fun a r ha hk => by rcases aD_R (D := D) (ρ := ρ) (σ := σ) ha with ⟨q, e1⟩ | e1 <;> rw [e1] <;> (show (if k < nL then _ else _) = _) <;> rw [if_pos hk]) he
  · rename_i k; exact axst_ok (fun a r ha hk => by rcases aD_R (D := D) (ρ := ρ) (σ := σ) ha with ⟨q, e1⟩ | e1 <;> rw [e1] <;> (show (if (k : Nat) < nL then _ else _) = _) <;> rw [if_pos hk]) he
  · -- iinc
    rename_i k n
    split at he
    · rename_i a ha
      cases hb : ((aI a) && Nat.blt k nL) with
      | false => rw [hb] at he; cases he
      | true =>
        rw [hb] at he
        rw [Bool.and_eq_true] at hb
        have e : ft_lk k (dL D ρ σ lv) = some (.int (eP ρ σ a).1) := by rw [dL_lk, ha, ← aD_I (D := D) hb.1]; rfl
        have hk := blt_lt hb.2
        split at he
        · rename_i c
          cases he
          refine ⟨[], ?_, trivial⟩
          unfold ft_p
          simp only [e, hk, if_true]
          have q := den_opI (D := D) (ρ := ρ) (σ := σ) (o := 0) (a := a) (b := kI c) rfl
          rw [← dL_s1, q]; rfl
        · rename_i c
          cases hc : Nat.blt c 100 with
          | false => rw [hc] at he; cases he
          | true =>
            rw [hc] at he
            cases he
            refine ⟨[], ?_, trivial⟩
            unfold ft_p
            simp only [e, hk, if_true]
            have q := den_opI (D := D) (ρ := ρ) (σ := σ) (o := 0) (a := a) (b := kI (4294967295 - c)) rfl
            rw [← dL_s1, q, ax_neg32 c (blt_lt hc)]; rfl
    · cases he
  · exact ax2i_ok rfl (fun _ _ _ => rfl) he
  · exact ax2i_ok rfl (fun _ _ _ => rfl) he
  · exact ax2i_ok rfl (fun _ _ _ => rfl) he
  · exact ax2i_ok rfl (fun _ _ _ => rfl) he
  · exact ax2i_ok rfl (fun _ _ _ => rfl) he
  · exact ax2i_ok rfl (fun _ _ _ => rfl) he
  · exact ax2i_ok rfl (fun _ _ _ => rfl) he
  · exact ax2i_ok rfl (fun _ _ _ => rfl) he
  · exact ax2d_ok rfl (fun _ _ _ => rfl) he
  · exact ax2d_ok rfl (fun _ _ _ => rfl) he
  · exact ax2l_ok (fun _ _ _ _ e => by rw [e]; rfl) he
  · exact ax2l_ok (fun _ _ _ _ e => by rw [e]; rfl) he
  · exact ax2l_ok (fun _ _ _ _ e => by rw [e]; rfl) he
  · exact ax2l_ok (fun _ _ _ _ e => by rw [e]; rfl) he
  · exact ax2l_ok (fun _ _ _ _ e => by rw [e]; rfl) he
  · exact ax2s_ok rfl (fun _ _ _ => rfl) he
  · exact ax2s_ok rfl (fun _ _ _ => rfl) he
  · split at he
    · rename_i a r
      cases hb : (aI a) with
      | false => rw [hb] at he; cases he
      | true =>
        rw [hb] at he; cases he
        refine ⟨[], ?_, trivial⟩
        show ft_p .i2l pr pc nL _ ((aD D ρ σ a) :: dS D ρ σ r) = some ([], _, _, (aD D ρ σ (mkun 26 a)) :: dS D ρ σ r)
        rw [aD_I hb, den_unL rfl]; rfl
    · cases he
  · split at he
    · rename_i a r
      cases hb : (aL a) with
      | false => rw [hb] at he; cases he
      | true =>
        rw [hb] at he; cases he
        refine ⟨[], ?_, trivial⟩
        show ft_p .l2i pr pc nL _ ((aD D ρ σ a) :: dS D ρ σ r) = some ([], _, _, (aD D ρ σ (mkun 12 a)) :: dS D ρ σ r)
        rw [aD_L hb, den_unI rfl]; rfl
    · cases he
  · split at he
    · rename_i a r
      cases hb : (aI a) with
      | false => rw [hb] at he; cases he
      | true =>
        rw [hb] at he; cases he
        refine ⟨[], ?_, trivial⟩
        show ft_p .i2b pr pc nL _ ((aD D ρ σ a) :: dS D ρ σ r) = some ([], _, _, (aD D ρ σ (mkun 13 a)) :: dS D ρ σ r)
        rw [aD_I hb, den_unI rfl]; rfl
    · cases he
  · split at he
    · rename_i a r
      cases hb : Nat.beq (aC a) 1 with
      | false => rw [hb] at he; cases he
      | true =>
        rw [hb] at he; cases he
        exact ⟨[], by show (if _ then _ else _) = _; rw [if_pos (cat1 hb)]; rfl, trivial⟩
    · cases he
  · split at he
    · rename_i a r
      cases hb : Nat.beq (aC a) 1 with
      | false => rw [hb] at he; cases he
      | true =>
        rw [hb] at he; cases he
        exact ⟨[], by show (if _ then _ else _) = _; rw [if_pos (cat1 hb)], trivial⟩
    · cases he
  · split at he
    · rename_i a b r
      cases hb : (Nat.beq (aC a) 1 && Nat.beq (aC b) 1) with
      | false => rw [hb] at he; cases he
      | true =>
        rw [hb] at he; cases he
        rw [Bool.and_eq_true] at hb
        exact ⟨[], by show (if _ then _ else _) = _; rw [if_pos ⟨cat1 hb.1, cat1 hb.2⟩]; rfl, trivial⟩
    · cases he
  · split at he
    · rename_i a b c r
      cases hb : (Nat.beq (aC a) 1 && (Nat.beq (aC b) 1 && Nat.beq (aC c) 1)) with
      | false => rw [hb] at he; cases he
      | true =>
        rw [hb] at he; cases he
        rw [Bool.and_eq_true, Bool.and_eq_true] at hb
        exact ⟨[], by show (if _ then _ else _) = _; rw [if_pos ⟨cat1 hb.1, cat1 hb.2.1, cat1 hb.2.2⟩]; rfl, trivial⟩
    · cases he
  · split at he
    · rename_i a b r
      cases hb : (Nat.beq (aC a) 1 && Nat.beq (aC b) 1) with
      | false => rw [hb] at he; cases he
      | true =>
        rw [hb] at he; cases he
        rw [Bool.and_eq_true] at hb
        exact ⟨[], by show (if _ then _ else _) = _; rw [if_pos ⟨cat1 hb.1, cat1 hb.2⟩]; rfl, trivial⟩
    · cases he
  · split at he
    · rename_i hk
      cases he
      exact ⟨[], by show (if _ then _ else _) = _; rw [if_pos hk], trivial⟩
    · cases he
  · split at he
    · cases he; exact ⟨[], rfl, trivial⟩
    · split at he
      · rename_i hk
        cases he
        exact ⟨[], by show (if _ then _ else _) = _; rw [if_pos hk], trivial⟩
      · cases he
    · cases he
  · split at he
    · split at he
      · rename_i hk
        cases he
        exact ⟨[], by show (if _ then _ else _) = _; rw [if_pos hk], trivial⟩
      · cases he
    · cases he; exact ⟨[], rfl, trivial⟩
    · cases he
  · cases he
end AX4
