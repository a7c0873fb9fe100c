def gh_tbl (y pc : Nat) : Nat := bif Nat.beq y 5 then (bif Nat.beq pc 27 then 20 else bif Nat.beq pc 40 then 40 else 0) else 0
/-! exact runs: the instructions that read or change the heap -/
def kdIs (c : Nat) (ty : FieldType) : Bool := match ft_kd c with
  | some (.inr t) => match t, ty with
    | .int, .int => true
    | .long, .long => true
    | .byte, .byte => true
    | .boolean, .boolean => true
    | _, _ => false
  | _ => false
def kdObj (c ci : Nat) : Bool := match ft_kd c with
  | some (.inr (.object s)) => decide (s = (ft_cd ci).1)
  | _ => false
def kdArr (c : Nat) : Bool := match ft_kd c with
  | some (.inr _) => true
  | _ => false
def kdRef (c : Nat) : Bool := match ft_kd c with
  | some (.inr (.object _)) => true
  | _ => false
/-- a value fits a field or element of a type, and stays as it is there -/
def fitE (ty : FieldType) (a : AE) : Bool := match ty with
  | .int => (aI a)
  | .long => (aL a)
  | .boolean => match a with
    | .leaf (0, n) => Nat.blt n 2
    | _ => false
  | .byte => match a with
    | .leaf (0, n) => Nat.blt n 128
    | _ => false
  | .object _ => (aR a)
  | .array _ => (aR a)
  | _ => false
def svN (k j : Nat) : Nat := (([[100, 2, 1, 1], [16, 1, 0, 1], [255, 20, 1, 2]] : List (List Nat)).getD k []).getD j 0
/-- a method as the exact runs have it: its code by places, how many parameters, locals, cells, slots, its class, what it answers -/
abbrev MR : Type := TR ft_I × Nat × Nat × Nat × Nat × Nat × Option FieldType
/-- a method's row says what the tables say -/
def MOK (y : Nat) (M : MR) : Prop := ft_chk y = true ∧ True ∧ ft_np y = M.2.1 ∧ ft_nL y = M.2.2.1 ∧ ft_mc y = M.2.2.2.1 ∧ ft_mz y = M.2.2.2.2.1 ∧ (M.2.2.2.2.2.1 < ft_nc → (ft_cd M.2.2.2.2.2.1).1 = (ft_m y).1.cls) ∧ (ft_m y).2.2.2.1 = M.2.2.2.2.2.2 ∧ ∀ pc q, tG M.1 pc = some q → ft_lk pc (ft_c y) = some q
def mchk (y : Nat) (M : MR) : Bool := Nat.beq (ft_nL y) M.2.2.1 && (Nat.beq (ft_mc y) M.2.2.2.1 && (Nat.beq (ft_mz y) M.2.2.2.2.1 && ((!Nat.blt M.2.2.2.2.2.1 ft_nc || decide ((ft_cd M.2.2.2.2.2.1).1 = (ft_m y).1.cls)) && (decide ((ft_m y).2.2.2.1 = M.2.2.2.2.2.2) && (tL M.1).all (fun q => decide (ft_lk q.1 (ft_c y) = some q.2))))))
theorem mchk_ok {y : Nat} {M : MR} (h : mchk y M = true) (h1 : ft_chk y = true) (h3 : ft_np y = M.2.1) : MOK y M := by
  unfold mchk at h
  simp only [Bool.and_eq_true] at h
  obtain ⟨e1, e2, e3, e4, e5, e6⟩ := h
  refine ⟨h1, trivial, h3, Nat.eq_of_beq_eq_true e1, Nat.eq_of_beq_eq_true e2, Nat.eq_of_beq_eq_true e3, fun hc => ?_, of_decide_eq_true e5, fun pc q hq => ?_⟩
  · rw [Bool.or_eq_true] at e4
    rcases e4 with e | e
    · have : Nat.blt M.2.2.2.2.2.1 ft_nc = true := Nat.ble_eq_true_of_le hc
      rw [this] at e; cases e
    · exact of_decide_eq_true e
  · exact of_decide_eq_true (List.all_eq_true.mp e6 _ (tL_ok hq))
abbrev AXE : Type := Nat × List (Nat × AE) × List AE × AH × Nat × Nat
def axald (B : BD) (t : Nat → Bool) (pc : Nat) (lv : List (Nat × AE)) (st : List AE) (H : AH) (uc us : Nat) : Option AXE := match st with
  | e :: .leaf (2, o) :: r => match tG H.2 o, idxE B e with
    | some c, some j => bif t c.1 && (Nat.blt j c.2.1 && Nat.blt c.2.1 2147483648) then some (pc + 1, lv, cA c j :: r, H, uc, us) else none
    | some ⟨k, m, some (a, _), .leaf none⟩, none => bif t k && idxB B e m then some (pc + 1, lv, a :: r, H, uc, us) else none
    | _, _ => none
  | _ => none
def axast (B : BD) (t : Nat → Bool) (ty : FieldType) (pc : Nat) (lv : List (Nat × AE)) (st : List AE) (H : AH) (uc us : Nat) : Option AXE := match st with
  | v :: e :: .leaf (2, o) :: r => match tG H.2 o, idxE B e with
    | some c, some j => bif t c.1 && (fitE ty v && (Nat.blt j c.2.1 && Nat.blt c.2.1 2147483648)) then (match hP H o j v with
      | some H' => some (pc + 1, lv, r, H', uc, us)
      | none => none) else none
    | some ⟨k, m, some (a, _), .leaf none⟩, none => bif t k && (fitE ty v && (idxB B e m && aB a v)) then some (pc + 1, lv, r, H, uc, us) else none
    | _, _ => none
  | _ => none
/-- the ghost number of an object that is made: of the rows of datagrams, how many they keep -/
def ghost (y pc : Nat) : Nat := gh_tbl y pc
def axnew (M : MR) (c : CE) (pc : Nat) (lv : List (Nat × AE)) (r : List AE) (H : AH) (uc us sz : Nat) : Option AXE :=
  bif Nat.ble (uc + 1) M.2.2.2.1 && Nat.ble (us + sz) M.2.2.2.2.1 then (match hN H c with
    | some H' => some (pc, lv, kR H.1 :: r, H', uc + 1, us + sz)
    | none => none) else none
def okAT : ArrayType → Bool
  | .int => true | .long => true | .byte => true | .boolean => true | _ => false
/-- the script: how long it is, and what stands there -/
abbrev SCR : Type := Nat × List AE
def axe (X : SCR) (B : BD) (y : Nat) (M : MR) (i : Instr) (pr : List Nat) (pc : Nat) (lv : List (Nat × AE)) (st : List AE) (H : AH) (uc us : Nat) : Option AXE := match i with
  | .getfield _ => match pr, st with
    | [_, ci, k], .leaf (2, o) :: r => match tG H.2 o with
      | some c => bif Nat.beq c.1 (ci + 1) then some (pc + 3, lv, cA c k :: r, H, uc, us) else none
      | none => none
    | _, _ => none
  | .putfield _ => match pr, st with
    | [_, ci, k], v :: .leaf (2, o) :: r => match tG H.2 o with
      | some c => bif Nat.beq c.1 (ci + 1) && fitE (ft_ty ci k) v then (match hP H o k v with
        | some H' => some (pc + 3, lv, r, H', uc, us)
        | none => none) else none
      | none => none
    | _, _ => none
  | .getstatic _ => match pr with
    | [_, k] => some (pc + 3, lv, kS k :: st, H, uc, us)
    | _ => none
  | .iaload => match st with
    | e :: .leaf (3, k) :: r => match idxE B e with
      | some j => bif Nat.blt k 3 && Nat.blt j 4 then some (pc + 1, lv, kI (svN k j) :: r, H, uc, us) else none
      | none => none
    | e :: .leaf (5, _) :: r => match idxE B e with
      | some j => bif Nat.blt j X.1 && Nat.blt X.1 2147483648 then (match X.2[j]? with
        | some a => bif (aI a) then some (pc + 1, lv, a :: r, H, uc, us) else none
        | none => none) else none
      | none => none
    | st => axald B (fun c => kdIs c .int) pc lv st H uc us
  | .laload => axald B (fun c => kdIs c .long) pc lv st H uc us
  | .baload => match pr with
    | [0] => axald B (fun c => kdIs c .byte) pc lv st H uc us
    | [1] => axald B (fun c => kdIs c .boolean) pc lv st H uc us
    | _ => none
  | .aaload => axald B kdRef pc lv st H uc us
  | .iastore => axast B (fun c => kdIs c .int) .int pc lv st H uc us
  | .lastore => axast B (fun c => kdIs c .long) .long pc lv st H uc us
  | .bastore => match pr with
    | [0] => axast B (fun c => kdIs c .byte) .byte pc lv st H uc us
    | [1] => axast B (fun c => kdIs c .boolean) .boolean pc lv st H uc us
    | _ => none
  | .aastore => match pr, st with
    | [ci], .leaf (2, v) :: e :: .leaf (2, o) :: r => match tG H.2 o, tG H.2 v, idxE B e with
      | some c, some c2, some j => bif Nat.blt ci ft_nc && (kdObj c.1 ci && (Nat.beq c2.1 (ci + 1) && (Nat.blt j c.2.1 && Nat.blt c.2.1 2147483648))) then (match hP H o j (kR v) with
        | some H' => some (pc + 1, lv, r, H', uc, us)
        | none => none) else none
      | _, _, _ => none
    | _, _ => none
  | .arraylength => match st with
    | .leaf (5, _) :: r => bif Nat.blt 0 X.1 then some (pc + 1, lv, kI X.1 :: r, H, uc, us) else none
    | .leaf (2, o) :: r => match tG H.2 o with
      | some c => bif kdArr c.1 then some (pc + 1, lv, kI c.2.1 :: r, H, uc, us) else none
      | none => none
    | _ => none
  | .invokespecial _ => match pr, st with
    | [_, _, _], .leaf (2, _) :: r => bif Nat.ble ((r.map aC).sum) 8 then some (pc + 3, lv, r, H, uc, us) else none
    | _, _ => none
  | .new _ => match pr with
    | [ci, _, _, _] => axnew M ⟨ci + 1, ghost y pc, none, tE⟩ (pc + 3) lv st H uc us (ft_cd ci).2.2
    | _ => none
  | .newarray t => match pr, st with
    | [kd, _], .leaf (0, n) :: r => bif okAT t && (Nat.blt n 2147483648 && Nat.ble (n * componentBytes (newarray.typeOf t)) 536870912) then axnew M ⟨kd, n, some (dfT (newarray.typeOf t), dfT (newarray.typeOf t)), tE⟩ (pc + 2) lv r H uc us n else none
    | _, _ => none
  | .anewarray _ => match pr, st with
    | [kd, _, _, _], .leaf (0, n) :: r => bif Nat.blt n 2147483648 && Nat.ble (n * 4) 536870912 then axnew M ⟨kd, n, some (kZ, kZ), tE⟩ (pc + 3) lv r H uc us n else none
    | _, _ => none
  | .tableswitch d lo hi offs => match pr, st with
    | [], e :: r => match idxE B e with
      | some n => if (n : Int) < lo ∨ hi < (n : Int) then (if 0 ≤ (pc : Int) + d then some (ft_tgt pc d, lv, r, H, uc, us) else none) else (match offs[((n : Int) - lo).toNat]? with
        | some off => if 0 ≤ (pc : Int) + off then some (ft_tgt pc off, lv, r, H, uc, us) else none
        | none => none)
      | none => if (aI e) = true ∧ (((bd B e).2 : Int) < lo + 9223372036854775808 ∨ hi + 9223372036854775808 < ((bd B e).1 : Int)) ∧ 0 ≤ (pc : Int) + d then some (ft_tgt pc d, lv, r, H, uc, us) else none
    | _, _ => none
  | i => match axp i pr pc M.2.2.1 lv st with
    | some (pc', lv', st') => some (pc', lv', st', H, uc, us)
    | none => none
theorem dfT_tys : ∀ l ∈ ft_tys, ∀ t ∈ l, t = .int ∨ t = .long ∨ t = .boolean ∨ t = .byte ∨ (∃ s, t = .object s) ∨ (∃ s, t = .array s) := by
  have q : (ft_tys.all fun l => l.all fun t => match t with | .int => true | .long => true | .boolean => true | .byte => true | .object _ => true | .array _ => true | _ => false) = true := by decide +kernel
  intro l hl t ht
  have q2 := List.all_eq_true.mp (List.all_eq_true.mp q l hl) t ht
  cases t <;> simp at q2 ⊢
theorem ax_len {y pc n m : Nat} {i : Instr} {pr : List Nat} (hc : ft_chk y = true) (hk : ft_lk pc (ft_c y) = some (i, n, pr)) (hl : ft_len i n = m) : ft_lk pc (ft_c y) = some (i, m, pr) := by
  obtain ⟨-, hn, -⟩ := ft_row_ok hc hk
  rw [hk, ← hl, ← hn]
section AX6
variable {D : ft_G} {ρ : Nat → Int32} {σ : Nat → Int64} {h0 : ft_H}
theorem kdIs_ok {c : Nat} {ty : FieldType} (h : kdIs c ty = true) : ft_kd c = some (.inr ty) := by
  unfold kdIs at h
  split at h
  · rename_i t e
    rw [e]
    split at h <;> first | rfl | cases h
  · cases h
theorem kdObj_ok {c ci : Nat} (h : kdObj c ci = true) : ft_kd c = some (.inr (.object (ft_cd ci).1)) := by
  unfold kdObj at h
  split at h
  · rename_i s e
    rw [e, of_decide_eq_true h]
  · cases h
theorem kdArr_ok {c : Nat} (h : kdArr c = true) : ∃ ty, ft_kd c = some (.inr ty) := by
  unfold kdArr at h
  split at h
  · rename_i t e
    exact ⟨t, e⟩
  · cases h
theorem kdRef_ok {c : Nat} (h : kdRef c = true) : ∃ C, ft_kd c = some (.inr (.object C)) := by
  unfold kdRef at h
  split at h
  · rename_i t e
    exact ⟨t, e⟩
  · cases h
theorem nb2 : ∀ n, n < 2 → narrow .boolean (.int (nI n)) = .int (nI n) := by decide +kernel
theorem nb128 : ∀ n, n < 128 → narrow .byte (.int (nI n)) = .int (nI n) := by decide +kernel
theorem fb2 : ∀ n, n < 2 → fits .boolean (.int (nI n)) = true := by decide +kernel
theorem fb128 : ∀ n, n < 128 → fits .byte (.int (nI n)) = true := by decide +kernel
theorem fitE_ok {ty : FieldType} {a : AE} (h : fitE ty a = true) : narrow ty ((aD D ρ σ a)) = (aD D ρ σ a) ∧ fits ty ((aD D ρ σ a)) = true := by
  unfold fitE at h
  split at h
  · rw [aD_I h]; exact ⟨rfl, rfl⟩
  · rw [aD_L h]; exact ⟨rfl, rfl⟩
  · split at h
    · rename_i n
      exact ⟨nb2 n (blt_lt h), fb2 n (blt_lt h)⟩
    · cases h
  · split at h
    · rename_i n
      exact ⟨nb128 n (blt_lt h), fb128 n (blt_lt h)⟩
    · cases h
  · rcases aD_R (D := D) (ρ := ρ) (σ := σ) h with ⟨q, e1⟩ | e1 <;> rw [e1] <;> exact ⟨rfl, rfl⟩
  · rcases aD_R (D := D) (ρ := ρ) (σ := σ) h with ⟨q, e1⟩ | e1 <;> rw [e1] <;> exact ⟨rfl, rfl⟩
  · cases h
theorem svN_ok : ∀ k, k < 3 → ∀ j, j < 4 → ft_sv k j = nI (svN k j) := by decide +kernel
theorem clampE {j : Nat} (h : j < 2147483648) : (nI j).toNatClampNeg = j := by
  show (nI j).toInt.toNat = j
  rw [nI_tI h]; rfl
theorem vpE {j m : Nat} (hj : j < m) (hm : m < 2147483648) : vp_in (nI j) m := by
  intro z
  rcases z with z | z
  · rw [Int32.lt_iff_toInt_lt, nI_tI (by omega)] at z
    have z3 : (0 : Int32).toInt = 0 := rfl
    omega
  · rw [clampE (by omega)] at z; omega
/-- what an exact step says of the machine -/
abbrev axsm (D : ft_G) (ρ : Nat → Int32) (σ : Nat → Int64) (h0 : ft_H) (y pc : Nat) (lv : List (Nat × AE)) (st : List AE) (H : AH) (uc us : Nat) (Q : Option Value → ft_H → Prop) : Prop := sm D y pc (dL D ρ σ lv) (dS D ρ σ st) ((hD D ρ σ h0 H)) uc us Q
theorem unif {k m j : Nat} {a b : AE} (h : j < m) : (aD D ρ σ (cA ⟨k, m, some (a, b), tE⟩ j)) = (aD D ρ σ a) := by
  have : cA ⟨k, m, some (a, b), tE⟩ j = a := by
    show (bif Nat.blt j m then a else b) = a
    have : Nat.blt j m = true := Nat.ble_eq_true_of_le h
    rw [this]; rfl
  rw [this]
theorem axald_ok {B : BD} (hB : BOK ρ σ B) {t : Nat → Bool} {pc pc' uc us uc' us' y n : Nat} {lv lv' : List (Nat × AE)} {st st' : List AE} {H H' : AH} {Q : Option Value → ft_H → Prop} {pr : List Nat} {i : Instr} (hc : ft_chk y = true) (hk : ft_lk pc (ft_c y) = some (i, n, pr))
    (hG : ∀ (a j : Nat) (v : Value) (r : List Value) (h : ft_H), t (h.2.1 a).1 = true → vp_in (nI j) (h.2.1 a).2 → h.1 a (nI j).toNatClampNeg = v → ∃ gs, ft_e D y i pr pc (dL D ρ σ lv) (.int (nI j) :: .ref a :: r) h [v] = some (gs, pc + 1, dL D ρ σ lv, v :: r, h, []) ∧ ft_all gs)
    (he : axald B t pc lv st H uc us = some (pc', lv', st', H', uc', us')) (k : axsm D ρ σ h0 y pc' lv' st' H' uc' us' Q) : axsm D ρ σ h0 y pc lv st H uc us Q := by
  unfold axald at he
  split at he
  · rename_i e0 o r
    split at he
    · rename_i c j hcell hidx
      obtain ⟨i1, i2, i3⟩ := idxE_ok hB hidx
      cases hb : (t c.1 && (Nat.blt j c.2.1 && Nat.blt c.2.1 2147483648)) with
      | false => rw [hb] at he; cases he
      | true =>
        rw [hb] at he
        cases he
        rw [Bool.and_eq_true, Bool.and_eq_true] at hb
        have h1 := blt_lt hb.2.1
        have h2 := blt_lt hb.2.2
        have hK := hD_K (D := D) (ρ := ρ) (σ := σ) (h0 := h0) hcell
        obtain ⟨gs, e, g⟩ := hG (ft_B D + o) j ((aD D ρ σ (cA c j))) (dS D ρ σ _) ((hD D ρ σ h0 H)) (by rw [hK]; exact hb.1) (by rw [hK]; exact vpE h1 h2) (by rw [clampE (by omega)]; exact hD_V hcell j)
        show sm D y pc _ ((aD D ρ σ e0) :: _) _ uc us Q
        rw [aD_I i1, i2]
        exact ft_e_ok hc hk e g k
    · rename_i kd m a b hcell hidx
      cases hb : (t kd && idxB B e0 m) with
      | false => rw [hb] at he; cases he
      | true =>
        rw [hb] at he
        cases he
        rw [Bool.and_eq_true] at hb
        obtain ⟨i1, j, i2, i3, i4⟩ := idxB_ok (ρ := ρ) (σ := σ) hB hb.2
        have hK := hD_K (D := D) (ρ := ρ) (σ := σ) (h0 := h0) hcell
        obtain ⟨gs, e, g⟩ := hG (ft_B D + o) j ((aD D ρ σ a)) (dS D ρ σ _) ((hD D ρ σ h0 H)) (by rw [hK]; exact hb.1) (by rw [hK]; exact vpE i3 i4) (by rw [clampE (by omega), hD_V hcell j]; exact unif i3)
        show sm D y pc _ ((aD D ρ σ e0) :: _) _ uc us Q
        rw [aD_I i1, i2]
        exact ft_e_ok hc hk e g k
    · cases he
  · cases he
theorem axast_ok {B : BD} (hB : BOK ρ σ B) {t : Nat → Bool} {ty : FieldType} {pc pc' uc us uc' us' y n : Nat} {lv lv' : List (Nat × AE)} {st st' : List AE} {H H' : AH} {Q : Option Value → ft_H → Prop} {pr : List Nat} {i : Instr} (hc : ft_chk y = true) (hk : ft_lk pc (ft_c y) = some (i, n, pr))
    (hG : ∀ (a j : Nat) (v : AE) (r : List Value) (h : ft_H), t (h.2.1 a).1 = true → ft_B D ≤ a → vp_in (nI j) (h.2.1 a).2 → fitE ty v = true → ∃ gs, ft_e D y i pr pc (dL D ρ σ lv) ((aD D ρ σ v) :: .int (nI j) :: .ref a :: r) h [] = some (gs, pc + 1, dL D ρ σ lv, r, ft_set h a (nI j).toNatClampNeg ((aD D ρ σ v)), []) ∧ ft_all gs)
    (he : axast B t ty pc lv st H uc us = some (pc', lv', st', H', uc', us')) (k : axsm D ρ σ h0 y pc' lv' st' H' uc' us' Q) : axsm D ρ σ h0 y pc lv st H uc us Q := by
  unfold axast at he
  split at he
  · rename_i v e0 o r
    split at he
    · rename_i c j hcell hidx
      obtain ⟨i1, i2, i3⟩ := idxE_ok hB hidx
      cases hb : (t c.1 && (fitE ty v && (Nat.blt j c.2.1 && Nat.blt c.2.1 2147483648))) with
      | false => rw [hb] at he; cases he
      | true =>
        rw [hb] at he
        simp only [cond_true] at he
        split at he
        · rename_i H2 hput
          cases he
          rw [Bool.and_eq_true, Bool.and_eq_true, Bool.and_eq_true] at hb
          have h1 := blt_lt hb.2.2.1
          have h2 := blt_lt hb.2.2.2
          have hK := hD_K (D := D) (ρ := ρ) (σ := σ) (h0 := h0) hcell
          obtain ⟨gs, e, g⟩ := hG (ft_B D + o) j v (dS D ρ σ _) ((hD D ρ σ h0 H)) (by rw [hK]; exact hb.1) (by omega) (by rw [hK]; exact vpE h1 h2) hb.2.1
          rw [clampE (by omega), hD_put hput] at e
          show sm D y pc _ ((aD D ρ σ v) :: (aD D ρ σ e0) :: _) _ uc us Q
          rw [aD_I i1, i2]
          exact ft_e_ok hc hk e g k
        · cases he
    · rename_i kd m a b hcell hidx
      cases hb : (t kd && (fitE ty v && (idxB B e0 m && aB a v))) with
      | false => rw [hb] at he; cases he
      | true =>
        rw [hb] at he
        cases he
        rw [Bool.and_eq_true, Bool.and_eq_true, Bool.and_eq_true] at hb
        obtain ⟨i1, j, i2, i3, i4⟩ := idxB_ok (ρ := ρ) (σ := σ) hB hb.2.2.1
        have hK := hD_K (D := D) (ρ := ρ) (σ := σ) (h0 := h0) hcell
        have hav := aB_ok hb.2.2.2
        obtain ⟨gs, e, g⟩ := hG (ft_B D + o) j v (dS D ρ σ _) ((hD D ρ σ h0 H)) (by rw [hK]; exact hb.1) (by omega) (by rw [hK]; exact vpE i3 i4) hb.2.1
        have hsame : ft_set ((hD D ρ σ h0 H)) (ft_B D + o) j ((aD D ρ σ v)) = (hD D ρ σ h0 H) := by
          refine Prod.ext ?_ rfl
          funext b2 i
          show (if b2 = ft_B D + o ∧ i = j then _ else _) = _
          by_cases q : b2 = ft_B D + o ∧ i = j
          · rw [if_pos q, q.1, q.2, hD_V hcell, unif i3, hav]
          · rw [if_neg q]
        rw [clampE (by omega), hsame] at e
        show sm D y pc _ ((aD D ρ σ v) :: (aD D ρ σ e0) :: _) _ uc us Q
        rw [aD_I i1, i2]
        exact ft_e_ok hc hk e g k
    · cases he
  · cases he
theorem axnew_ok {M : MR} {pc pc' uc us uc' us' y sz : Nat} {c : CE} {f : Nat → Value} {lv lv' : List (Nat × AE)} {r st' : List AE} {H H' : AH} {Q : Option Value → ft_H → Prop} (hf : ∀ j, (aD D ρ σ (cA c j)) = f j)
    (hm1 : ft_mc y = M.2.2.2.1) (hm2 : ft_mz y = M.2.2.2.2.1) (he : axnew M c pc lv r H uc us sz = some (pc', lv', st', H', uc', us')) (k : axsm D ρ σ h0 y pc' lv' st' H' uc' us' Q) :
    uc + 1 ≤ ft_mc y ∧ us + sz ≤ ft_mz y ∧ sm D y pc (dL D ρ σ lv) (.ref ((hD D ρ σ h0 H)).2.2 :: dS D ρ σ r) (ft_new ((hD D ρ σ h0 H)) (c.1, c.2.1) f) (uc + 1) (us + sz) Q := by
  unfold axnew at he
  rw [hm1, hm2]
  cases hb : (Nat.ble (uc + 1) M.2.2.2.1 && Nat.ble (us + sz) M.2.2.2.2.1) with
  | false => rw [hb] at he; cases he
  | true =>
    rw [hb] at he
    simp only [cond_true] at he
    split at he
    · rename_i H2 hnew
      cases he
      rw [Bool.and_eq_true] at hb
      refine ⟨Nat.le_of_ble_eq_true hb.1, Nat.le_of_ble_eq_true hb.2, ?_⟩
      rw [hD_new hnew hf]
      exact k
    · cases he
theorem dfT_obj (c k : Nat) : (aD D ρ σ (dfT (ft_ty c k))) = defaultValue (ft_ty c k) := by
  have q : ∀ l ∈ ft_tys, ∀ t ∈ l, t = .int ∨ t = .long ∨ t = .boolean ∨ t = .byte ∨ (∃ s, t = .object s) ∨ (∃ s, t = .array s) := dfT_tys
  have q2 : ft_ty c k = .int ∨ ft_ty c k = .long ∨ ft_ty c k = .boolean ∨ ft_ty c k = .byte ∨ (∃ s, ft_ty c k = .object s) ∨ (∃ s, ft_ty c k = .array s) := by
    unfold ft_ty
    rw [List.getD_eq_getElem?_getD, List.getD_eq_getElem?_getD]
    cases h1 : ft_tys[c]? with
    | none => exact Or.inl rfl
    | some l =>
      simp only [Option.getD_some]
      cases h2 : l[k]? with
      | none => exact Or.inl rfl
      | some t => exact q l (List.mem_of_getElem? h1) t (List.mem_of_getElem? h2)
  rcases q2 with e | e | e | e | ⟨s, e⟩ | ⟨s, e⟩ <;> rw [e] <;> rfl
theorem dfT_arr (t : ArrayType) (ht : t = .int ∨ t = .long ∨ t = .byte ∨ t = .boolean) : (aD D ρ σ (dfT (newarray.typeOf t))) = defaultValue (newarray.typeOf t) := by
  rcases ht with rfl | rfl | rfl | rfl <;> rfl
end AX6
section AX7
variable {D : ft_G} {ρ : Nat → Int32} {σ : Nat → Int64} {h0 : ft_H}
def XOK (D : ft_G) (ρ : Nat → Int32) (σ : Nat → Int64) (X : SCR) : Prop := 0 < X.1 → D.2.2.2.2.2.2.1 = X.1 ∧ ∀ (j : Nat) (a : AE), X.2[j]? = some a → (aD D ρ σ a) = .int (D.2.2.2.2.2.2.2 j)
theorem nI_nneg {n : Nat} (h : n < 2147483648) : ¬ nI n < 0 := by
  intro z
  rw [Int32.lt_iff_toInt_lt, nI_tI h] at z
  have z3 : (0 : Int32).toInt = 0 := rfl
  omega
theorem cat_sum (r : List AE) : ((dS D ρ σ r).map fun v => v.category).sum = (r.map aC).sum := by
  congr 1
  show List.map _ (List.map _ r) = _
  rw [List.map_map]
  exact List.map_congr_left (fun a _ => aD_cat a)
set_option maxHeartbeats 4000000 in
theorem axe_ok {i : Instr} {pr : List Nat} {pc pc' uc us uc' us' y n : Nat} {lv lv' : List (Nat × AE)} {st st' : List AE} {H H' : AH} {Q : Option Value → ft_H → Prop} {X : SCR} {B : BD} (hX : XOK D ρ σ X) (hB : BOK ρ σ B) {M : MR} (hM : MOK y M) (hk : ft_lk pc (ft_c y) = some (i, n, pr))
    (he : axe X B y M i pr pc lv st H uc us = some (pc', lv', st', H', uc', us')) (k : axsm D ρ σ h0 y pc' lv' st' H' uc' us' Q) : axsm D ρ σ h0 y pc lv st H uc us Q := by
  have hc := hM.1
  have hm1 := hM.2.2.2.2.1
  have hm2 := hM.2.2.2.2.2.1
  have hnL := hM.2.2.2.1
  unfold axe at he
  split at he
  · -- getfield
    split at he
    · rename_i jj ci kk o r
      split at he
      · rename_i c hcell
        cases hb : Nat.beq c.1 (ci + 1) with
        | false => rw [hb] at he; cases he
        | true =>
          rw [hb] at he
          cases he
          have hK := hD_K (D := D) (ρ := ρ) (σ := σ) (h0 := h0) hcell
          refine ft_e_ok hc hk (os := [(aD D ρ σ (cA c kk))]) (os' := []) rfl ⟨?_, ?_, trivial⟩ k
          · rw [hK]; exact Nat.eq_of_beq_eq_true hb
          · exact hD_V hcell kk
      · cases he
    · cases he
  · -- putfield
    split at he
    · rename_i jj ci kk v o r
      split at he
      · rename_i c hcell
        cases hb : (Nat.beq c.1 (ci + 1) && fitE (ft_ty ci kk) v) with
        | false => rw [hb] at he; cases he
        | true =>
          rw [hb] at he
          simp only [cond_true] at he
          split at he
          · rename_i H2 hput
            cases he
            rw [Bool.and_eq_true] at hb
            have hK := hD_K (D := D) (ρ := ρ) (σ := σ) (h0 := h0) hcell
            have hF := fitE_ok (D := D) (ρ := ρ) (σ := σ) hb.2
            refine ft_e_ok hc hk (os := []) (os' := []) rfl ⟨?_, ?_, hF.1, hF.2, trivial⟩ ?_
            · rw [hK]; exact Nat.eq_of_beq_eq_true hb.1
            · exact Nat.le_add_right _ _
            · rw [hD_put hput]; exact k
          · cases he
      · cases he
    · cases he
  · -- getstatic
    split at he
    · cases he
      exact ft_e_ok hc hk (os := []) (os' := []) rfl trivial k
    · cases he
  · -- iaload
    split at he
    · rename_i e0 kk r
      split at he
      · rename_i j hidx
        obtain ⟨i1, i2, i3⟩ := idxE_ok hB hidx
        cases hb : (Nat.blt kk 3 && Nat.blt j 4) with
        | false => rw [hb] at he; cases he
        | true =>
          rw [hb] at he
          cases he
          rw [Bool.and_eq_true] at hb
          have h1 := blt_lt hb.1
          have h2 := blt_lt hb.2
          obtain ⟨hd, hn, -⟩ := ft_row_ok hc hk
          rw [hn] at hd
          show sm D y pc _ ((aD D ρ σ e0) :: _) _ uc us Q
          rw [aD_I i1, i2]
          refine sm_tld hd (k := kk) (q := ft_st.getD kk ("", "", "")) ?_ (vpE h2 (by decide)) ?_
          · have h3 : kk < ft_st.length := h1
            rw [List.getD_eq_getElem?_getD, List.getElem?_eq_getElem h3]
            rfl
          · show sm D y (pc + 1) _ (Value.int (ft_sv kk (nI j).toNatClampNeg) :: _) _ uc us Q
            rw [clampE (by omega), svN_ok kk h1 j h2]
            exact k
      · cases he
    · rename_i e0 _ r
      split at he
      · rename_i j hidx
        obtain ⟨i1, i2, i3⟩ := idxE_ok hB hidx
        cases hb : (Nat.blt j X.1 && Nat.blt X.1 2147483648) with
        | false => rw [hb] at he; cases he
        | true =>
          rw [hb] at he
          simp only [cond_true] at he
          rw [Bool.and_eq_true] at hb
          have h1 := blt_lt hb.1
          have h2 := blt_lt hb.2
          split at he
          · rename_i a ha
            cases hb2 : (aI a) with
            | false => rw [hb2] at he; cases he
            | true =>
              rw [hb2] at he
              cases he
              obtain ⟨hd, hn, -⟩ := ft_row_ok hc hk
              rw [hn] at hd
              show sm D y pc _ ((aD D ρ σ e0) :: _) _ uc us Q
              rw [aD_I i1, i2]
              have hX := hX (Nat.lt_of_le_of_lt (Nat.zero_le _) h1)
              refine sm_sld hd (by rw [hX.1]; exact vpE h1 h2) ?_
              rw [clampE i3, ← hX.2 j a ha]
              exact k
          · cases he
      · cases he
    · exact axald_ok hB hc hk (fun a j v r h e1 e2 e3 => ⟨_, rfl, kdIs_ok e1, e2, e3, trivial⟩) he k
  · exact axald_ok hB hc hk (fun a j v r h e1 e2 e3 => ⟨_, rfl, kdIs_ok e1, e2, e3, trivial⟩) he k
  · split at he
    · exact axald_ok hB hc hk (fun a j v r h e1 e2 e3 => ⟨_, rfl, kdIs_ok e1, e2, e3, trivial⟩) he k
    · exact axald_ok hB hc hk (fun a j v r h e1 e2 e3 => ⟨_, rfl, kdIs_ok e1, e2, e3, trivial⟩) he k
    · cases he
  · exact axald_ok hB hc hk (fun a j v r h e1 e2 e3 => ⟨_, rfl, kdRef_ok e1, e2, e3, trivial⟩) he k
  · refine axast_ok hB hc hk (fun a j v r h e1 e2 e3 e4 => ?_) he k
    rw [aD_I (show (aI v) = true from e4)]
    exact ⟨_, rfl, kdIs_ok e1, e2, e3, trivial⟩
  · refine axast_ok hB hc hk (fun a j v r h e1 e2 e3 e4 => ?_) he k
    rw [aD_L (show (aL v) = true from e4)]
    exact ⟨_, rfl, kdIs_ok e1, e2, e3, trivial⟩
  · split at he
    · refine axast_ok hB hc hk (fun a j v r h e1 e2 e3 e4 => ?_) he k
      unfold fitE at e4
      simp only [] at e4
      split at e4
      · rename_i nn
        refine ⟨[_, _, _], ?_, kdIs_ok e1, e2, e3, trivial⟩
        show some ([_, _, _], pc + 1, _, r, ft_set h a _ (narrow .byte (.int (nI nn))), _) = some (_, _, _, _, ft_set h a _ (.int (nI nn)), _)
        rw [nb128 nn (blt_lt e4)]
      · cases e4
    · refine axast_ok hB hc hk (fun a j v r h e1 e2 e3 e4 => ?_) he k
      unfold fitE at e4
      simp only [] at e4
      split at e4
      · rename_i nn
        refine ⟨[_, _, _], ?_, kdIs_ok e1, e2, e3, trivial⟩
        show some ([_, _, _], pc + 1, _, r, ft_set h a _ (narrow .boolean (.int (nI nn))), _) = some (_, _, _, _, ft_set h a _ (.int (nI nn)), _)
        rw [nb2 nn (blt_lt e4)]
      · cases e4
    · cases he
  · -- aastore
    split at he
    · rename_i ci v e0 o r
      split at he
      · rename_i c c2 j hcell hcell2 hidx
        obtain ⟨i1, i2, i3⟩ := idxE_ok hB hidx
        cases hb : (Nat.blt ci ft_nc && (kdObj c.1 ci && (Nat.beq c2.1 (ci + 1) && (Nat.blt j c.2.1 && Nat.blt c.2.1 2147483648)))) with
        | false => rw [hb] at he; cases he
        | true =>
          rw [hb] at he
          simp only [cond_true] at he
          split at he
          · rename_i H2 hput
            cases he
            rw [Bool.and_eq_true, Bool.and_eq_true, Bool.and_eq_true, Bool.and_eq_true] at hb
            have hK := hD_K (D := D) (ρ := ρ) (σ := σ) (h0 := h0) hcell
            have hK2 := hD_K (D := D) (ρ := ρ) (σ := σ) (h0 := h0) hcell2
            have h1 := blt_lt hb.2.2.2.1
            have h2 := blt_lt hb.2.2.2.2
            show sm D y pc _ (.ref (ft_B D + v) :: (aD D ρ σ e0) :: _) _ uc us Q
            rw [aD_I i1, i2]
            refine ft_e_ok hc hk (os := []) (os' := []) rfl ⟨blt_lt hb.1, ?_, ?_, ?_, ?_, trivial⟩ ?_
            · rw [hK]; exact kdObj_ok hb.2.1
            · rw [hK2]; exact Nat.eq_of_beq_eq_true hb.2.2.1
            · exact Nat.le_add_right _ _
            · rw [hK]; exact vpE h1 h2
            · show sm D y (pc + 1) _ _ (ft_set ((hD D ρ σ h0 H)) (ft_B D + o) (nI j).toNatClampNeg ((aD D ρ σ (kR v)))) uc us Q
              rw [clampE (by omega), hD_put hput]; exact k
          · cases he
      · cases he
    · cases he
  · -- arraylength
    split at he
    · cases hb : Nat.blt 0 X.1 with
      | false => rw [hb] at he; cases he
      | true =>
        rw [hb] at he
        cases he
        have hX := hX (blt_lt hb)
        obtain ⟨hd, hn, -⟩ := ft_row_ok hc hk
        rw [hn] at hd
        refine sm_slen hd (v := .int (nI X.1)) (by rw [hX.1]; rfl) k
    · rename_i o r
      split at he
      · rename_i c hcell
        cases hb : kdArr c.1 with
        | false => rw [hb] at he; cases he
        | true =>
          rw [hb] at he
          cases he
          have hK := hD_K (D := D) (ρ := ρ) (σ := σ) (h0 := h0) hcell
          obtain ⟨ty, hty⟩ := kdArr_ok hb
          refine ft_e_ok hc hk (os := [.int (nI c.2.1)]) (os' := []) rfl ⟨⟨ty, ?_⟩, ?_, trivial⟩ k
          · rw [hK]; exact hty
          · rw [hK]; rfl
      · cases he
    · cases he
  · -- Object's constructor
    split at he
    · rename_i o r
      cases hb : Nat.ble ((r.map aC).sum) 8 with
      | false => rw [hb] at he; cases he
      | true =>
        rw [hb] at he
        cases he
        refine ft_e_ok hc hk (os := []) (os' := []) rfl ⟨?_, trivial⟩ k
        rw [cat_sum]; exact Nat.le_of_ble_eq_true hb
    · cases he
  · -- new
    split at he
    · rename_i ci _ _ _
      obtain ⟨h1, h2, h3⟩ := axnew_ok (f := fun k => defaultValue (ft_ty ci k)) (fun j => dfT_obj ci j) hm1 hm2 he k
      exact r_newO (ghost y pc) hc (ax_len hc hk (by rfl)) h1 h2 h3
    · cases he
  · -- newarray
    rename_i t
    split at he
    · rename_i kd _ n r
      cases hb : (okAT t && (Nat.blt n 2147483648 && Nat.ble (n * componentBytes (newarray.typeOf t)) 536870912)) with
      | false => rw [hb] at he; cases he
      | true =>
        rw [hb] at he
        simp only [cond_true] at he
        rw [Bool.and_eq_true, Bool.and_eq_true] at hb
        have ht : t = .int ∨ t = .long ∨ t = .byte ∨ t = .boolean := by
          have q := hb.1
          cases t <;> simp [okAT] at q ⊢
        have hd := dfT_arr (D := D) (ρ := ρ) (σ := σ) t ht
        obtain ⟨h1, h2, h3⟩ := axnew_ok (f := fun _ => defaultValue (newarray.typeOf t)) (fun j => by
          show ((aD D ρ σ (bif Nat.blt j n then dfT (newarray.typeOf t) else dfT (newarray.typeOf t)))) = _
          cases Nat.blt j n <;> exact hd) hm1 hm2 he k
        exact r_newA hc (ax_len hc hk (by rfl)) (nI_nneg (blt_lt hb.2.1)) (clampE (blt_lt hb.2.1)) (Nat.le_of_ble_eq_true hb.2.2) h1 h2 h3
    · cases he
  · -- anewarray
    split at he
    · rename_i kd _ _ _ n r
      cases hb : (Nat.blt n 2147483648 && Nat.ble (n * 4) 536870912) with
      | false => rw [hb] at he; cases he
      | true =>
        rw [hb] at he
        simp only [cond_true] at he
        rw [Bool.and_eq_true] at hb
        obtain ⟨h1, h2, h3⟩ := axnew_ok (f := fun _ => .null) (fun j => by
          show ((aD D ρ σ (bif Nat.blt j n then kZ else kZ))) = _
          cases Nat.blt j n <;> rfl) hm1 hm2 he k
        exact r_newQ hc (ax_len hc hk (by rfl)) (nI_nneg (blt_lt hb.1)) (clampE (blt_lt hb.1)) (Nat.le_of_ble_eq_true hb.2) h1 h2 h3
    · cases he
  · -- tableswitch
    rename_i d lo hi offs
    split at he
    · rename_i e0 r
      split at he
      · rename_i x hidx
        obtain ⟨i1, i2, i3⟩ := idxE_ok hB hidx
        have hx := nI_tI i3
        show sm D y pc _ ((aD D ρ σ e0) :: _) _ uc us Q
        rw [aD_I i1, i2]
        split at he
        · rename_i hlo
          split at he
          · rename_i h0'
            cases he
            exact r_swOut hc hk (x := nI x) (by rw [hx]; exact hlo) (ft_tgt_ok h0') k
          · cases he
        · rename_i hlo
          split at he
          · rename_i off hoff
            split at he
            · rename_i h0'
              cases he
              exact r_swIn hc hk (x := nI x) (by rw [hx]; omega) (by rw [hx]; omega) (by rw [hx]; exact hoff) (ft_tgt_ok h0') k
            · cases he
          · cases he
      · split at he
        · rename_i hh
          cases he
          show sm D y pc _ ((aD D ρ σ e0) :: _) _ uc us Q
          rw [aD_I hh.1]
          have h1 := bd_ok hB e0
          have h2 := ov_I (ρ := ρ) (σ := σ) hh.1
          exact r_swOut hc hk (by rcases hh.2.1 with q | q <;> omega) (ft_tgt_ok hh.2.2) k
        · cases he
    · cases he
  · split at he
    · rename_i q1 q2 q3 hp
      cases he
      rw [← hnL] at hp
      obtain ⟨gs, e, g⟩ := axp_ok (D := D) (ρ := ρ) (σ := σ) hp
      obtain ⟨hd, hn, ho⟩ := ft_row_ok hc hk
      exact ft_p_ok hd hn (ft_okC_of ho) e g k
    · cases he
end AX7
