/-! linear terms: a number and named numbers with factors -/
abbrev LE : Type := Int × List (Nat × Int)
def vx_evT (ρ : Nat → Int) : List (Nat × Int) → Int
  | [] => 0
  | (v, c) :: r => c * ρ v + vx_evT ρ r
def vx_ev (ρ : Nat → Int) (l : LE) : Int := l.1 + vx_evT ρ l.2
def vx_iz : Int → Bool
  | .ofNat n => Nat.beq n 0
  | .negSucc _ => false
def vx_ip : Int → Bool
  | .ofNat _ => true
  | .negSucc _ => false
def vx_ieq : Int → Int → Bool
  | .ofNat n, .ofNat m => Nat.beq n m
  | .negSucc n, .negSucc m => Nat.beq n m
  | _, _ => false
def vx_ile : Int → Int → Bool
  | .ofNat n, .ofNat m => Nat.ble n m
  | .ofNat _, .negSucc _ => false
  | .negSucc _, .ofNat _ => true
  | .negSucc n, .negSucc m => Nat.ble m n
def vx_ins (v : Nat) (c : Int) : List (Nat × Int) → List (Nat × Int)
  | [] => [(v, c)]
  | (w, d) :: r => bif Nat.blt v w then (v, c) :: (w, d) :: r else bif Nat.beq v w then (bif vx_iz (c + d) then r else (v, c + d) :: r) else (w, d) :: vx_ins v c r
def vx_addT : List (Nat × Int) → List (Nat × Int) → List (Nat × Int)
  | [], b => b
  | (v, c) :: r, b => vx_ins v c (vx_addT r b)
def vx_add (a b : LE) : LE := (a.1 + b.1, vx_addT a.2 b.2)
def vx_scT (k : Int) : List (Nat × Int) → List (Nat × Int)
  | [] => []
  | (v, c) :: r => (v, k * c) :: vx_scT k r
def vx_sc (k : Int) (a : LE) : LE := bif vx_iz k then (Int.ofNat 0, []) else (k * a.1, vx_scT k a.2)
def vx_neg (a : LE) : LE := vx_sc (Int.negSucc 0) a
def vx_sub (a b : LE) : LE := vx_add a (vx_neg b)
def vx_k (a : LE) (k : Int) : LE := (a.1 + k, a.2)
abbrev vx_c (k : Int) : LE := (k, [])
abbrev vx_v (i : Nat) : LE := (Int.ofNat 0, [(i, Int.ofNat 1)])
def vx_eqT : List (Nat × Int) → List (Nat × Int) → Bool
  | [], [] => true
  | (v, c) :: r, (w, d) :: t => Nat.beq v w && (vx_ieq c d && vx_eqT r t)
  | _, _ => false
def vx_eq (a b : LE) : Bool := vx_ieq a.1 b.1 && vx_eqT a.2 b.2
/-- named numbers put in -/
def vx_subT (g : Nat → LE) : List (Nat × Int) → LE
  | [] => vx_c (Int.ofNat 0)
  | (v, c) :: r => vx_add (vx_sc c (g v)) (vx_subT g r)
def vx_put (g : Nat → LE) (l : LE) : LE := vx_k (vx_subT g l.2) l.1
theorem vx_iz_ok {k : Int} (h : vx_iz k = true) : k = 0 := by
  cases k with
  | ofNat n => have := Nat.eq_of_beq_eq_true h; subst this; rfl
  | negSucc n => cases h
theorem vx_ip_ok {k : Int} : vx_ip k = true ↔ 0 ≤ k := by
  cases k with
  | ofNat n => exact ⟨fun _ => Int.natCast_nonneg n, fun _ => rfl⟩
  | negSucc n => exact ⟨fun h => (by cases h), fun h => absurd h (Int.not_le.mpr (Int.negSucc_lt_zero n))⟩
theorem vx_ieq_ok {a b : Int} (h : vx_ieq a b = true) : a = b := by
  cases a <;> cases b <;> simp only [vx_ieq] at h
  · rw [Nat.eq_of_beq_eq_true h]
  · cases h
  · cases h
  · rw [Nat.eq_of_beq_eq_true h]
theorem vx_ile_ok {a b : Int} (h : vx_ile a b = true) : a ≤ b := by
  cases a <;> cases b <;> simp only [vx_ile] at h
  · have := Nat.le_of_ble_eq_true h; exact Int.ofNat_le.mpr this
  · cases h
  · exact Int.le_trans (Int.le_of_lt (Int.negSucc_lt_zero _)) (Int.natCast_nonneg _)
  · have := Nat.le_of_ble_eq_true h; omega
theorem vx_ile_no {a b : Int} (h : vx_ile a b = false) : b < a := by
  by_cases q : b < a
  · exact q
  · exfalso
    have q' := Int.not_lt.mp q
    have : vx_ile a b = true := by
      cases a <;> cases b <;> simp only [vx_ile]
      · exact Nat.ble_eq_true_of_le (Int.ofNat_le.mp q')
      · exact absurd (Int.lt_of_le_of_lt (Int.le_trans (Int.natCast_nonneg _) q') (Int.negSucc_lt_zero _)) (Int.lt_irrefl _)
      · exact Nat.ble_eq_true_of_le (by omega)
    rw [h] at this; cases this
section VXE
variable {ρ : Nat → Int}
theorem vx_ins_ev (v : Nat) (c : Int) : ∀ t : List (Nat × Int), vx_evT ρ (vx_ins v c t) = c * ρ v + vx_evT ρ t
  | [] => rfl
  | (w, d) :: r => by
    unfold vx_ins
    cases h1 : Nat.blt v w
    · cases h2 : Nat.beq v w
      · simp only [cond_false]
        show d * ρ w + vx_evT ρ (vx_ins v c r) = _ + (d * ρ w + vx_evT ρ r)
        rw [vx_ins_ev v c r]; omega
      · have e := Nat.eq_of_beq_eq_true h2
        subst e
        simp only [cond_false, cond_true]
        cases h3 : vx_iz (c + d)
        · show (c + d) * ρ v + vx_evT ρ r = _ + (d * ρ v + vx_evT ρ r)
          rw [Int.add_mul]; omega
        · have z := vx_iz_ok h3
          show vx_evT ρ r = c * ρ v + (d * ρ v + vx_evT ρ r)
          have : c * ρ v + d * ρ v = 0 := by rw [← Int.add_mul, z, Int.zero_mul]
          omega
    · rfl
theorem vx_addT_ev : ∀ a b : List (Nat × Int), vx_evT ρ (vx_addT a b) = vx_evT ρ a + vx_evT ρ b
  | [], b => by show vx_evT ρ b = 0 + _; omega
  | (v, c) :: r, b => by
    show vx_evT ρ (vx_ins v c (vx_addT r b)) = c * ρ v + vx_evT ρ r + _
    rw [vx_ins_ev, vx_addT_ev r b]; omega
theorem vx_add_ev (a b : LE) : vx_ev ρ (vx_add a b) = vx_ev ρ a + vx_ev ρ b := by
  show a.1 + b.1 + vx_evT ρ (vx_addT a.2 b.2) = a.1 + vx_evT ρ a.2 + (b.1 + vx_evT ρ b.2)
  rw [vx_addT_ev]; omega
theorem vx_scT_ev (k : Int) : ∀ a : List (Nat × Int), vx_evT ρ (vx_scT k a) = k * vx_evT ρ a
  | [] => by show (0 : Int) = k * 0; omega
  | (v, c) :: r => by
    show k * c * ρ v + vx_evT ρ (vx_scT k r) = k * (c * ρ v + vx_evT ρ r)
    rw [vx_scT_ev k r, Int.mul_add, Int.mul_assoc]
theorem vx_sc_ev (k : Int) (a : LE) : vx_ev ρ (vx_sc k a) = k * vx_ev ρ a := by
  unfold vx_sc
  cases h : vx_iz k
  · show k * a.1 + vx_evT ρ (vx_scT k a.2) = k * (a.1 + vx_evT ρ a.2)
    rw [vx_scT_ev, Int.mul_add]
  · rw [vx_iz_ok h]
    show (0 : Int) + 0 = 0 * _
    omega
theorem vx_neg_ev (a : LE) : vx_ev ρ (vx_neg a) = - vx_ev ρ a := by
  unfold vx_neg
  rw [vx_sc_ev]
  show (-1 : Int) * _ = _
  omega
theorem vx_sub_ev (a b : LE) : vx_ev ρ (vx_sub a b) = vx_ev ρ a - vx_ev ρ b := by
  unfold vx_sub
  rw [vx_add_ev, vx_neg_ev]; omega
theorem vx_k_ev (a : LE) (k : Int) : vx_ev ρ (vx_k a k) = vx_ev ρ a + k := by
  show a.1 + k + vx_evT ρ a.2 = a.1 + vx_evT ρ a.2 + k
  omega
theorem vx_c_ev (k : Int) : vx_ev ρ (vx_c k) = k := by show k + 0 = k; omega
theorem vx_v_ev (i : Nat) : vx_ev ρ (vx_v i) = ρ i := by
  show (0 : Int) + (1 * ρ i + 0) = ρ i
  omega
theorem vx_eqT_ok : ∀ {a b : List (Nat × Int)}, vx_eqT a b = true → a = b
  | [], [], _ => rfl
  | [], _ :: _, h => by cases h
  | _ :: _, [], h => by cases h
  | (v, c) :: r, (w, d) :: t, h => by
    simp only [vx_eqT, Bool.and_eq_true] at h
    rw [Nat.eq_of_beq_eq_true h.1, vx_ieq_ok h.2.1, vx_eqT_ok h.2.2]
theorem vx_eq_ok {a b : LE} (h : vx_eq a b = true) : a = b := by
  simp only [vx_eq, Bool.and_eq_true] at h
  exact Prod.ext (vx_ieq_ok h.1) (vx_eqT_ok h.2)
theorem vx_subT_ev (g : Nat → LE) : ∀ t : List (Nat × Int), vx_ev ρ (vx_subT g t) = vx_evT (fun i => vx_ev ρ (g i)) t
  | [] => vx_c_ev 0
  | (v, c) :: r => by
    show vx_ev ρ (vx_add (vx_sc c (g v)) (vx_subT g r)) = c * vx_ev ρ (g v) + _
    rw [vx_add_ev, vx_sc_ev, vx_subT_ev g r]
theorem vx_put_ev (g : Nat → LE) (l : LE) : vx_ev ρ (vx_put g l) = vx_ev (fun i => vx_ev ρ (g i)) l := by
  unfold vx_put
  rw [vx_k_ev, vx_subT_ev]
  show _ = l.1 + _
  omega
end VXE
/-- only numbers below n are named -/
def vx_lt (n : Nat) (l : LE) : Prop := ∀ t ∈ l.2, t.1 < n
def vx_agr {α : Type} (n : Nat) (f g : Nat → α) : Prop := ∀ i, i < n → g i = f i
theorem vx_agr.refl {α : Type} {n : Nat} {f : Nat → α} : vx_agr n f f := fun _ _ => rfl
theorem vx_agr.trans {α : Type} {n m : Nat} {f g h : Nat → α} (a : vx_agr n f g) (b : vx_agr m g h) (hm : n ≤ m) : vx_agr n f h := fun i hi => by rw [b i (by omega), a i hi]
theorem vx_agr.mono {α : Type} {n m : Nat} {f g : Nat → α} (a : vx_agr m f g) (hm : n ≤ m) : vx_agr n f g := fun i hi => a i (by omega)
theorem vx_evT_agr {n : Nat} {ρ ρ' : Nat → Int} (a : vx_agr n ρ ρ') : ∀ {t : List (Nat × Int)}, (∀ q ∈ t, q.1 < n) → vx_evT ρ' t = vx_evT ρ t
  | [], _ => rfl
  | (v, c) :: r, h => by
    show c * ρ' v + _ = c * ρ v + _
    rw [a v (h (v, c) List.mem_cons_self), vx_evT_agr a (fun q hq => h q (List.mem_cons_of_mem _ hq))]
theorem vx_ev_agr {n : Nat} {ρ ρ' : Nat → Int} (a : vx_agr n ρ ρ') {l : LE} (h : vx_lt n l) : vx_ev ρ' l = vx_ev ρ l := by
  show l.1 + _ = l.1 + _
  rw [vx_evT_agr a h]
theorem vx_lt.mono {n m : Nat} {l : LE} (h : vx_lt n l) (hm : n ≤ m) : vx_lt m l := fun t ht => Nat.lt_of_lt_of_le (h t ht) hm
theorem vx_ins_lt {n v : Nat} {c : Int} (hv : v < n) : ∀ {t : List (Nat × Int)}, (∀ q ∈ t, q.1 < n) → ∀ q ∈ vx_ins v c t, q.1 < n
  | [], _, q, hq => by
    rw [List.mem_singleton.mp hq]; exact hv
  | (w, d) :: r, h, q, hq => by
    unfold vx_ins at hq
    cases h1 : Nat.blt v w
    · rw [h1] at hq
      cases h2 : Nat.beq v w
      · rw [h2] at hq
        simp only [cond_false] at hq
        rcases List.mem_cons.mp hq with e | e
        · rw [e]; exact h (w, d) List.mem_cons_self
        · exact vx_ins_lt hv (fun z hz => h z (List.mem_cons_of_mem _ hz)) q e
      · rw [h2] at hq
        simp only [cond_false, cond_true] at hq
        cases h3 : vx_iz (c + d)
        · rw [h3] at hq
          rcases List.mem_cons.mp hq with e | e
          · rw [e]; exact hv
          · exact h q (List.mem_cons_of_mem _ e)
        · rw [h3] at hq
          exact h q (List.mem_cons_of_mem _ hq)
    · rw [h1] at hq
      rcases List.mem_cons.mp hq with e | e
      · rw [e]; exact hv
      · exact h q e
theorem vx_addT_lt {n : Nat} : ∀ {a b : List (Nat × Int)}, (∀ q ∈ a, q.1 < n) → (∀ q ∈ b, q.1 < n) → ∀ q ∈ vx_addT a b, q.1 < n
  | [], b, _, hb, q, hq => hb q hq
  | (v, c) :: r, b, ha, hb, q, hq => vx_ins_lt (ha (v, c) List.mem_cons_self) (vx_addT_lt (fun z hz => ha z (List.mem_cons_of_mem _ hz)) hb) q hq
theorem vx_add_lt {n : Nat} {a b : LE} (ha : vx_lt n a) (hb : vx_lt n b) : vx_lt n (vx_add a b) := vx_addT_lt ha hb
theorem vx_scT_lt {n : Nat} {k : Int} : ∀ {a : List (Nat × Int)}, (∀ q ∈ a, q.1 < n) → ∀ q ∈ vx_scT k a, q.1 < n
  | [], _, q, hq => by cases hq
  | (v, c) :: r, ha, q, hq => by
    rcases List.mem_cons.mp hq with e | e
    · rw [e]; exact ha (v, c) List.mem_cons_self
    · exact vx_scT_lt (fun z hz => ha z (List.mem_cons_of_mem _ hz)) q e
theorem vx_c_lt {n : Nat} {k : Int} : vx_lt n (vx_c k) := fun t ht => by cases ht
theorem vx_sc_lt {n : Nat} {k : Int} {a : LE} (ha : vx_lt n a) : vx_lt n (vx_sc k a) := by
  unfold vx_sc
  cases vx_iz k
  · exact vx_scT_lt ha
  · exact vx_c_lt
theorem vx_neg_lt {n : Nat} {a : LE} (ha : vx_lt n a) : vx_lt n (vx_neg a) := vx_sc_lt ha
theorem vx_sub_lt {n : Nat} {a b : LE} (ha : vx_lt n a) (hb : vx_lt n b) : vx_lt n (vx_sub a b) := vx_add_lt ha (vx_neg_lt hb)
theorem vx_k_lt {n : Nat} {a : LE} {k : Int} (ha : vx_lt n a) : vx_lt n (vx_k a k) := ha
theorem vx_v_lt {n i : Nat} (h : i < n) : vx_lt n (vx_v i) := fun t ht => by rw [List.mem_singleton.mp ht]; exact h
theorem vx_subT_lt {n : Nat} {g : Nat → LE} : ∀ {t : List (Nat × Int)}, (∀ q ∈ t, vx_lt n (g q.1)) → vx_lt n (vx_subT g t)
  | [], _ => vx_c_lt
  | (v, c) :: r, h => vx_add_lt (vx_sc_lt (h (v, c) List.mem_cons_self)) (vx_subT_lt (fun q hq => h q (List.mem_cons_of_mem _ hq)))
theorem vx_put_lt {n : Nat} {g : Nat → LE} {l : LE} (h : ∀ q ∈ l.2, vx_lt n (g q.1)) : vx_lt n (vx_put g l) := vx_subT_lt h
