/-! what is known: how many numbers and cells are named, bounds, facts, kinds of cells, places -/
abbrev AV : Type := Nat × LE × Nat
abbrev ME : Type := Nat × LE × AV
abbrev VS : Type := Nat × Nat × TR (Int × Int) × List LE × TR (Nat × Nat) × List ME
abbrev vs_n (s : VS) : Nat := s.1
abbrev vs_r (s : VS) : Nat := s.2.1
abbrev vs_B (s : VS) : TR (Int × Int) := s.2.2.1
abbrev vs_F (s : VS) : List LE := s.2.2.2.1
abbrev vs_K (s : VS) : TR (Nat × Nat) := s.2.2.2.2.1
abbrev vs_M (s : VS) : List ME := s.2.2.2.2.2
def vx_loT (B : TR (Int × Int)) : List (Nat × Int) → Option Int
  | [] => some (Int.ofNat 0)
  | (v, c) :: r => match tG B v with
    | none => none
    | some b => match vx_loT B r with
      | none => none
      | some x => some ((bif vx_ip c then c * b.1 else c * b.2) + x)
/-- the least that it can be, by bounds alone -/
def vx_lo (B : TR (Int × Int)) (l : LE) : Option Int := match vx_loT B l.2 with
  | none => none
  | some x => some (l.1 + x)
def vx_lo0 (B : TR (Int × Int)) (l : LE) : Bool := match vx_lo B l with
  | none => false
  | some x => vx_ip x
def vx_co (v : Nat) : List (Nat × Int) → Int
  | [] => Int.ofNat 0
  | (w, c) :: r => bif Nat.beq v w then c else vx_co v r
/-- how often a fact is taken -/
def vx_q : Int → Int → Nat
  | .ofNat a, .ofNat b => bif Nat.beq (a % b) 0 then a / b else 0
  | .negSucc a, .negSucc b => bif Nat.beq ((a + 1) % (b + 1)) 0 then (a + 1) / (b + 1) else 0
  | _, _ => 0
def vx_try (f l : LE) (g : LE → Bool) : List (Nat × Int) → Bool
  | [] => false
  | (v, c) :: r => (match vx_q (vx_co v l.2) c with
    | 0 => false
    | k + 1 => g (vx_sub l (vx_sc (Int.ofNat (k + 1)) f))) || vx_try f l g r
def vx_anyF (l : LE) (g : LE → Bool) : List LE → Bool
  | [] => false
  | f :: r => vx_try f l g f.2 || vx_anyF l g r
/-- whether it is 0 or more, by bounds and facts -/
def vx_ge (B : TR (Int × Int)) (F : List LE) : Nat → LE → Bool
  | 0, l => vx_lo0 B l
  | d + 1, l => vx_lo0 B l || vx_anyF l (vx_ge B F d) F
abbrev vx_g (s : VS) (l : LE) : Bool := vx_ge (vs_B s) (vs_F s) 3 l
section VXB
variable {ρ : Nat → Int}
def BOk (n : Nat) (ρ : Nat → Int) (B : TR (Int × Int)) : Prop := ∀ i b, i < n → tG B i = some b → b.1 ≤ ρ i ∧ ρ i ≤ b.2
def FOk (n : Nat) (ρ : Nat → Int) (F : List LE) : Prop := ∀ f ∈ F, vx_lt n f ∧ 0 ≤ vx_ev ρ f
theorem vx_mulle {c a b : Int} (hc : 0 ≤ c) (h : a ≤ b) : c * a ≤ c * b := Int.mul_le_mul_of_nonneg_left h hc
theorem vx_loT_ok {n : Nat} {B : TR (Int × Int)} (hB : BOk n ρ B) : ∀ {t : List (Nat × Int)} {x : Int}, (∀ q ∈ t, q.1 < n) → vx_loT B t = some x → x ≤ vx_evT ρ t
  | [], x, _, h => by cases h; exact Int.le_refl _
  | (v, c) :: r, x, ht, h => by
    unfold vx_loT at h
    split at h
    · cases h
    · rename_i b hb
      split at h
      · cases h
      · rename_i y hy
        cases h
        have i1 := vx_loT_ok hB (fun q hq => ht q (List.mem_cons_of_mem _ hq)) hy
        obtain ⟨b1, b2⟩ := hB v b (ht (v, c) List.mem_cons_self) hb
        show _ ≤ c * ρ v + vx_evT ρ r
        refine Int.add_le_add ?_ i1
        cases hc : vx_ip c
        · have : ¬ 0 ≤ c := fun z => by rw [vx_ip_ok.mpr z] at hc; cases hc
          have q := vx_mulle (c := -c) (by omega) b2
          rw [Int.neg_mul, Int.neg_mul] at q
          simp only [cond_false]; omega
        · exact vx_mulle (vx_ip_ok.mp hc) b1
theorem vx_lo_ok {n : Nat} {B : TR (Int × Int)} (hB : BOk n ρ B) {l : LE} {x : Int} (hl : vx_lt n l) (h : vx_lo B l = some x) : x ≤ vx_ev ρ l := by
  unfold vx_lo at h
  split at h
  · cases h
  · rename_i y hy
    cases h
    exact Int.add_le_add_left (vx_loT_ok hB hl hy) _
theorem vx_lo0_ok {n : Nat} {B : TR (Int × Int)} (hB : BOk n ρ B) {l : LE} (hl : vx_lt n l) (h : vx_lo0 B l = true) : 0 ≤ vx_ev ρ l := by
  unfold vx_lo0 at h
  split at h
  · cases h
  · rename_i x hx
    exact Int.le_trans (vx_ip_ok.mp h) (vx_lo_ok hB hl hx)
theorem vx_try_ok {n : Nat} {f l : LE} (hf : vx_lt n f ∧ 0 ≤ vx_ev ρ f) (hl : vx_lt n l) {g : LE → Bool} (hg : ∀ l', vx_lt n l' → g l' = true → 0 ≤ vx_ev ρ l') : ∀ {t : List (Nat × Int)}, vx_try f l g t = true → 0 ≤ vx_ev ρ l
  | [], h => by cases h
  | (v, c) :: r, h => by
    unfold vx_try at h
    rw [Bool.or_eq_true] at h
    rcases h with h | h
    · split at h
      · cases h
      · rename_i k _
        have q := hg _ (vx_sub_lt hl (vx_sc_lt hf.1)) h
        rw [vx_sub_ev, vx_sc_ev] at q
        have q2 : (0 : Int) ≤ Int.ofNat (k + 1) * vx_ev ρ f := Int.mul_nonneg (Int.natCast_nonneg _) hf.2
        omega
    · exact vx_try_ok hf hl hg h
theorem vx_anyF_ok {n : Nat} {l : LE} (hl : vx_lt n l) {g : LE → Bool} (hg : ∀ l', vx_lt n l' → g l' = true → 0 ≤ vx_ev ρ l') : ∀ {F : List LE}, FOk n ρ F → vx_anyF l g F = true → 0 ≤ vx_ev ρ l
  | [], _, h => by cases h
  | f :: r, hF, h => by
    unfold vx_anyF at h
    rw [Bool.or_eq_true] at h
    rcases h with h | h
    · exact vx_try_ok (hF f List.mem_cons_self) hl hg h
    · exact vx_anyF_ok hl hg (fun z hz => hF z (List.mem_cons_of_mem _ hz)) h
theorem vx_ge_ok {n : Nat} {B : TR (Int × Int)} {F : List LE} (hB : BOk n ρ B) (hF : FOk n ρ F) : ∀ (d : Nat) (l : LE), vx_lt n l → vx_ge B F d l = true → 0 ≤ vx_ev ρ l
  | 0, l, hl, h => vx_lo0_ok hB hl h
  | d + 1, l, hl, h => by
    unfold vx_ge at h
    rw [Bool.or_eq_true] at h
    rcases h with h | h
    · exact vx_lo0_ok hB hl h
    · exact vx_anyF_ok hl (vx_ge_ok hB hF d) hF h
end VXB
/-! a fact is added; none: it cannot be -/
def vx_max (a b : Int) : Int := bif vx_ile a b then b else a
def vx_min (a b : Int) : Int := bif vx_ile a b then a else b
/-- division downward by a positive number -/
def vx_fdiv (a : Int) (b : Nat) : Int := match a with
  | .ofNat n => Int.ofNat (n / b)
  | .negSucc n => Int.negSucc (n / b)
def vx_prop1 (f : LE) (v : Nat) (c : Int) (B : TR (Int × Int)) : Option (TR (Int × Int)) := match tG B v with
  | none => some B
  | some b => match vx_lo B (vx_neg (vx_sub f (Int.ofNat 0, [(v, c)]))) with
    | none => some B
    | some m => (match c with
      | .ofNat 0 => some B
      | .ofNat (k + 1) => let lo := vx_max b.1 (-(vx_fdiv (-m) (k + 1))); bif vx_ile lo b.2 then (bif vx_ieq lo b.1 then some B else some (tS 12 B v (lo, b.2))) else none
      | .negSucc k => let hi := vx_min b.2 (vx_fdiv (-m) (k + 1)); bif vx_ile b.1 hi then (bif vx_ieq hi b.2 then some B else some (tS 12 B v (b.1, hi))) else none)
def vx_prop (f : LE) : List (Nat × Int) → TR (Int × Int) → Option (TR (Int × Int))
  | [], B => some B
  | (v, c) :: r, B => match vx_prop1 f v c B with
    | none => none
    | some B' => vx_prop f r B'
def vx_multi : List (Nat × Int) → Bool
  | _ :: _ :: _ => true
  | _ => false
def vx_fact (s : VS) (f : LE) : Option VS := bif vx_g s (vx_k (vx_neg f) (Int.negSucc 0)) then none else bif vx_lo0 (vs_B s) f then some s else match vx_prop f f.2 (vs_B s) with
  | none => none
  | some B => some (s.1, s.2.1, B, (bif vx_multi f.2 then f :: vs_F s else vs_F s), vs_K s, vs_M s)
section VXF
variable {ρ : Nat → Int}
theorem vx_max_ok {a b x : Int} (h1 : a ≤ x) (h2 : b ≤ x) : vx_max a b ≤ x := by
  unfold vx_max
  cases vx_ile a b
  · exact h1
  · exact h2
theorem vx_min_ok {a b x : Int} (h1 : x ≤ a) (h2 : x ≤ b) : x ≤ vx_min a b := by
  unfold vx_min
  cases vx_ile a b
  · exact h2
  · exact h1
theorem vx_fdiv_ok {a x : Int} {b : Nat} (hb : 0 < b) (h : (b : Int) * x ≤ a) : x ≤ vx_fdiv a b := by
  have e : vx_fdiv a b = a / (b : Int) := by
    cases a with
    | ofNat n => rfl
    | negSucc n =>
      cases b with
      | zero => omega
      | succ k => rfl
  rw [e]
  exact Int.le_ediv_of_mul_le (by omega) (by rw [Int.mul_comm]; exact h)
theorem vx_prop1_ok {n : Nat} {f : LE} (hn : n + 1 < 4096) (hf : vx_lt n f) (h0 : 0 ≤ vx_ev ρ f) {v : Nat} {c : Int} (hv : v < n) {B : TR (Int × Int)} (hB : BOk n ρ B) : ∃ B', vx_prop1 f v c B = some B' ∧ BOk n ρ B' := by
  have hset : ∀ b : Int × Int, b.1 ≤ ρ v ∧ ρ v ≤ b.2 → BOk n ρ (tS 12 B v b) := fun b hb i q hi hq => by
    rw [tG_set 12 B v b i (by simpa using (by omega : v + 1 < 4096))] at hq
    split at hq
    · rename_i e; cases hq; rw [e]; exact hb
    · exact hB i q hi hq
  unfold vx_prop1
  split
  · exact ⟨B, rfl, hB⟩
  · rename_i b hb
    obtain ⟨b1, b2⟩ := hB v b hv hb
    split
    · exact ⟨B, rfl, hB⟩
    · rename_i m hm
      have hl : vx_lt n (vx_neg (vx_sub f (Int.ofNat 0, [(v, c)]))) := vx_neg_lt (vx_sub_lt hf (fun t ht => by rw [List.mem_singleton.mp ht]; exact hv))
      have q := vx_lo_ok hB hl hm
      rw [vx_neg_ev, vx_sub_ev] at q
      have e1 : vx_ev ρ (Int.ofNat 0, [(v, c)]) = c * ρ v := by
        show (0 : Int) + (c * ρ v + 0) = _
        omega
      rw [e1] at q
      have q' : m ≤ c * ρ v := by omega
      clear q e1 hl hm
      split
      · exact ⟨B, rfl, hB⟩
      · rename_i k
        have q2 : ((k.succ : Nat) : Int) * (-(ρ v)) ≤ -m := by
          rw [Int.mul_neg]
          exact Int.neg_le_neg q'
        have q3 := vx_fdiv_ok (b := k.succ) (Nat.succ_pos k) q2
        have q4 : vx_max b.1 (-(vx_fdiv (-m) k.succ)) ≤ ρ v := vx_max_ok b1 (by omega)
        simp only []
        cases hc : vx_ile (vx_max b.1 (-(vx_fdiv (-m) k.succ))) b.2
        · have := vx_ile_no hc; exact absurd (Int.lt_of_lt_of_le this q4) (Int.not_lt.mpr b2)
        · simp only [cond_true]
          cases vx_ieq (vx_max b.1 (-(vx_fdiv (-m) k.succ))) b.1
          · exact ⟨_, rfl, hset _ ⟨q4, b2⟩⟩
          · exact ⟨B, rfl, hB⟩
      · rename_i k
        have q2 : ((k.succ : Nat) : Int) * ρ v ≤ -m := by
          have e : Int.negSucc k * ρ v = -(((k.succ : Nat) : Int) * ρ v) := by rw [← Int.neg_mul]; rfl
          rw [e] at q'
          have := Int.neg_le_neg q'
          rwa [Int.neg_neg] at this
        have q3 := vx_fdiv_ok (b := k.succ) (Nat.succ_pos k) q2
        have q4 : ρ v ≤ vx_min b.2 (vx_fdiv (-m) k.succ) := vx_min_ok b2 q3
        simp only []
        cases hc : vx_ile b.1 (vx_min b.2 (vx_fdiv (-m) k.succ))
        · have := vx_ile_no hc; exact absurd (Int.lt_of_le_of_lt q4 this) (Int.not_lt.mpr b1)
        · simp only [cond_true]
          cases vx_ieq (vx_min b.2 (vx_fdiv (-m) k.succ)) b.2
          · exact ⟨_, rfl, hset _ ⟨b1, q4⟩⟩
          · exact ⟨B, rfl, hB⟩
theorem vx_prop_ok {n : Nat} {f : LE} (hn : n + 1 < 4096) (hf : vx_lt n f) (h0 : 0 ≤ vx_ev ρ f) : ∀ {t : List (Nat × Int)} {B : TR (Int × Int)}, (∀ q ∈ t, q.1 < n) → BOk n ρ B → ∃ B', vx_prop f t B = some B' ∧ BOk n ρ B'
  | [], B, _, hB => ⟨B, rfl, hB⟩
  | (v, c) :: r, B, ht, hB => by
    obtain ⟨B1, e1, h1⟩ := vx_prop1_ok (ρ := ρ) hn hf h0 (c := c) (ht (v, c) List.mem_cons_self) hB
    unfold vx_prop
    rw [e1]
    exact vx_prop_ok hn hf h0 (fun q hq => ht q (List.mem_cons_of_mem _ hq)) h1
end VXF
