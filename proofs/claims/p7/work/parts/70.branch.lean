/-! branches, switches -/
def vx_opt (o : Option VS) (pc : Nat) (lv : LV) (r : List AV) : List SU := match o with
  | some s => [(s, pc, lv, r)]
  | none => []
def vx_two (s : VS) (ok : Bool) (cn : Jvm.ClassFile.Cond) (d : LE) (pt pf : Nat) (lv : LV) (r : List AV) : List SU := bif ok then (match vx_dec s cn d with
    | some true => [(s, pt, lv, r)]
    | some false => [(s, pf, lv, r)]
    | none => vx_opt (vx_asm s cn d) pt lv r ++ vx_opt (vx_asm s (negC cn) d) pf lv r) else [(s, pt, lv, r), (s, pf, lv, r)]
def vx_sw (s : VS) (l : LE) (pc : Nat) (lv : LV) (r : List AV) : Int → List Int → Option (List SU)
  | _, [] => some []
  | lo, off :: t => if 0 ≤ (pc : Int) + off then (match vx_sw s l pc lv r (lo + 1) t with
    | none => none
    | some L => some (vx_opt (vx_asm s .eq (vx_k l (-lo))) (ft_tgt pc off) lv r ++ L)) else none
section VXBR2
variable {D : ft_G} {κ : Nat → Nat × Nat} {n : Nat} {md : MD} {h0 : ft_H} {y uc us : Nat} {Q : Option Value → ft_H → Prop} {h : ft_H} {ρ : Nat → Int} {τ : Nat → Nat} {s : VS} {lv : LV} {st : List AV}
theorem vx_opt_ok (G : VG D κ n md h0 y h ρ τ s lv st) {cn : Jvm.ClassFile.Cond} {d : LE} (hd : vx_lt (vs_n s) d) (hr : vx_rel cn (vx_ev ρ d)) {r : List AV} (hrs : ∀ z ∈ r, z ∈ st) {pc' : Nat} {L : List SU} (hL : ∀ u ∈ vx_opt (vx_asm s cn d) pc' lv r, u ∈ L) (K : ∀ u ∈ L, VK D κ n md h0 y uc us Q s ρ τ u) : sm D y pc' (vx_dL D ρ τ lv) (vx_dS D ρ τ r) h uc us Q := by
  obtain ⟨s', e1, V', n1, r1⟩ := vx_asm_ok G.1 hd hr
  rw [e1] at hL
  exact vx_stay G ⟨vx_agr.refl, vx_agr.refl, V', by rw [n1]; exact Nat.le_refl _, by rw [r1]; exact Nat.le_refl _⟩ hrs (K _ (hL _ (List.mem_singleton.mpr rfl)))
theorem vx_two_ok (G : VG D κ n md h0 y h ρ τ s lv st) {ok : Bool} {cn : Jvm.ClassFile.Cond} {d : LE} (hd : vx_lt (vs_n s) d) {P : Prop} (hP : ok = true → (P ↔ vx_rel cn (vx_ev ρ d))) {pt pf : Nat} {r : List AV} (hrs : ∀ z ∈ r, z ∈ st) (K : ∀ u ∈ vx_two s ok cn d pt pf lv r, VK D κ n md h0 y uc us Q s ρ τ u) :
    (P → sm D y pt (vx_dL D ρ τ lv) (vx_dS D ρ τ r) h uc us Q) ∧ (¬ P → sm D y pf (vx_dL D ρ τ lv) (vx_dS D ρ τ r) h uc us Q) := by
  unfold vx_two at K
  cases ok
  · exact ⟨fun _ => vx_stay G G.1.on hrs (K _ List.mem_cons_self), fun _ => vx_stay G G.1.on hrs (K _ (List.mem_cons_of_mem _ List.mem_cons_self))⟩
  · have hP' := hP rfl
    simp only [cond_true] at K
    split at K
    · rename_i hdec
      have q := (vx_dec_ok G.1 hd hdec).1 rfl
      exact ⟨fun _ => vx_stay G G.1.on hrs (K _ List.mem_cons_self), fun z => absurd (hP'.mpr q) z⟩
    · rename_i hdec
      have q := (vx_dec_ok G.1 hd hdec).2 rfl
      exact ⟨fun z => absurd (hP'.mp z) q, fun _ => vx_stay G G.1.on hrs (K _ List.mem_cons_self)⟩
    · exact ⟨fun z => vx_opt_ok G hd (hP'.mp z) hrs (fun u hu => List.mem_append.mpr (Or.inl hu)) K, fun z => vx_opt_ok G hd (vx_neg_rel (fun w => z (hP'.mpr w))) hrs (fun u hu => List.mem_append.mpr (Or.inr hu)) K⟩
theorem vx_sw_ok (G : VG D κ n md h0 y h ρ τ s lv st) {l : LE} (hl : vx_lt (vs_n s) l) {pc : Nat} {r : List AV} (hrs : ∀ z ∈ r, z ∈ st) : ∀ {t : List Int} {lo : Int} {L : List SU}, vx_sw s l pc lv r lo t = some L → (∀ u ∈ L, VK D κ n md h0 y uc us Q s ρ τ u) → lo ≤ vx_ev ρ l → vx_ev ρ l < lo + (t.length : Int) → ∃ off, t[(vx_ev ρ l - lo).toNat]? = some off ∧ 0 ≤ (pc : Int) + off ∧ sm D y (ft_tgt pc off) (vx_dL D ρ τ lv) (vx_dS D ρ τ r) h uc us Q
  | [], lo, L, e, K, h1, h2 => by
    have : (([] : List Int).length : Int) = 0 := rfl
    omega
  | off :: t, lo, L, e, K, h1, h2 => by
    unfold vx_sw at e
    split at e
    · rename_i hoff
      split at e
      · cases e
      · rename_i L' hL'
        cases e
        by_cases q : vx_ev ρ l = lo
        · refine ⟨off, ?_, hoff, ?_⟩
          · rw [q, Int.sub_self]; rfl
          · exact vx_opt_ok G (cn := .eq) (vx_k_lt hl) (by show vx_ev ρ (vx_k l (-lo)) = 0; rw [vx_k_ev]; omega) hrs (fun u hu => List.mem_append.mpr (Or.inl hu)) K
        · have hlen : ((off :: t).length : Int) = (t.length : Int) + 1 := by simp
          obtain ⟨o, o1, o2, o3⟩ := vx_sw_ok G hl hrs hL' (fun u hu => K u (List.mem_append.mpr (Or.inr hu))) (by omega) (by omega)
          refine ⟨o, ?_, o2, o3⟩
          have e2 : (vx_ev ρ l - lo).toNat = (vx_ev ρ l - (lo + 1)).toNat + 1 := by omega
          rw [e2, List.getElem?_cons_succ]
          exact o1
    · cases e
end VXBR2
/-- a value as it can be kept: a number out of range gets a name -/
def vx_norm (s : VS) (v : AV) : Option (VS × AV) := bif Nat.beq v.1 0 then (bif vx_in s v.2.1 fI.1 fI.2 then some (s, v) else (vx_new s fI.1 fI.2).map (fun q => (q.1, av_i q.2))) else bif Nat.beq v.1 1 then (bif vx_in s v.2.1 fJ.1 fJ.2 then some (s, v) else (vx_new s fJ.1 fJ.2).map (fun q => (q.1, av_l q.2))) else some (s, v)
section VXN
variable {D : ft_G} {κ : Nat → Nat × Nat} {h : ft_H} {ρ : Nat → Int} {τ : Nat → Nat} {s : VS}
theorem vx_norm_ok (V : VOk D κ h ρ τ s) {v : AV} (hv : vx_alt (vs_n s) (vs_r s) v) {s' : VS} {w : AV} (e : vx_norm s v = some (s', w)) : ∃ ρ', vx_on D κ h ρ τ s s' ρ' τ ∧ vx_alt (vs_n s') (vs_r s') w ∧ vx_d D ρ' τ w = vx_d D ρ τ v ∧ vs_M s' = vs_M s ∧ vs_K s' = vs_K s := by
  unfold vx_norm at e
  cases h0 : Nat.beq v.1 0
  · rw [h0] at e
    simp only [cond_false] at e
    cases h1 : Nat.beq v.1 1
    · rw [h1] at e
      cases e
      exact ⟨ρ, V.on, hv, rfl, rfl, rfl⟩
    · rw [h1] at e
      simp only [cond_true] at e
      cases hb : vx_in s v.2.1 fJ.1 fJ.2
      · rw [hb] at e
        simp only [cond_false] at e
        cases hn : vx_new s fJ.1 fJ.2 with
        | none => rw [hn] at e; cases e
        | some q =>
          rw [hn] at e
          cases e
          have hx := vx_fJ (Int64.ofInt (vx_ev ρ v.2.1))
          obtain ⟨o1, o2, o3, o4, o5⟩ := V.new hx.1 hx.2 (s' := q.1) (l := q.2) hn
          refine ⟨_, o1, ⟨o2, fun z => by cases z⟩, ?_, o4, o5⟩
          rw [vx_d1 (Nat.eq_of_beq_eq_true h1)]
          show Value.long (Int64.ofInt (vx_ev _ q.2)) = _
          rw [o3, Int64.ofInt_toInt]
      · rw [hb] at e
        cases e
        exact ⟨ρ, V.on, hv, rfl, rfl, rfl⟩
  · rw [h0] at e
    simp only [cond_true] at e
    cases hb : vx_in s v.2.1 fI.1 fI.2
    · rw [hb] at e
      simp only [cond_false] at e
      cases hn : vx_new s fI.1 fI.2 with
      | none => rw [hn] at e; cases e
      | some q =>
        rw [hn] at e
        cases e
        have hx := vx_fI (Int32.ofInt (vx_ev ρ v.2.1))
        obtain ⟨o1, o2, o3, o4, o5⟩ := V.new hx.1 hx.2 (s' := q.1) (l := q.2) hn
        refine ⟨_, o1, ⟨o2, fun z => by cases z⟩, ?_, o4, o5⟩
        rw [vx_d0 (Nat.eq_of_beq_eq_true h0)]
        show Value.int (Int32.ofInt (vx_ev _ q.2)) = _
        rw [o3, Int32.ofInt_toInt]
    · rw [hb] at e
      cases e
      exact ⟨ρ, V.on, hv, rfl, rfl, rfl⟩
def vx_fitV (s : VS) (ty : FieldType) (v : AV) : Bool := match ty with
  | .int => vx_is0 v
  | .long => vx_is1 v
  | .boolean => vx_is0 v && vx_in s v.2.1 (Int.ofNat 0) (Int.ofNat 1)
  | .byte => vx_is0 v && vx_in s v.2.1 (Int.negSucc 127) (Int.ofNat 127)
  | .object _ => vx_isR v
  | .array _ => vx_isR v
  | _ => false
theorem vx_nby : ∀ k : Nat, k < 256 → narrow .byte (.int (Int32.ofInt ((k : Int) - 128))) = .int (Int32.ofInt ((k : Int) - 128)) ∧ fits .byte (.int (Int32.ofInt ((k : Int) - 128))) = true := by decide +kernel
theorem vx_nbo : ∀ k : Nat, k < 2 → narrow .boolean (.int (Int32.ofInt (k : Int))) = .int (Int32.ofInt (k : Int)) ∧ fits .boolean (.int (Int32.ofInt (k : Int))) = true := by decide +kernel
theorem vx_fitV_ok (V : VOk D κ h ρ τ s) {ty : FieldType} {v : AV} (hv : vx_alt (vs_n s) (vs_r s) v) (e : vx_fitV s ty v = true) : narrow ty (vx_d D ρ τ v) = vx_d D ρ τ v ∧ fits ty (vx_d D ρ τ v) = true := by
  unfold vx_fitV at e
  split at e
  · rw [vx_d0 (Nat.eq_of_beq_eq_true e)]; exact ⟨rfl, rfl⟩
  · rw [vx_d1 (Nat.eq_of_beq_eq_true e)]; exact ⟨rfl, rfl⟩
  · rw [Bool.and_eq_true] at e
    obtain ⟨b1, b2⟩ := V.inn hv.1 e.2
    have b1' : 0 ≤ vx_ev ρ v.2.1 := b1
    have b2' : vx_ev ρ v.2.1 ≤ 1 := b2
    rw [vx_d0 (Nat.eq_of_beq_eq_true e.1)]
    have := vx_nbo (vx_ev ρ v.2.1).toNat (by omega)
    rw [show (((vx_ev ρ v.2.1).toNat : Nat) : Int) = vx_ev ρ v.2.1 from by omega] at this
    exact this
  · rw [Bool.and_eq_true] at e
    obtain ⟨b1, b2⟩ := V.inn hv.1 e.2
    have b1' : -128 ≤ vx_ev ρ v.2.1 := b1
    have b2' : vx_ev ρ v.2.1 ≤ 127 := b2
    rw [vx_d0 (Nat.eq_of_beq_eq_true e.1)]
    have := vx_nby (vx_ev ρ v.2.1 + 128).toNat (by omega)
    rw [show (((vx_ev ρ v.2.1 + 128).toNat : Nat) : Int) - 128 = vx_ev ρ v.2.1 from by omega] at this
    exact this
  · rcases vx_dR (D := D) (ρ := ρ) (τ := τ) e with ⟨q, e1⟩ | e1 <;> rw [e1] <;> exact ⟨rfl, rfl⟩
  · rcases vx_dR (D := D) (ρ := ρ) (τ := τ) e with ⟨q, e1⟩ | e1 <;> rw [e1] <;> exact ⟨rfl, rfl⟩
  · cases e
end VXN
