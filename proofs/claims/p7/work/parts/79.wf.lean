/-! whole options: how they go on -/
theorem vx_w0 {g : Nat → Value} {k : Nat} (h : vx_stop g ≤ (k : Int)) : vx_whole g k := ⟨0, h⟩
theorem vx_w1 {g : Nat → Value} {k : Nat} (h1 : (k : Int) < vx_stop g) (h2 : vx_b g k < 2) : vx_whole g k ↔ vx_whole g (k + 1) := by
  constructor
  · rintro ⟨f, hf⟩
    cases f with
    | zero => have : vx_stop g ≤ (k : Int) := hf; omega
    | succ f =>
      rcases hf with q | q | q
      · omega
      · exact ⟨f, q.2.2⟩
      · omega
  · rintro ⟨f, hf⟩
    exact ⟨f + 1, Or.inr (Or.inl ⟨h1, h2, hf⟩)⟩
theorem vx_w2 {g : Nat → Value} {k : Nat} (h1 : (k : Int) < vx_stop g) (h2 : 2 ≤ vx_b g k) : vx_whole g k ↔ (2 ≤ vx_b g (k + 1) ∧ (k : Int) + vx_b g (k + 1) ≤ vx_stop g ∧ vx_whole g (k + (vx_b g (k + 1)).toNat)) := by
  constructor
  · rintro ⟨f, hf⟩
    cases f with
    | zero => have : vx_stop g ≤ (k : Int) := hf; omega
    | succ f =>
      rcases hf with q | q | q
      · omega
      · omega
      · exact ⟨q.2.2.1, q.2.2.2.1, f, q.2.2.2.2⟩
  · rintro ⟨a, b, f, hf⟩
    exact ⟨f + 1, Or.inr (Or.inr ⟨h1, h2, a, b, hf⟩)⟩
/-- a byte that is known -/
def vx_byte (s : VS) (r : Nat) (i : LE) : Option LE := match vx_find r i (vs_M s) with
  | some v => bif vx_is0 v && (vx_in s v.2.1 (Int.ofNat 0) (Int.ofNat 255) && (Nat.blt 0 r && vx_in s i (Int.ofNat 0) (Int.ofNat 9999))) then some v.2.1 else none
  | none => none
def vx_virt (s : VS) (r : Nat) (k : LE) : Option LE := match vx_find r (vx_k k (Int.ofNat 1000000)) (vs_M s) with
  | some v => bif vx_is0 v && (vx_in s v.2.1 (Int.ofNat 0) (Int.ofNat 1) && Nat.blt 0 r) then some v.2.1 else none
  | none => none
def vx_hd (k : Nat) : Nat := bif Nat.beq k 0 || Nat.beq k 2 then 10 else bif Nat.beq k 7 then 17 else 16
def vx_same2 (s : VS) (a b : LE) : Bool := vx_eq a b || (vx_g s (vx_sub a b) && vx_g s (vx_sub b a))
def vx_came (s : VS) (lv : LV) : Option Nat := match ft_lk 0 lv with
  | none => none
  | some a => match vx_find a.2.2 (vx_c (Int.ofNat pl_M_came)) (vs_M s) with
    | some v => bif vx_is2 v then some v.2.2 else none
    | none => none
def vx_wfh (s : VS) (lv : LV) (sk ss : Nat) : Option VS := match vx_came s lv, ft_lk sk lv, ft_lk ss lv with
  | some r, some ka, some sa => match vx_byte s r (vx_c (Int.ofNat 0)), vx_byte s r (vx_c (Int.ofNat 1)), vx_virt s r ka.2.1 with
    | some (.ofNat c, []), some l1, some w => bif vx_same2 s sa.2.1 (vx_k l1 (Int.ofNat (vx_hd c))) && (vx_in s ka.2.1 (Int.ofNat 0) (Int.ofNat 1000) && Nat.blt r (vs_r s)) then
        (bif vx_g s (vx_sub ka.2.1 sa.2.1) then vx_fact s (vx_k w (Int.negSucc 0)) else
        bif vx_g s (vx_k (vx_sub sa.2.1 ka.2.1) (Int.negSucc 0)) then (match vx_byte s r ka.2.1 with
          | none => none
          | some b => bif vx_g s (vx_k (vx_neg b) (Int.ofNat 1)) then some (vx_mem s (r, vx_k ka.2.1 (Int.ofNat 1000001), av_i w)) else
            bif vx_g s (vx_k b (Int.negSucc 1)) then (match vx_byte s r (vx_k ka.2.1 (Int.ofNat 1)) with
              | none => none
              | some z => bif vx_g s (vx_k w (Int.negSucc 0)) then (match vx_fact s (vx_k z (Int.negSucc 1)) with
                  | none => none
                  | some s1 => match vx_fact s1 (vx_sub (vx_sub sa.2.1 ka.2.1) z) with
                    | none => none
                    | some s2 => some (vx_mem s2 (r, vx_k (vx_add ka.2.1 z) (Int.ofNat 1000000), av_i w)))
                else bif vx_g s (vx_k z (Int.negSucc 1)) && vx_g s (vx_sub (vx_sub sa.2.1 ka.2.1) z) then some (vx_mem s (r, vx_k (vx_add ka.2.1 z) (Int.ofNat 1000000), av_i w)) else none) else none) else none) else none
    | _, _, _ => none
  | _, _, _ => none
section VXW2
variable {D : ft_G} {κ : Nat → Nat × Nat} {h : ft_H} {ρ : Nat → Int} {τ : Nat → Nat} {s : VS}
theorem vx_byte_ok (V : VOk D κ h ρ τ s) {r : Nat} {i l : LE} (e : vx_byte s r i = some l) : 0 ≤ vx_ev ρ i ∧ vx_ev ρ i ≤ 9999 ∧ vx_b (h.1 (τ r)) (vx_ev ρ i).toNat = vx_ev ρ l ∧ vx_lt (vs_n s) l ∧ 0 ≤ vx_ev ρ l ∧ vx_ev ρ l ≤ 255 := by
  unfold vx_byte at e
  split at e
  · rename_i v hv
    cases hb : (vx_is0 v && (vx_in s v.2.1 (Int.ofNat 0) (Int.ofNat 255) && (Nat.blt 0 r && vx_in s i (Int.ofNat 0) (Int.ofNat 9999))))
    · rw [hb] at e; cases e
    · rw [hb] at e
      cases e
      rw [Bool.and_eq_true, Bool.and_eq_true, Bool.and_eq_true] at hb
      obtain ⟨m1, m2, m3, m4⟩ := V.2.2.2.1 _ (vx_find_ok hv)
      have r0 := blt_lt hb.2.2.1
      have q0 : ¬ r = 0 := by omega
      obtain ⟨i1, i2⟩ := V.inn (lo := Int.ofNat 0) (hi := Int.ofNat 9999) m1 hb.2.2.2
      obtain ⟨b1, b2⟩ := V.inn m2.1 hb.2.1
      have m5 := m4.2
      simp only [if_neg q0] at m5
      have i1' : 0 ≤ vx_ev ρ i := i1
      have i2' : vx_ev ρ i ≤ 9999 := i2
      have b1' : 0 ≤ vx_ev ρ v.2.1 := b1
      have b2' : vx_ev ρ v.2.1 ≤ 255 := b2
      rw [vx_look_lo (by omega), vx_d0 (Nat.eq_of_beq_eq_true hb.1)] at m5
      refine ⟨i1', i2', ?_, m2.1, b1', b2'⟩
      unfold vx_b
      rw [m5]
      exact vx_oI (by omega) (by omega)
  · cases e
theorem vx_virt_ok (V : VOk D κ h ρ τ s) {r : Nat} {k w : LE} (hk0 : 0 ≤ vx_ev ρ k) (e : vx_virt s r k = some w) : vx_lt (vs_n s) w ∧ 0 ≤ vx_ev ρ w ∧ vx_ev ρ w ≤ 1 ∧ (vx_ev ρ w = 1 ↔ vx_whole (h.1 (τ r)) (vx_ev ρ k).toNat) ∧ ¬ r = 0 := by
  unfold vx_virt at e
  split at e
  · rename_i v hv
    cases hb : (vx_is0 v && (vx_in s v.2.1 (Int.ofNat 0) (Int.ofNat 1) && Nat.blt 0 r))
    · rw [hb] at e; cases e
    · rw [hb] at e
      cases e
      rw [Bool.and_eq_true, Bool.and_eq_true] at hb
      obtain ⟨m1, m2, m3, m4⟩ := V.2.2.2.1 _ (vx_find_ok hv)
      have r0 := blt_lt hb.2.2
      have q0 : ¬ r = 0 := by omega
      obtain ⟨b1, b2⟩ := V.inn m2.1 hb.2.1
      have b1' : 0 ≤ vx_ev ρ v.2.1 := b1
      have b2' : vx_ev ρ v.2.1 ≤ 1 := b2
      have m5 := m4.2
      simp only [if_neg q0] at m5
      rw [vx_k_ev] at m5
      have ek : (Int.ofNat 1000000 : Int) = 1000000 := rfl
      unfold vx_look at m5
      rw [if_neg (by omega), vx_d0 (Nat.eq_of_beq_eq_true hb.1), show vx_ev ρ k + Int.ofNat 1000000 - 1000000 = vx_ev ρ k from by omega] at m5
      refine ⟨m2.1, b1', b2', ?_, q0⟩
      have m6 : Int32.ofInt (@ite Int (vx_whole (h.1 (τ r)) (vx_ev ρ k).toNat) (Classical.propDecidable _) 1 0) = Int32.ofInt (vx_ev ρ v.2.1) := by injection m5
      have m7 := congrArg Int32.toInt m6
      rw [vx_oI (x := vx_ev ρ v.2.1) (by omega) (by omega)] at m7
      by_cases hw : vx_whole (h.1 (τ r)) (vx_ev ρ k).toNat
      · rw [if_pos hw] at m7
        have : (Int32.ofInt 1).toInt = 1 := rfl
        rw [this] at m7
        exact ⟨fun _ => hw, fun _ => m7.symm⟩
      · rw [if_neg hw] at m7
        have : (Int32.ofInt 0).toInt = 0 := rfl
        rw [this] at m7
        exact ⟨fun z => by omega, fun z => absurd z hw⟩
  · cases e
/-- the same again, further on -/
theorem vx_wmem (V : VOk D κ h ρ τ s) {r : Nat} {i w : LE} {j : Nat} (hr : r < vs_r s) (r0 : ¬ r = 0) (hi : vx_lt (vs_n s) i) (hw : vx_lt (vs_n s) w) (ei : vx_ev ρ i = (j : Int) + 1000000) (w1 : 0 ≤ vx_ev ρ w ∧ vx_ev ρ w ≤ 1) (hww : vx_ev ρ w = 1 ↔ vx_whole (h.1 (τ r)) j) : VOk D κ h ρ τ (vx_mem s (r, i, av_i w)) := by
  refine V.mem hi ⟨hw, fun z => by cases z⟩ hr ⟨?_, ?_⟩
  · show 0 ≤ vx_ev ρ i
    rw [ei]; omega
  · show (if r = 0 then _ else vx_look h (τ r) (vx_ev ρ i) = vx_d D ρ τ (av_i w))
    rw [if_neg r0]
    unfold vx_look
    rw [if_neg (by rw [ei]; omega), ei, show (j : Int) + 1000000 - 1000000 = (j : Int) from by omega]
    simp only [Int.toNat_natCast]
    show _ = Value.int (Int32.ofInt (vx_ev ρ w))
    by_cases q : vx_whole (h.1 (τ r)) j
    · rw [if_pos q, hww.mpr q]
    · rw [if_neg q]
      have : vx_ev ρ w = 0 := by
        have : ¬ vx_ev ρ w = 1 := fun z => q (hww.mp z)
        omega
      rw [this]
theorem vx_hd_ok (c : Nat) (g : Nat → Value) (hc : vx_b g 0 = (c : Int)) : vx_stop g = (vx_hd c : Int) + vx_b g 1 := by
  unfold vx_stop vx_hd
  rw [hc]
  cases h0 : Nat.beq c 0
  · have n0 := Nat.ne_of_beq_eq_false h0
    cases h2 : Nat.beq c 2
    · have n2 := Nat.ne_of_beq_eq_false h2
      rw [if_neg (by omega)]
      cases h7 : Nat.beq c 7
      · have n7 := Nat.ne_of_beq_eq_false h7
        rw [if_neg (by omega)]; rfl
      · rw [if_pos (by have := Nat.eq_of_beq_eq_true h7; omega)]; rfl
    · rw [if_pos (by have := Nat.eq_of_beq_eq_true h2; omega)]; rfl
  · rw [if_pos (by have := Nat.eq_of_beq_eq_true h0; omega)]; rfl
set_option maxHeartbeats 1000000 in
theorem vx_wfh_ok (V : VOk D κ h ρ τ s) {lv : LV} (hlv : vx_altL (vs_n s) (vs_r s) lv) {sk ss : Nat} {s' : VS} (e : vx_wfh s lv sk ss = some s') : VOk D κ h ρ τ s' ∧ vs_n s' = vs_n s ∧ vs_r s' = vs_r s := by
  unfold vx_wfh at e
  split at e
  · rename_i r ka sa hr hka hsa
    have aka : vx_alt (vs_n s) (vs_r s) ka := hlv _ (ft_lk_mem hka)
    have asa : vx_alt (vs_n s) (vs_r s) sa := hlv _ (ft_lk_mem hsa)
    split at e
    · rename_i c l1 w h0 h1 hw
      cases hb : (vx_same2 s sa.2.1 (vx_k l1 (Int.ofNat (vx_hd c))) && (vx_in s ka.2.1 (Int.ofNat 0) (Int.ofNat 1000) && Nat.blt r (vs_r s)))
      · rw [hb] at e; cases e
      · rw [hb] at e
        simp only [cond_true] at e
        rw [Bool.and_eq_true, Bool.and_eq_true] at hb
        obtain ⟨b1, b2, b3⟩ := hb
        have rr := blt_lt b3
        obtain ⟨k1, k2⟩ := V.inn aka.1 b2
        have k1' : 0 ≤ vx_ev ρ ka.2.1 := k1
        have k2' : vx_ev ρ ka.2.1 ≤ 1000 := k2
        obtain ⟨-, -, y3, -, -, -⟩ := vx_byte_ok V h0
        obtain ⟨-, -, z3, z4, -, -⟩ := vx_byte_ok V h1
        rw [vx_c_ev] at y3 z3
        have y3' : vx_b (h.1 (τ r)) 0 = (c : Int) := by
          rw [show vx_ev ρ (Int.ofNat c, []) = (c : Int) from vx_c_ev _] at y3
          exact y3
        have z3' : vx_b (h.1 (τ r)) 1 = vx_ev ρ l1 := z3
        have hstop : vx_stop (h.1 (τ r)) = vx_ev ρ sa.2.1 := by
          rw [vx_hd_ok c _ y3', z3']
          have q : vx_ev ρ sa.2.1 = vx_ev ρ (vx_k l1 (Int.ofNat (vx_hd c))) := by
            unfold vx_same2 at b1
            rw [Bool.or_eq_true] at b1
            rcases b1 with q | q
            · rw [vx_eq_ok q]
            · rw [Bool.and_eq_true] at q
              have q1 := V.ge (vx_sub_lt asa.1 (vx_k_lt z4)) q.1
              have q2 := V.ge (vx_sub_lt (vx_k_lt z4) asa.1) q.2
              rw [vx_sub_ev] at q1 q2
              omega
          rw [q, vx_k_ev]
          have : (Int.ofNat (vx_hd c) : Int) = (vx_hd c : Int) := rfl
          omega
        obtain ⟨w1, w2, w3, w4, w5⟩ := vx_virt_ok V k1' hw
        obtain ⟨kk, hkk⟩ : ∃ kk : Nat, vx_ev ρ ka.2.1 = (kk : Int) := ⟨(vx_ev ρ ka.2.1).toNat, by omega⟩
        rw [hkk] at w4
        simp only [Int.toNat_natCast] at w4
        cases c1 : vx_g s (vx_sub ka.2.1 sa.2.1)
        · rw [c1] at e
          simp only [cond_false] at e
          cases c2 : vx_g s (vx_k (vx_sub sa.2.1 ka.2.1) (Int.negSucc 0))
          · rw [c2] at e; cases e
          · rw [c2] at e
            simp only [cond_true] at e
            have lt := V.ge (vx_k_lt (vx_sub_lt asa.1 aka.1)) c2
            rw [vx_k_ev, vx_sub_ev, vx_m1] at lt
            have hlt : (kk : Int) < vx_stop (h.1 (τ r)) := by rw [hstop]; omega
            split at e
            · cases e
            · rename_i b hbb
              obtain ⟨-, -, q3, q4, q5, q6⟩ := vx_byte_ok V hbb
              rw [hkk] at q3
              simp only [Int.toNat_natCast] at q3
              cases c3 : vx_g s (vx_k (vx_neg b) (Int.ofNat 1))
              · rw [c3] at e
                simp only [cond_false] at e
                cases c4 : vx_g s (vx_k b (Int.negSucc 1))
                · rw [c4] at e; cases e
                · rw [c4] at e
                  simp only [cond_true] at e
                  have b2 := V.ge (vx_k_lt q4) c4
                  rw [vx_k_ev] at b2
                  have m2 : (Int.negSucc 1 : Int) = -2 := rfl
                  have hb2 : 2 ≤ vx_b (h.1 (τ r)) kk := by rw [q3]; omega
                  split at e
                  · cases e
                  · rename_i z hz
                    obtain ⟨-, -, u3, u4, u5, u6⟩ := vx_byte_ok V hz
                    rw [vx_k_ev, hkk] at u3
                    have e1 : ((kk : Int) + Int.ofNat 1).toNat = kk + 1 := by
                      have : (Int.ofNat 1 : Int) = 1 := rfl
                      omega
                    rw [e1] at u3
                    have W := vx_w2 hlt hb2
                    have ei : vx_ev ρ (vx_k (vx_add ka.2.1 z) (Int.ofNat 1000000)) = ((kk + (vx_ev ρ z).toNat : Nat) : Int) + 1000000 := by
                      rw [vx_k_ev, vx_add_ev, hkk]
                      have : (Int.ofNat 1000000 : Int) = 1000000 := rfl
                      omega
                    rw [u3] at W
                    cases c5 : vx_g s (vx_k w (Int.negSucc 0))
                    · rw [c5] at e
                      simp only [cond_false] at e
                      cases c6 : (vx_g s (vx_k z (Int.negSucc 1)) && vx_g s (vx_sub (vx_sub sa.2.1 ka.2.1) z))
                      · rw [c6] at e; cases e
                      · rw [c6] at e
                        cases e
                        rw [Bool.and_eq_true] at c6
                        have d1 := V.ge (vx_k_lt u4) c6.1
                        have d2 := V.ge (vx_sub_lt (vx_sub_lt asa.1 aka.1) u4) c6.2
                        rw [vx_k_ev, m2] at d1
                        rw [vx_sub_ev, vx_sub_ev] at d2
                        refine ⟨vx_wmem V rr w5 (vx_k_lt (vx_add_lt aka.1 u4)) w1 ei ⟨w2, w3⟩ ?_, rfl, rfl⟩
                        rw [w4, W]
                        exact ⟨fun z => z.2.2, fun z => ⟨by omega, by rw [hstop]; omega, z⟩⟩
                    · rw [c5] at e
                      simp only [cond_true] at e
                      have d1 := V.ge (vx_k_lt w1) c5
                      rw [vx_k_ev, vx_m1] at d1
                      have hw1 : vx_whole (h.1 (τ r)) kk := w4.mp (by omega)
                      obtain ⟨x1, x2, x3⟩ := W.mp hw1
                      obtain ⟨s1, f1, V1, n1, r1, -, -⟩ := V.fact (f := vx_k z (Int.negSucc 1)) (vx_k_lt u4) (by rw [vx_k_ev, m2]; omega)
                      rw [f1] at e
                      simp only [] at e
                      obtain ⟨s2, f2, V2, n2, r2, -, -⟩ := V1.fact (f := vx_sub (vx_sub sa.2.1 ka.2.1) z) (by rw [n1]; exact vx_sub_lt (vx_sub_lt asa.1 aka.1) u4) (by rw [vx_sub_ev, vx_sub_ev]; rw [hstop] at x2; omega)
                      rw [f2] at e
                      cases e
                      have N : vs_n s2 = vs_n s := n2.trans n1
                      refine ⟨vx_wmem V2 (by rw [r2, r1]; exact rr) w5 (by rw [N]; exact vx_k_lt (vx_add_lt aka.1 u4)) (by rw [N]; exact w1) ei ⟨w2, w3⟩ ?_, N, r2.trans r1⟩
                      exact ⟨fun _ => x3, fun _ => by omega⟩
              · rw [c3] at e
                cases e
                have b2 := V.ge (vx_k_lt (vx_neg_lt q4)) c3
                rw [vx_k_ev, vx_neg_ev] at b2
                have m2 : (Int.ofNat 1 : Int) = 1 := rfl
                have ei : vx_ev ρ (vx_k ka.2.1 (Int.ofNat 1000001)) = ((kk + 1 : Nat) : Int) + 1000000 := by
                  rw [vx_k_ev, hkk]
                  have : (Int.ofNat 1000001 : Int) = 1000001 := rfl
                  omega
                refine ⟨vx_wmem V rr w5 (vx_k_lt aka.1) w1 ei ⟨w2, w3⟩ ?_, rfl, rfl⟩
                rw [w4]
                exact vx_w1 hlt (by rw [q3]; omega)
        · rw [c1] at e
          simp only [cond_true] at e
          have ge := V.ge (vx_sub_lt aka.1 asa.1) c1
          rw [vx_sub_ev] at ge
          have : vx_ev ρ w = 1 := w4.mpr (vx_w0 (by rw [hstop]; omega))
          obtain ⟨s2, f2, V2, n2, r2, -, -⟩ := V.fact (f := vx_k w (Int.negSucc 0)) (vx_k_lt w1) (by rw [vx_k_ev, vx_m1]; omega)
          rw [f2] at e
          cases e
          exact ⟨V2, n2, r2⟩
    · cases e
  · cases e
end VXW2
