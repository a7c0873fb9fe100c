/-- the two numbers of a packet in the making: b bytes of options, m bytes in all -/
def P34 (P : Nat → Nat) (b m : Nat) : Nat → Nat := Pu (Pu P 4 b) 3 m
theorem P34_3 {P : Nat → Nat} {b m : Nat} : P34 P b m 3 = m := Pu_s
theorem P34_4 {P : Nat → Nat} {b m : Nat} : P34 P b m 4 = b := by unfold P34; rw [Pu_n (by decide), Pu_s]
theorem P34_n {P : Nat → Nat} {b m i : Nat} (h3 : i ≠ 3) (h4 : i ≠ 4) : P34 P b m i = P i := by unfold P34; rw [Pu_n h3, Pu_n h4]
theorem P34_u3 {P : Nat → Nat} {b m x : Nat} : Pu (P34 P b m) 3 x = P34 P b x := by
  funext i
  by_cases h : i = 3
  · subst h; rw [Pu_s, P34_3]
  · unfold P34; rw [Pu_n h, Pu_n h, Pu_n h]
theorem P34_u4 {P : Nat → Nat} {b m x : Nat} : Pu (P34 P b m) 4 x = P34 P x m := by
  funext i
  by_cases h : i = 4
  · subst h; rw [Pu_s, P34_4]
  · by_cases h3 : i = 3
    · subst h3; rw [Pu_n h, P34_3, P34_3]
    · rw [Pu_n h, P34_n h3 h, P34_n h3 h]
/-- but for these two the numbers are the same -/
def PS (P Q : Nat → Nat) : Prop := ∀ i, i ≠ 3 → i ≠ 4 → Q i = P i
theorem PS.rf {P : Nat → Nat} : PS P P := fun _ _ _ => rfl
theorem PS.tr {P Q R : Nat → Nat} (h1 : PS P Q) (h2 : PS Q R) : PS P R := fun i a b => (h2 i a b).trans (h1 i a b)
theorem PS.p34 {P : Nat → Nat} {b m : Nat} : PS P (P34 P b m) := fun _ a b => P34_n a b
section M2
variable {D : ft_G} {h : ft_H} {κ : Nat → Nat × Nat} {n : Nat} {E : Nat → Prop} {P : Nat → Nat}
theorem t_M_byteOf {o b m : Nat} {x : Int32} (I : Iv D κ n E (P34 P b m) h) (ho : κ o = (kd_M, 0)) (hE : ¬ E o) (hm : m < 256) : sm D y_M_byteOf 0 (lv_args 0 [.ref o, .int x]) [] h 0 0 (fun v h' => v = none ∧ Iv D κ n E (P34 P b (m + 1)) h') := by
  obtain ⟨a1, r1, k1, e1⟩ := I.get ho hE pl_M_made
  have k1 : κ a1 = (kd_M_made, 256) := k1
  have r2 : h.1 o pl_M_madeSize = .int (nI (P34 P b m 3)) := I.get ho hE pl_M_madeSize
  rw [P34_3] at r2
  obtain ⟨j, hj, ej⟩ := pk_andE x (m := nI 255) 8 (by decide)
  have I1 := I.set (k := (nI m).toNatClampNeg) (v := .int (x &&& nI 255)) k1 ⟨j, (show j ≤ 255 by omega), by rw [ej]⟩
  have r3 : (ft_set h a1 (nI m).toNatClampNeg (.int (x &&& nI 255))).1 o pl_M_madeSize = .int (nI (P34 P b m 3)) := I1.get ho hE pl_M_madeSize
  rw [P34_3] at r3
  have I2 := I1.upd 3 (m + 1) (I1.ok.pu (by decide)) ho (k := pl_M_madeSize) (by decide) (by decide) (by show Value.int (nI (m + 1)) = Value.int (nI (Pu (P34 P b m) 3 (m + 1) 3)); rw [Pu_s])
  rw [P34_u3] at I2
  refine ft_run_ok k_M_byteOf 14 _ _ _ _ [.ref a1, .int (nI m), .int (nI m)] rfl ⟨I.K ho, r1, I.K ho, r2, I.Kd k1 rfl, I.B k1, I.vi k1 hm (by decide), I1.K ho, r3, I1.K ho, I1.B ho, rfl, rfl, trivial⟩ ?_
  rw [show nI m + nI 1 = nI (m + 1) from nI_add m 1]
  exact r_ret (v := none) k_M_byteOf rfl trivial (Nat.le_refl 0) (Nat.le_refl 0) ⟨rfl, I2⟩
theorem t_M_fits {o b m e : Nat} {x_e : Int32} (I : Iv D κ n E (P34 P b m) h) (ho : κ o = (kd_M, 0)) (hE : ¬ E o) (q_e : x_e = nI e) (h_e : e < 1000) (hb : b ≤ 120) : sm D y_M_fits 0 (lv_args 0 [.ref o, .int x_e]) [] h 0 0 (fun v h' => (∃ c : Nat, c ≤ 1 ∧ v = some (.int (nI c)) ∧ (c = 1 → b + e ≤ 120)) ∧ h' = h) := by
  subst q_e
  have r2 : h.1 o pl_M_optionBytes = .int (nI (P34 P b m 4)) := I.get ho hE pl_M_optionBytes
  rw [P34_4] at r2
  refine ft_run_ok k_M_fits 5 _ _ _ _ [.int (nI b)] rfl ⟨I.K ho, r2, trivial⟩ ?_
  refine r_icmp k_M_fits rfl rfl (fun c1 => ?_) (fun c1 => ?_)
  · refine ft_run_ok k_M_fits 1 _ _ _ _ [] rfl trivial ?_
    exact r_ret (v := some (.int (nI 0))) k_M_fits rfl rfl (Nat.le_refl 0) (Nat.le_refl 0) ⟨⟨0, by omega, rfl, fun q => by omega⟩, rfl⟩
  · have g1 := ft_nlt (a := 120) (b := b + e) (by omega) (by omega) (by have q := c1; simp only [ft_cond2, nI_add] at q; exact q)
    refine ft_run_ok k_M_fits 2 _ _ _ _ [] rfl trivial ?_
    exact r_ret (v := some (.int (nI 1))) k_M_fits rfl rfl (Nat.le_refl 0) (Nat.le_refl 0) ⟨⟨1, by omega, rfl, fun _ => g1⟩, rfl⟩
theorem t_M_six {o b m : Nat} {x : Int64} (I : Iv D κ n E (P34 P b m) h) (ho : κ o = (kd_M, 0)) (hE : ¬ E o) (hm : m + 6 ≤ 256) : sm D y_M_six 0 (lv_args 0 [.ref o, .long x]) [] h 0 0 (fun v h' => v = none ∧ Iv D κ n E (P34 P b (m + 6)) h') := by
  have L : ∀ (c : Nat), c ≤ 6 → ∀ h : ft_H, Iv D κ n E (P34 P b (m + 6 - c)) h → sm D y_M_six 3 [(0, .ref o), (1, .long x), (3, .int (nI (8 * c) - nI 8))] [] h 0 0 (fun v h' => v = none ∧ Iv D κ n E (P34 P b (m + 6)) h') := by
    intro c
    induction c with
    | zero =>
      intro _ h I
      refine ft_run_ok k_M_six 1 _ _ _ _ [] rfl trivial ?_
      refine r_if k_M_six rfl rfl (fun c1 => ?_) (fun c1 => ?_)
      · exact r_ret (v := none) k_M_six rfl trivial (Nat.le_refl 0) (Nat.le_refl 0) ⟨rfl, I⟩
      · exact absurd (show nI (8 * 0) - nI 8 < 0 by decide) c1
    | succ c ih =>
      intro hc h I
      have e1 : nI (8 * (c + 1)) - nI 8 = nI (8 * c) := by rw [pk_sub (by omega)]; congr 1
      rw [e1]
      refine ft_run_ok k_M_six 1 _ _ _ _ [] rfl trivial ?_
      refine r_if k_M_six rfl rfl (fun c1 => ?_) (fun c1 => ?_)
      · exact absurd c1 (nI_pos (by omega))
      · refine ft_run_ok k_M_six 5 _ _ _ _ [] rfl trivial ?_
        refine r_callV (as := [.int ((x >>> ((nI (8 * c)).toInt64 &&& 63)).toInt32)]) (a := o) (ci := 11) (r := []) k_M_six rfl z_M_byteOf rfl (by decide) rfl (I.K ho) (Nat.le_of_ble_eq_true rfl) (Nat.le_of_ble_eq_true rfl) (Nat.le_of_ble_eq_true rfl) (Nat.le_of_ble_eq_true rfl) (t_M_byteOf I ho hE (by omega)) ?_
        rintro v h' ⟨rfl, I2⟩
        rw [show m + 6 - (c + 1) + 1 = m + 6 - c by omega] at I2
        refine ft_run_ok k_M_six 2 _ _ _ _ [] rfl trivial ?_
        rw [show nI (8 * c) + Int32.ofInt (Int.negSucc 7) = nI (8 * c) - nI 8 from by rw [Int32.sub_eq_add_neg]; rfl]
        exact sm_sub [1, 2, 0] rfl (ih (by omega) _ I2)
  refine ft_run_ok k_M_six 2 _ _ _ _ [] rfl trivial ?_
  refine sm_sub [1, 2, 0] ?_ (L 6 (by omega) _ (by rw [show m + 6 - 6 = m by omega]; exact I))
  rfl
theorem t_M_sixAt {o k : Nat} {x_k : Int32} (I : Iv D κ n E P h) (ho : κ o = (kd_M, 0)) (hE : ¬ E o) (q_k : x_k = nI k) (h_k : k < 250) : sm D y_M_sixAt 0 (lv_args 0 [.ref o, .int x_k]) [] h 0 0 (fun v h' => (∃ x : Nat, x < 281474976710656 ∧ v = some (.long (lN x))) ∧ h' = h) := by
  subst q_k
  obtain ⟨a1, r1, k1, e1⟩ := I.get ho hE pl_M_came
  have k1 : κ a1 = (kd_M_came, 256) := k1
  have L : ∀ (c j a : Nat), j + c = 6 → a < 256 ^ j → sm D y_M_sixAt 5 [(0, .ref o), (1, .int (nI k)), (2, .long (lN a)), (4, .int (nI j))] [] h 0 0 (fun v h' => (∃ x : Nat, x < 281474976710656 ∧ v = some (.long (lN x))) ∧ h' = h) := by
    intro c
    induction c with
    | zero =>
      intro j a hj ha
      have hj : j = 6 := by omega
      subst hj
      refine ft_run_ok k_M_sixAt 2 _ _ _ _ [] rfl trivial ?_
      refine r_icmp k_M_sixAt rfl rfl (fun c1 => ?_) (fun c1 => ?_)
      · refine ft_run_ok k_M_sixAt 1 _ _ _ _ [] rfl trivial ?_
        exact r_ret (v := some (.long (lN a))) k_M_sixAt rfl trivial (Nat.le_refl 0) (Nat.le_refl 0) ⟨⟨a, ha, rfl⟩, rfl⟩
      · exact absurd (show nI 6 ≤ nI 6 by decide) c1
    | succ c ih =>
      intro j a hj ha
      have hb : a < 256 ^ 5 := Nat.lt_of_lt_of_le ha (Nat.pow_le_pow_right (by decide) (by omega))
      have hb : a < 1099511627776 := hb
      refine ft_run_ok k_M_sixAt 2 _ _ _ _ [] rfl trivial ?_
      refine r_icmp k_M_sixAt rfl rfl (fun c1 => ?_) (fun c1 => ?_)
      · exact absurd (ft_le (a := 6) (b := j) (by omega) (by omega) c1) (by omega)
      · obtain ⟨x, hx, r2⟩ := I.came k1 e1 ((nI k + nI j).toNatClampNeg)
        refine ft_run_ok k_M_sixAt 14 _ _ _ _ [.ref a1, .int (nI x)] rfl ⟨I.K ho, r1, I.Kd k1 rfl, (by simp only [nI_add]; exact I.vi k1 (by omega) (by decide)), r2, trivial⟩ ?_
        rw [ft_shl8 (by omega) (by omega), show nI j + nI 1 = nI (j + 1) from nI_add j 1]
        exact sm_sub [2, 3, 1, 0] rfl (ih (j + 1) (a * 256 + x) (by omega) (by rw [Nat.pow_succ]; omega))
  refine ft_run_ok k_M_sixAt 4 _ _ _ _ [] rfl trivial ?_
  exact sm_sub [2, 3, 1, 0] rfl (L 6 0 0 rfl (by decide))
end M2
