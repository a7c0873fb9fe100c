section M5
variable {D : ft_G} {h : ft_H} {κ : Nat → Nat × Nat} {n : Nat} {E : Nat → Prop} {P : Nat → Nat}
theorem t_M_isRight {o : Nat} (I : Iv D κ n E P h) (ho : κ o = (kd_M, 0)) (hE : ¬ E o) : sm D y_M_isRight 0 (lv_args 0 [.ref o]) [] h 0 0 (fun v h' => (∃ b : Nat, b ≤ 1 ∧ v = some (.int (nI b)) ∧ (b = 1 → P 5 ≤ 9 ∧ P 6 ≤ 120 ∧ hdN (P 5) + P 6 ≤ P 7 ∧ P 7 ≤ hdN (P 5) + P 6 + 40)) ∧ h' = h) := by
  obtain ⟨a1, r1, k1, e1⟩ := I.get ho hE pl_M_came
  have k1 : κ a1 = (kd_M_came, 256) := k1
  have rs : h.1 o pl_M_cameSize = .int (nI (P 7)) := I.get ho hE pl_M_cameSize
  have p0 : h.1 a1 0 = .int (nI (P 5)) := I.get k1 e1 0
  have p1 : h.1 a1 1 = .int (nI (P 6)) := I.get k1 e1 1
  obtain ⟨x2, hx2, p2⟩ := I.came k1 e1 2
  obtain ⟨x3, hx3, p3⟩ := I.came k1 e1 3
  have bb := I.ok
  unfold Pok at bb
  have hd := hdN_le (P 5)
  have v0 := I.vi k1 (show 0 < 256 by decide) (by decide)
  have v1 := I.vi k1 (show 1 < 256 by decide) (by decide)
  have v2 := I.vi k1 (show 2 < 256 by decide) (by decide)
  have v3 := I.vi k1 (show 3 < 256 by decide) (by decide)
  refine ft_run_ok k_M_isRight 3 _ _ _ _ [.int (nI (P 7))] rfl ⟨I.K ho, rs, trivial⟩ ?_
  refine r_icmp k_M_isRight rfl rfl (fun c1 => ?_) (fun c1 => ?_)
  · refine ft_run_ok k_M_isRight 1 _ _ _ _ [] rfl trivial ?_
    exact r_ret (v := some (.int (nI 0))) k_M_isRight rfl rfl (Nat.le_of_ble_eq_true rfl) (Nat.le_of_ble_eq_true rfl) ⟨⟨0, by omega, rfl, by omega⟩, rfl⟩
  refine ft_run_ok k_M_isRight 5 _ _ _ _ [.ref a1, .int (nI (P 5))] rfl ⟨I.K ho, r1, I.Kd k1 rfl, v0, p0, trivial⟩ ?_
  refine r_icmp k_M_isRight rfl rfl (fun c2 => ?_) (fun c2 => ?_)
  · refine ft_run_ok k_M_isRight 1 _ _ _ _ [] rfl trivial ?_
    exact r_ret (v := some (.int (nI 0))) k_M_isRight rfl rfl (Nat.le_of_ble_eq_true rfl) (Nat.le_of_ble_eq_true rfl) ⟨⟨0, by omega, rfl, by omega⟩, rfl⟩
  have g2 := ft_nlt (a := 9) (b := P 5) (by omega) (by omega) c2
  refine ft_run_ok k_M_isRight 5 _ _ _ _ [.ref a1, .int (nI (P 6))] rfl ⟨I.K ho, r1, I.Kd k1 rfl, v1, p1, trivial⟩ ?_
  refine r_icmp k_M_isRight rfl rfl (fun c3 => ?_) (fun c3 => ?_)
  rotate_left
  · refine ft_run_ok k_M_isRight 1 _ _ _ _ [] rfl trivial ?_
    exact r_ret (v := some (.int (nI 0))) k_M_isRight rfl rfl (Nat.le_of_ble_eq_true rfl) (Nat.le_of_ble_eq_true rfl) ⟨⟨0, by omega, rfl, by omega⟩, rfl⟩
  have g3 := ft_le (a := P 6) (b := 120) (by omega) (by omega) c3
  refine ft_run_ok k_M_isRight 9 _ _ _ _ [.ref a1, .int (nI (P 5)), .int (nI (P 7))] rfl ⟨I.K ho, r1, I.Kd k1 rfl, v0, p0, I.K ho, rs, trivial⟩ ?_
  refine r_callV (as := [.int (nI (P 5))]) (a := o) (ci := 11) (r := [.int (nI (P 7))]) k_M_isRight rfl z_M_headOf rfl (by decide) rfl (I.K ho) (Nat.le_of_ble_eq_true rfl) (Nat.le_of_ble_eq_true rfl) (Nat.le_of_ble_eq_true rfl) (Nat.le_of_ble_eq_true rfl) (t_M_headOf I ho hE rfl (by omega)) ?_
  rintro v h' ⟨rfl, rfl⟩
  refine ft_run_ok k_M_isRight 7 _ _ _ _ [.ref a1, .int (nI (P 6))] rfl ⟨I.K ho, r1, I.Kd k1 rfl, v1, p1, trivial⟩ ?_
  generalize hR : nI (P 7) - nI (hdN (P 5)) - nI (P 6) = R
  have hRi : R.toInt = (P 7 : Int) - (hdN (P 5) + P 6 : Nat) := by
    rw [← hR, Int32.sub_sub, nI_add]
    exact pk_sub_toInt (by omega) (by omega)
  have Z : ∀ lv : List (Nat × Value), sm D y_M_isRight 106 lv [] h' (0 + ft_mc y_M_headOf) (0 + ft_mz y_M_headOf) (fun v h'' => (∃ b : Nat, b ≤ 1 ∧ v = some (.int (nI b)) ∧ (b = 1 → P 5 ≤ 9 ∧ P 6 ≤ 120 ∧ hdN (P 5) + P 6 ≤ P 7 ∧ P 7 ≤ hdN (P 5) + P 6 + 40)) ∧ h'' = h') := by
    intro lv
    refine ft_run_ok k_M_isRight 1 _ _ _ _ [] rfl trivial ?_
    exact r_ret (v := some (.int (nI 0))) k_M_isRight rfl rfl (Nat.le_of_ble_eq_true rfl) (Nat.le_of_ble_eq_true rfl) ⟨⟨0, by omega, rfl, by omega⟩, rfl⟩
  have Y : hdN (P 5) + P 6 ≤ P 7 → P 7 ≤ hdN (P 5) + P 6 + 40 → sm D y_M_isRight 108 [(0, .ref o)] [] h' (0 + ft_mc y_M_headOf) (0 + ft_mz y_M_headOf) (fun v h'' => (∃ b : Nat, b ≤ 1 ∧ v = some (.int (nI b)) ∧ (b = 1 → P 5 ≤ 9 ∧ P 6 ≤ 120 ∧ hdN (P 5) + P 6 ≤ P 7 ∧ P 7 ≤ hdN (P 5) + P 6 + 40)) ∧ h'' = h') := by
    intro y1 y2
    refine ft_run_ok k_M_isRight 5 _ _ _ _ [.ref a1, .int (nI (P 7))] rfl ⟨I.K ho, r1, I.K ho, rs, trivial⟩ ?_
    refine r_callS (as := [.ref a1, .int (nI 0), .int (nI (P 7))]) (r := []) k_M_isRight rfl z_M_checkOf rfl (Nat.le_of_ble_eq_true rfl) (Nat.le_of_ble_eq_true rfl) (Nat.le_of_ble_eq_true rfl) (Nat.le_of_ble_eq_true rfl) (t_M_checkOf (c := kd_M_came) (m := 256) (by rw [I.kinds]; exact k1) rfl (fun k => I.came k1 e1 k) rfl rfl (by omega) (by omega) (by decide)) ?_
    rintro v h3 ⟨⟨j, hj, rfl⟩, rfl⟩
    refine ft_run_ok k_M_isRight 11 _ _ _ _ [.ref a1, .int (nI x2), .ref a1, .int (nI x3)] rfl ⟨I.K ho, r1, I.Kd k1 rfl, v2, p2, I.K ho, r1, I.Kd k1 rfl, v3, p3, trivial⟩ ?_
    refine r_icmp k_M_isRight rfl rfl (fun c4 => ?_) (fun c4 => ?_)
    · refine ft_run_ok k_M_isRight 1 _ _ _ _ [] rfl trivial ?_
      exact r_ret (v := some (.int (nI 0))) k_M_isRight rfl rfl (Nat.le_of_ble_eq_true rfl) (Nat.le_of_ble_eq_true rfl) ⟨⟨0, by omega, rfl, by omega⟩, rfl⟩
    · refine ft_run_ok k_M_isRight 2 _ _ _ _ [] rfl trivial ?_
      exact r_ret (v := some (.int (nI 1))) k_M_isRight rfl rfl (Nat.le_of_ble_eq_true rfl) (Nat.le_of_ble_eq_true rfl) ⟨⟨1, by omega, rfl, fun _ => ⟨g2, g3, y1, y2⟩⟩, rfl⟩
  have J : ∀ d : Nat, d ≤ 1 → sm D y_M_isRight 74 [(0, .ref o), (1, .int (nI (P 5))), (2, .int R), (3, .int (nI d))] [] h' (0 + ft_mc y_M_headOf) (0 + ft_mz y_M_headOf) (fun v h'' => (∃ b : Nat, b ≤ 1 ∧ v = some (.int (nI b)) ∧ (b = 1 → P 5 ≤ 9 ∧ P 6 ≤ 120 ∧ hdN (P 5) + P 6 ≤ P 7 ∧ P 7 ≤ hdN (P 5) + P 6 + 40)) ∧ h'' = h') := by
    intro d hd1
    refine ft_run_ok k_M_isRight 1 _ _ _ _ [] rfl trivial ?_
    refine r_if k_M_isRight rfl rfl (fun c4 => ?_) (fun c4 => ?_)
    · exact Z _
    have y1 : hdN (P 5) + P 6 ≤ P 7 := by
      have q := Int32.le_iff_toInt_le.mp (Int32.not_lt.mp c4)
      rw [hRi] at q
      simp at q
      omega
    have T : ∀ w : Nat, w ≤ 40 → sm D y_M_isRight 89 [(0, .ref o), (1, .int (nI (P 5)))] [.int (nI w), .int R] h' (0 + ft_mc y_M_headOf) (0 + ft_mz y_M_headOf) (fun v h'' => (∃ b : Nat, b ≤ 1 ∧ v = some (.int (nI b)) ∧ (b = 1 → P 5 ≤ 9 ∧ P 6 ≤ 120 ∧ hdN (P 5) + P 6 ≤ P 7 ∧ P 7 ≤ hdN (P 5) + P 6 + 40)) ∧ h'' = h') := by
      intro w hw
      refine r_icmp k_M_isRight rfl rfl (fun c5 => ?_) (fun c5 => ?_)
      · exact Z _
      have y2 : P 7 ≤ hdN (P 5) + P 6 + 40 := by
        have q := Int32.le_iff_toInt_le.mp (Int32.not_lt.mp c5)
        rw [hRi, nI_toInt (by omega)] at q
        omega
      refine ft_run_ok k_M_isRight 2 _ _ _ _ [] rfl trivial ?_
      refine r_icmp k_M_isRight rfl rfl (fun c6 => ?_) (fun c6 => ?_)
      · exact sm_sub [0] rfl (Y y1 y2)
      refine ft_run_ok k_M_isRight 4 _ _ _ _ [.ref a1, .int (nI (P 6))] rfl ⟨I.K ho, r1, I.Kd k1 rfl, v1, p1, trivial⟩ ?_
      refine r_if k_M_isRight rfl rfl (fun c7 => ?_) (fun c7 => ?_)
      · exact sm_sub [0] rfl (Y y1 y2)
      · exact Z _
    refine ft_run_ok k_M_isRight 2 _ _ _ _ [] rfl trivial ?_
    refine r_if k_M_isRight rfl rfl (fun c5 => ?_) (fun c5 => ?_)
    · refine ft_run_ok k_M_isRight 1 _ _ _ _ [] rfl trivial ?_
      exact sm_sub [0, 1] rfl (T 0 (by omega))
    · refine ft_run_ok k_M_isRight 2 _ _ _ _ [] rfl trivial ?_
      exact sm_sub [0, 1] rfl (T 40 (by omega))
  refine ft_run_ok k_M_isRight 2 _ _ _ _ [] rfl trivial ?_
  refine r_icmp k_M_isRight rfl rfl (fun c4 => ?_) (fun c4 => ?_)
  · refine ft_run_ok k_M_isRight 3 _ _ _ _ [] rfl trivial ?_
    exact sm_sub [3, 2, 1, 0] rfl (J 1 (by omega))
  refine ft_run_ok k_M_isRight 2 _ _ _ _ [] rfl trivial ?_
  refine r_icmp k_M_isRight rfl rfl (fun c5 => ?_) (fun c5 => ?_)
  · refine ft_run_ok k_M_isRight 2 _ _ _ _ [] rfl trivial ?_
    exact sm_sub [3, 2, 1, 0] rfl (J 0 (by omega))
  · refine ft_run_ok k_M_isRight 3 _ _ _ _ [] rfl trivial ?_
    exact sm_sub [3, 2, 1, 0] rfl (J 1 (by omega))
end M5
