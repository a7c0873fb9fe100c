section M4
variable {D : ft_G} {h : ft_H} {κ : Nat → Nat × Nat} {n : Nat} {E : Nat → Prop} {P : Nat → Nat}
theorem t_M_checkOf {a c m f z : Nat} {x_f x_z : Int32} (hK : h.2.1 a = (c, m)) (hc : ft_kd c = some (.inr .int)) (hby : ∀ k : Nat, ∃ x : Nat, x ≤ 255 ∧ h.1 a k = .int (nI x)) (q_f : x_f = nI f) (q_z : x_z = nI z) (hz : z ≤ 256) (hm : f + z ≤ m) (hm2 : m < 2 ^ 20) : sm D y_M_checkOf 0 (lv_args 0 [.ref a, .int x_f, .int x_z]) [] h 0 0 (fun v h' => (∃ j : Nat, j < 65536 ∧ v = some (.int (nI j))) ∧ h' = h) := by
  subst q_f
  subst q_z
  have X : ∀ (s : Nat) (lv : List (Nat × Value)), s ≤ 65535 → ft_lk 3 lv = some (.int (nI s)) → sm D y_M_checkOf 95 [(3, .int (nI s))] [] h 0 0 (fun v h' => (∃ j : Nat, j < 65536 ∧ v = some (.int (nI j))) ∧ h' = h) := by
    intro s lv hs _
    refine ft_run_ok k_M_checkOf 3 _ _ _ _ [] rfl trivial ?_
    exact r_ret (v := some (.int (nI 65535 - nI s))) k_M_checkOf rfl trivial (Nat.le_refl 0) (Nat.le_refl 0) ⟨⟨65535 - s, by omega, by rw [pk_sub (by omega)]⟩, rfl⟩
  have L64 : ∀ (t i s : Nat), i ≤ 8 → ((i = 0 ∧ s ≤ 16711680) ∨ (i = 1 ∧ s ≤ 65790) ∨ (2 ≤ i ∧ s ≤ 65535)) → 8 - i < t → sm D y_M_checkOf 64 [(3, .int (nI s)), (4, .int (nI i))] [] h 0 0 (fun v h' => (∃ j : Nat, j < 65536 ∧ v = some (.int (nI j))) ∧ h' = h) := by
    intro t
    induction t with
    | zero => intro i s _ _ ht; exact absurd ht (Nat.not_lt_zero _)
    | succ t ih =>
      intro i s hi hs ht
      refine ft_run_ok k_M_checkOf 2 _ _ _ _ [] rfl trivial ?_
      refine r_icmp k_M_checkOf rfl rfl (fun c1 => ?_) (fun c1 => ?_)
      · have g1 := ft_le (a := 8) (b := i) (by omega) (by omega) c1
        exact sm_sub [0] rfl (X s [(3, .int (nI s))] (by omega) rfl)
      · have g1 := ft_nle (a := i) (b := 8) (by omega) (by omega) c1
        refine ft_run_ok k_M_checkOf 2 _ _ _ _ [] rfl trivial ?_
        refine r_icmp k_M_checkOf rfl rfl (fun c2 => ?_) (fun c2 => ?_)
        · have g2 := ft_le (a := s) (b := 65535) (by omega) (by omega) c2
          exact sm_sub [0] rfl (X s [(3, .int (nI s))] (by omega) rfl)
        · have g2 := ft_nle (a := 65535) (b := s) (by omega) (by omega) c2
          refine ft_run_ok k_M_checkOf 10 _ _ _ _ [] rfl trivial ?_
          rw [show nI i + nI 1 = nI (i + 1) from nI_add i 1, show (nI s &&& nI 65535) + (nI s >>> (nI 16 &&& 31)) = nI (s % 65536 + s / 65536) from by
            rw [pk_andN (by omega) (m := nI 65535) 16 (by decide), pk_shrN (by omega) (nI 16 &&& 31) 16 (by decide), nI_add]]
          exact sm_sub [1, 0] rfl (ih (i + 1) (s % 65536 + s / 65536) (by omega) (by omega) (by omega))
  have L5 : ∀ (t j s : Nat), j ≤ z → s ≤ j * 65280 → z - j < t → sm D y_M_checkOf 5 [(0, .ref a), (1, .int (nI f)), (2, .int (nI z)), (3, .int (nI s)), (4, .int (nI j))] [] h 0 0 (fun v h' => (∃ j : Nat, j < 65536 ∧ v = some (.int (nI j))) ∧ h' = h) := by
    intro t
    induction t with
    | zero => intro j s _ _ ht; exact absurd ht (Nat.not_lt_zero _)
    | succ t ih =>
      intro j s hj hs ht
      refine ft_run_ok k_M_checkOf 2 _ _ _ _ [] rfl trivial ?_
      refine r_icmp k_M_checkOf rfl rfl (fun c1 => ?_) (fun c1 => ?_)
      · refine ft_run_ok k_M_checkOf 2 _ _ _ _ [] rfl trivial ?_
        exact sm_sub [4, 0] rfl (L64 9 0 s (by omega) (by omega) (by omega))
      · have g1 := ft_nle (a := j) (b := z) (by omega) (by omega) c1
        have J : ∀ b : Nat, b ≤ 255 → sm D y_M_checkOf 33 [(0, .ref a), (1, .int (nI f)), (2, .int (nI z)), (3, .int (nI s)), (4, .int (nI j))] [.int (nI b)] h 0 0 (fun v h' => (∃ j : Nat, j < 65536 ∧ v = some (.int (nI j))) ∧ h' = h) := by
          intro b hb
          refine ft_run_ok k_M_checkOf 5 _ _ _ _ [] rfl ⟨(by decide), trivial⟩ ?_
          refine r_if k_M_checkOf rfl rfl (fun c2 => ?_) (fun c2 => ?_)
          · refine ft_run_ok k_M_checkOf 5 _ _ _ _ [] rfl trivial ?_
            rw [show nI j + nI 1 = nI (j + 1) from nI_add j 1, show nI s + nI b = nI (s + b) from nI_add s b]
            exact sm_sub [3, 4, 5, 1, 0] rfl (ih (j + 1) (s + b) (by omega) (by omega) (by omega))
          · refine ft_run_ok k_M_checkOf 8 _ _ _ _ [] rfl trivial ?_
            rw [show nI j + nI 1 = nI (j + 1) from nI_add j 1, show nI s + nI b <<< (nI 8 &&& 31) = nI (s + b * 256) from by rw [pk_shlN (nI 8 &&& 31) 8 (by decide) (by omega), nI_add]]
            exact sm_sub [3, 4, 5, 1, 0] rfl (ih (j + 1) (s + b * 256) (by omega) (by omega) (by omega))
        refine ft_run_ok k_M_checkOf 2 _ _ _ _ [] rfl trivial ?_
        refine r_icmp k_M_checkOf rfl rfl (fun c2 => ?_) (fun c2 => ?_)
        · refine ft_run_ok k_M_checkOf 2 _ _ _ _ [] rfl trivial ?_
          exact J 0 (by omega)
        · refine ft_run_ok k_M_checkOf 2 _ _ _ _ [] rfl trivial ?_
          refine r_icmp k_M_checkOf rfl rfl (fun c3 => ?_) (fun c3 => ?_)
          · obtain ⟨x, hx, r1⟩ := hby ((nI f + nI j).toNatClampNeg)
            refine ft_run_ok k_M_checkOf 5 _ _ _ _ [.int (nI x)] rfl ⟨(by rw [hK]; exact hc), (by rw [hK]; simp only [nI_add]; exact vp_in_nI (by omega) (by omega)), r1, trivial⟩ ?_
            exact J x hx
          · refine ft_run_ok k_M_checkOf 2 _ _ _ _ [] rfl trivial ?_
            exact J 0 (by omega)
  refine ft_run_ok k_M_checkOf 4 _ _ _ _ [] rfl trivial ?_
  exact sm_sub [2, 3, 4, 1, 0] rfl (L5 (z + 1) 0 0 (by omega) (by omega) (by omega))
end M4
