section LAW2
variable {D : ft_G} {h0 : ft_H}
theorem rh_j (h9 : dLen D = 9) {j : Nat} (hj : j < 9) : rh D j = dScr D j := by
  unfold rh scr
  rw [if_neg (by omega), if_pos (by omega)]
theorem eV (h9 : dLen D = 9) {j : Nat} (hj : j < 9) : aD D (rh D) (sg D) (.leaf (6, j)) = .int (dScr D j) := by
  show Value.int (rh D j) = _
  rw [rh_j h9 hj]
theorem eK {j n : Nat} (h : dScr D j = nI n) : aD D (rh D) (sg D) (.leaf (0, n)) = .int (dScr D j) := by
  rw [h]; rfl
theorem xok9 {l0 l1 l2 l3 l4 l5 l6 l7 l8 : AE} (h9 : dLen D = 9) (e0 : aD D (rh D) (sg D) l0 = .int (dScr D 0)) (e1 : aD D (rh D) (sg D) l1 = .int (dScr D 1)) (e2 : aD D (rh D) (sg D) l2 = .int (dScr D 2)) (e3 : aD D (rh D) (sg D) l3 = .int (dScr D 3)) (e4 : aD D (rh D) (sg D) l4 = .int (dScr D 4)) (e5 : aD D (rh D) (sg D) l5 = .int (dScr D 5)) (e6 : aD D (rh D) (sg D) l6 = .int (dScr D 6)) (e7 : aD D (rh D) (sg D) l7 = .int (dScr D 7)) (e8 : aD D (rh D) (sg D) l8 = .int (dScr D 8)) : XOK D (rh D) (sg D) (9, [l0, l1, l2, l3, l4, l5, l6, l7, l8]) := by
  intro _
  refine ⟨h9, fun j a hj => ?_⟩
  match j, hj with
  | 0, hj => cases hj; exact e0
  | 1, hj => cases hj; exact e1
  | 2, hj => cases hj; exact e2
  | 3, hj => cases hj; exact e3
  | 4, hj => cases hj; exact e4
  | 5, hj => cases hj; exact e5
  | 6, hj => cases hj; exact e6
  | 7, hj => cases hj; exact e7
  | 8, hj => cases hj; exact e8
  | n + 9, hj => cases hj
theorem use_run {q : SCR × BD} (hq : runOK q = true) (hX : XOK D (rh D) (sg D) q.1) (hB : BOK (rh D) (sg D) q.2) : sm D 0 61 (dL D (rh D) (sg D) lvL) [] (hD D (rh D) (sg D) h0 hp3) 273 54730 (fun v _ => v = some (.int (nI 1))) := by
  obtain ⟨l, e, hl⟩ := allOne_ok hq
  have k := ax_ok (D := D) (ρ := rh D) (σ := (sg D)) (h0 := h0) (axS_ok rfl) axC_ok hX 60000 q.2 0 mr_L_law 61 lvL [] hp3 273 54730 l hB mo_L_law e
  refine sm.mono k ?_
  rintro v h' ⟨o, ho, -, hv, -⟩
  rw [hv, hl o ho]
  rfl
theorem bO (h9 : dLen D = 9) {k : Nat} (h : dScr D 3 &&& nI 31 = nI k) (hk : k < 32) {lo hi : Nat} (h1 : lo ≤ 9223372036854775808 + k) (h2 : 9223372036854775808 + k ≤ hi) : lo ≤ ov (rh D) (sg D) (.branch 3 (.leaf (6, 3)) (.leaf (0, 31))) ∧ ov (rh D) (sg D) (.branch 3 (.leaf (6, 3)) (.leaf (0, 31))) ≤ hi := by
  have q := ov_I (ρ := rh D) (σ := (sg D)) (e := .branch 3 (.leaf (6, 3)) (.leaf (0, 31))) rfl
  have e : (eP (rh D) (sg D) (.branch 3 (.leaf (6, 3)) (.leaf (0, 31)))).1 = nI k := by
    show rh D 3 &&& nI 31 = nI k
    rw [rh_j h9 (by omega)]; exact h
  rw [e, nI_tI (by omega)] at q
  omega
theorem bV (h9 : dLen D = 9) {j : Nat} (hj : j < 9) {lo hi : Nat} (h1 : (lo : Int) ≤ (dScr D j).toInt + 9223372036854775808) (h2 : (dScr D j).toInt + 9223372036854775808 ≤ (hi : Int)) : lo ≤ ov (rh D) (sg D) (.leaf (6, j)) ∧ ov (rh D) (sg D) (.leaf (6, j)) ≤ hi := by
  have q := ov_I (ρ := rh D) (σ := (sg D)) (e := .leaf (6, j)) rfl
  have e : (eP (rh D) (sg D) (.leaf (6, j))).1 = dScr D j := rh_j h9 hj
  rw [e] at q
  omega
theorem rng (m : Nat) (x : Int32) (hm : m ≤ 2147483647) : (∃ n, n < m ∧ x = nI n) ∨ x.toInt ≤ -1 ∨ (m : Int) ≤ x.toInt := by
  have b := i32_b x
  by_cases h1 : x.toInt ≤ -1
  · exact Or.inr (Or.inl h1)
  · by_cases h2 : (m : Int) ≤ x.toInt
    · exact Or.inr (Or.inr h2)
    · refine Or.inl ⟨x.toInt.toNat, by omega, ?_⟩
      apply Int32.toInt_inj.mp
      rw [nI_tI (by omega)]
      omega
theorem opE (x : Int32) : ∃ k, k < 32 ∧ x &&& nI 31 = nI k := by
  have b := and_b32 x (m := 31) (by omega)
  refine ⟨(x &&& nI 31).toInt.toNat, by omega, ?_⟩
  apply Int32.toInt_inj.mp
  rw [nI_tI (by omega)]
  omega
set_option maxRecDepth 100000 in
theorem lop_0 (h9 : dLen D = 9) (hop : dScr D 3 &&& nI 31 = nI 0) : sm D 0 61 (dL D (rh D) (sg D) lvL) [] (hD D (rh D) (sg D) h0 hp3) 273 54730 (fun v _ => v = some (.int (nI 1))) := by
  show sm D 0 61 [(3, .int (nI 3)), (2, .ref (ft_B D + 215)), (1, .ref (ft_B D)), (0, .ref D.2.2.2.2.2.1)] [] _ 273 54730 _
  refine ft_run_ok k_L_law 2 _ _ _ _ [] rfl trivial ?_
  obtain ⟨hd1, -, -⟩ := ft_row_ok (y := 0) (pc := 63) k_L_law rfl
  refine sm_sld hd1 (vpE (show 3 < dLen D by omega) (show dLen D < 2147483648 by omega)) ?_
  rw [clampE (by omega)]
  refine ft_run_ok k_L_law 2 _ _ _ _ [] rfl trivial ?_
  show sm D 0 67 _ [.int (dScr D 3 &&& nI 31)] _ 273 54730 _
  rw [hop]
  refine r_swIn k_L_law rfl (by decide) (by decide) (off := 101) rfl rfl ?_
  refine ft_run_ok k_L_law 1 _ _ _ _ [] rfl trivial ?_
  have hKF : ((hD D (rh D) (sg D) h0 hp3).2.1 (ft_B D)).1 = 1 := by
    obtain ⟨c, hc⟩ : ∃ c, tG hp3.2 0 = some (1, c) := ⟨_, rfl⟩
    have e := hD_K (D := D) (ρ := rh D) (σ := (sg D)) (h0 := h0) hc
    rw [Nat.add_zero] at e
    rw [e]
  refine r_callV (as := []) (a := ft_B D) (ci := 0) (r := []) k_L_law rfl z_F_open rfl (by decide) rfl hKF (Nat.le_of_ble_eq_true rfl) (Nat.le_of_ble_eq_true rfl) (Nat.le_of_ble_eq_true rfl) (Nat.le_of_ble_eq_true rfl) (t_openF (ρ := rh D) (σ := sg D) rfl (fun _ => rfl)) ?_
  rintro v h' ⟨rfl, K, hs, rfl⟩
  refine ft_run_ok k_L_law 1 _ _ _ _ [] rfl trivial ?_
  have hK : (((hD D (rh D) (sg D) h0 K).2.1 (ft_B D + 215)).1 = 12) := by
    obtain ⟨c, hc⟩ : ∃ c, tG hpM.2 215 = some (12, c) := ⟨_, rfl⟩
    rw [hD_K ((subH_ok hs).2 _ _ hc)]
  refine r_callV (as := []) (a := ft_B D + 215) (ci := 11) (r := [.int (nI 1)]) k_L_law rfl z_M_open rfl (by decide) rfl hK (Nat.le_of_ble_eq_true rfl) (Nat.le_of_ble_eq_true rfl) (Nat.le_of_ble_eq_true rfl) (Nat.le_of_ble_eq_true rfl) (t_openM rfl hs) ?_
  rintro v h' rfl
  refine r_icmp k_L_law rfl rfl (fun c => ?_) (fun c => absurd rfl c)
  refine ft_run_ok k_L_law 4 _ _ _ _ [] rfl trivial ?_
  obtain ⟨hd2, -, -⟩ := ft_row_ok (y := 0) (pc := 54) k_L_law rfl
  refine sm_slen (v := .int (nI (dLen D))) hd2 rfl ?_
  refine ft_run_ok k_L_law 2 _ _ _ _ [] rfl trivial ?_
  rw [h9]
  refine r_icmp k_L_law rfl rfl (fun c => ?_) (fun c => absurd (show ft_cond2 .gt (nI 3 + nI 6) (nI 9 - nI 6) from (by decide : nI 9 - nI 6 < nI 3 + nI 6)) c)
  refine ft_run_ok k_L_law 1 _ _ _ _ [] rfl trivial ?_
  exact r_ret (v := some (.int (nI 1))) k_L_law rfl rfl (Nat.le_of_ble_eq_true rfl) (Nat.le_of_ble_eq_true rfl) rfl
theorem lop_1 (h9 : dLen D = 9) (hop : dScr D 3 &&& nI 31 = nI 1) : sm D 0 61 (dL D (rh D) (sg D) lvL) [] (hD D (rh D) (sg D) h0 hp3) 273 54730 (fun v _ => v = some (.int (nI 1))) := by
  exact use_run run_1_0 (xok9 h9 (eV h9 (by omega)) (eV h9 (by omega)) (eV h9 (by omega)) (eV h9 (by omega)) (eV h9 (by omega)) (eV h9 (by omega)) (eV h9 (by omega)) (eV h9 (by omega)) (eV h9 (by omega))) (BOKc (bO h9 hop (by omega) (by omega) (by omega)) BOKn)
theorem lop_2 (h9 : dLen D = 9) (hop : dScr D 3 &&& nI 31 = nI 2) : sm D 0 61 (dL D (rh D) (sg D) lvL) [] (hD D (rh D) (sg D) h0 hp3) 273 54730 (fun v _ => v = some (.int (nI 1))) := by
  have i4 := i32_b (dScr D 4)
  rcases rng 2 (dScr D 4) (by omega) with ⟨n4, hn4, q4⟩ | b4 | b4
  · rcases (show n4 = 0 ∨ n4 = 1 by omega) with rfl | rfl
    · exact use_run run_2_0 (xok9 h9 (eV h9 (by omega)) (eV h9 (by omega)) (eV h9 (by omega)) (eV h9 (by omega)) (eK q4) (eV h9 (by omega)) (eV h9 (by omega)) (eV h9 (by omega)) (eV h9 (by omega))) (BOKc (bO h9 hop (by omega) (by omega) (by omega)) BOKn)
    · exact use_run run_2_1 (xok9 h9 (eV h9 (by omega)) (eV h9 (by omega)) (eV h9 (by omega)) (eV h9 (by omega)) (eK q4) (eV h9 (by omega)) (eV h9 (by omega)) (eV h9 (by omega)) (eV h9 (by omega))) (BOKc (bO h9 hop (by omega) (by omega) (by omega)) BOKn)
  · exact use_run run_2_2 (xok9 h9 (eV h9 (by omega)) (eV h9 (by omega)) (eV h9 (by omega)) (eV h9 (by omega)) (eV h9 (by omega)) (eV h9 (by omega)) (eV h9 (by omega)) (eV h9 (by omega)) (eV h9 (by omega))) (BOKc (bV h9 (by omega) (by omega) (by omega)) (BOKc (bO h9 hop (by omega) (by omega) (by omega)) BOKn))
  · exact use_run run_2_3 (xok9 h9 (eV h9 (by omega)) (eV h9 (by omega)) (eV h9 (by omega)) (eV h9 (by omega)) (eV h9 (by omega)) (eV h9 (by omega)) (eV h9 (by omega)) (eV h9 (by omega)) (eV h9 (by omega))) (BOKc (bV h9 (by omega) (by omega) (by omega)) (BOKc (bO h9 hop (by omega) (by omega) (by omega)) BOKn))
theorem lop_3 (h9 : dLen D = 9) (hop : dScr D 3 &&& nI 31 = nI 3) : sm D 0 61 (dL D (rh D) (sg D) lvL) [] (hD D (rh D) (sg D) h0 hp3) 273 54730 (fun v _ => v = some (.int (nI 1))) := by
  have i4 := i32_b (dScr D 4)
  rcases rng 2 (dScr D 4) (by omega) with ⟨n4, hn4, q4⟩ | b4 | b4
  · rcases (show n4 = 0 ∨ n4 = 1 by omega) with rfl | rfl
    · exact use_run run_3_0 (xok9 h9 (eV h9 (by omega)) (eV h9 (by omega)) (eV h9 (by omega)) (eV h9 (by omega)) (eK q4) (eV h9 (by omega)) (eV h9 (by omega)) (eV h9 (by omega)) (eV h9 (by omega))) (BOKc (bO h9 hop (by omega) (by omega) (by omega)) BOKn)
    · exact use_run run_3_1 (xok9 h9 (eV h9 (by omega)) (eV h9 (by omega)) (eV h9 (by omega)) (eV h9 (by omega)) (eK q4) (eV h9 (by omega)) (eV h9 (by omega)) (eV h9 (by omega)) (eV h9 (by omega))) (BOKc (bO h9 hop (by omega) (by omega) (by omega)) BOKn)
  · exact use_run run_3_2 (xok9 h9 (eV h9 (by omega)) (eV h9 (by omega)) (eV h9 (by omega)) (eV h9 (by omega)) (eV h9 (by omega)) (eV h9 (by omega)) (eV h9 (by omega)) (eV h9 (by omega)) (eV h9 (by omega))) (BOKc (bV h9 (by omega) (by omega) (by omega)) (BOKc (bO h9 hop (by omega) (by omega) (by omega)) BOKn))
  · exact use_run run_3_3 (xok9 h9 (eV h9 (by omega)) (eV h9 (by omega)) (eV h9 (by omega)) (eV h9 (by omega)) (eV h9 (by omega)) (eV h9 (by omega)) (eV h9 (by omega)) (eV h9 (by omega)) (eV h9 (by omega))) (BOKc (bV h9 (by omega) (by omega) (by omega)) (BOKc (bO h9 hop (by omega) (by omega) (by omega)) BOKn))
theorem lop_4 (h9 : dLen D = 9) (hop : dScr D 3 &&& nI 31 = nI 4) : sm D 0 61 (dL D (rh D) (sg D) lvL) [] (hD D (rh D) (sg D) h0 hp3) 273 54730 (fun v _ => v = some (.int (nI 1))) := by
  have i4 := i32_b (dScr D 4)
  rcases rng 2 (dScr D 4) (by omega) with ⟨n4, hn4, q4⟩ | b4 | b4
  · rcases (show n4 = 0 ∨ n4 = 1 by omega) with rfl | rfl
    · have i5 := i32_b (dScr D 5)
      rcases rng 5 (dScr D 5) (by omega) with ⟨n5, hn5, q5⟩ | b5 | b5
      · rcases (show n5 = 0 ∨ n5 = 1 ∨ n5 = 2 ∨ n5 = 3 ∨ n5 = 4 by omega) with rfl | rfl | rfl | rfl | rfl
        · have b5 : (dScr D 5).toInt ≤ 0 := by rw [q5]; decide
          exact use_run run_4_2 (xok9 h9 (eV h9 (by omega)) (eV h9 (by omega)) (eV h9 (by omega)) (eV h9 (by omega)) (eK q4) (eV h9 (by omega)) (eV h9 (by omega)) (eV h9 (by omega)) (eV h9 (by omega))) (BOKc (bV h9 (by omega) (by omega) (by omega)) (BOKc (bO h9 hop (by omega) (by omega) (by omega)) BOKn))
        · exact use_run run_4_4 (xok9 h9 (eV h9 (by omega)) (eV h9 (by omega)) (eV h9 (by omega)) (eV h9 (by omega)) (eK q4) (eK q5) (eV h9 (by omega)) (eV h9 (by omega)) (eV h9 (by omega))) (BOKc (bO h9 hop (by omega) (by omega) (by omega)) BOKn)
        · exact use_run run_4_5 (xok9 h9 (eV h9 (by omega)) (eV h9 (by omega)) (eV h9 (by omega)) (eV h9 (by omega)) (eK q4) (eK q5) (eV h9 (by omega)) (eV h9 (by omega)) (eV h9 (by omega))) (BOKc (bO h9 hop (by omega) (by omega) (by omega)) BOKn)
        · exact use_run run_4_6 (xok9 h9 (eV h9 (by omega)) (eV h9 (by omega)) (eV h9 (by omega)) (eV h9 (by omega)) (eK q4) (eK q5) (eV h9 (by omega)) (eV h9 (by omega)) (eV h9 (by omega))) (BOKc (bO h9 hop (by omega) (by omega) (by omega)) BOKn)
        · exact use_run run_4_7 (xok9 h9 (eV h9 (by omega)) (eV h9 (by omega)) (eV h9 (by omega)) (eV h9 (by omega)) (eK q4) (eK q5) (eV h9 (by omega)) (eV h9 (by omega)) (eV h9 (by omega))) (BOKc (bO h9 hop (by omega) (by omega) (by omega)) BOKn)
      · exact use_run run_4_2 (xok9 h9 (eV h9 (by omega)) (eV h9 (by omega)) (eV h9 (by omega)) (eV h9 (by omega)) (eK q4) (eV h9 (by omega)) (eV h9 (by omega)) (eV h9 (by omega)) (eV h9 (by omega))) (BOKc (bV h9 (by omega) (by omega) (by omega)) (BOKc (bO h9 hop (by omega) (by omega) (by omega)) BOKn))
      · exact use_run run_4_3 (xok9 h9 (eV h9 (by omega)) (eV h9 (by omega)) (eV h9 (by omega)) (eV h9 (by omega)) (eK q4) (eV h9 (by omega)) (eV h9 (by omega)) (eV h9 (by omega)) (eV h9 (by omega))) (BOKc (bV h9 (by omega) (by omega) (by omega)) (BOKc (bO h9 hop (by omega) (by omega) (by omega)) BOKn))
    · have i5 := i32_b (dScr D 5)
      rcases rng 5 (dScr D 5) (by omega) with ⟨n5, hn5, q5⟩ | b5 | b5
      · rcases (show n5 = 0 ∨ n5 = 1 ∨ n5 = 2 ∨ n5 = 3 ∨ n5 = 4 by omega) with rfl | rfl | rfl | rfl | rfl
        · have b5 : (dScr D 5).toInt ≤ 0 := by rw [q5]; decide
          exact use_run run_4_8 (xok9 h9 (eV h9 (by omega)) (eV h9 (by omega)) (eV h9 (by omega)) (eV h9 (by omega)) (eK q4) (eV h9 (by omega)) (eV h9 (by omega)) (eV h9 (by omega)) (eV h9 (by omega))) (BOKc (bV h9 (by omega) (by omega) (by omega)) (BOKc (bO h9 hop (by omega) (by omega) (by omega)) BOKn))
        · exact use_run run_4_10 (xok9 h9 (eV h9 (by omega)) (eV h9 (by omega)) (eV h9 (by omega)) (eV h9 (by omega)) (eK q4) (eK q5) (eV h9 (by omega)) (eV h9 (by omega)) (eV h9 (by omega))) (BOKc (bO h9 hop (by omega) (by omega) (by omega)) BOKn)
        · exact use_run run_4_11 (xok9 h9 (eV h9 (by omega)) (eV h9 (by omega)) (eV h9 (by omega)) (eV h9 (by omega)) (eK q4) (eK q5) (eV h9 (by omega)) (eV h9 (by omega)) (eV h9 (by omega))) (BOKc (bO h9 hop (by omega) (by omega) (by omega)) BOKn)
        · exact use_run run_4_12 (xok9 h9 (eV h9 (by omega)) (eV h9 (by omega)) (eV h9 (by omega)) (eV h9 (by omega)) (eK q4) (eK q5) (eV h9 (by omega)) (eV h9 (by omega)) (eV h9 (by omega))) (BOKc (bO h9 hop (by omega) (by omega) (by omega)) BOKn)
        · exact use_run run_4_13 (xok9 h9 (eV h9 (by omega)) (eV h9 (by omega)) (eV h9 (by omega)) (eV h9 (by omega)) (eK q4) (eK q5) (eV h9 (by omega)) (eV h9 (by omega)) (eV h9 (by omega))) (BOKc (bO h9 hop (by omega) (by omega) (by omega)) BOKn)
      · exact use_run run_4_8 (xok9 h9 (eV h9 (by omega)) (eV h9 (by omega)) (eV h9 (by omega)) (eV h9 (by omega)) (eK q4) (eV h9 (by omega)) (eV h9 (by omega)) (eV h9 (by omega)) (eV h9 (by omega))) (BOKc (bV h9 (by omega) (by omega) (by omega)) (BOKc (bO h9 hop (by omega) (by omega) (by omega)) BOKn))
      · exact use_run run_4_9 (xok9 h9 (eV h9 (by omega)) (eV h9 (by omega)) (eV h9 (by omega)) (eV h9 (by omega)) (eK q4) (eV h9 (by omega)) (eV h9 (by omega)) (eV h9 (by omega)) (eV h9 (by omega))) (BOKc (bV h9 (by omega) (by omega) (by omega)) (BOKc (bO h9 hop (by omega) (by omega) (by omega)) BOKn))
  · exact use_run run_4_0 (xok9 h9 (eV h9 (by omega)) (eV h9 (by omega)) (eV h9 (by omega)) (eV h9 (by omega)) (eV h9 (by omega)) (eV h9 (by omega)) (eV h9 (by omega)) (eV h9 (by omega)) (eV h9 (by omega))) (BOKc (bV h9 (by omega) (by omega) (by omega)) (BOKc (bO h9 hop (by omega) (by omega) (by omega)) BOKn))
  · exact use_run run_4_1 (xok9 h9 (eV h9 (by omega)) (eV h9 (by omega)) (eV h9 (by omega)) (eV h9 (by omega)) (eV h9 (by omega)) (eV h9 (by omega)) (eV h9 (by omega)) (eV h9 (by omega)) (eV h9 (by omega))) (BOKc (bV h9 (by omega) (by omega) (by omega)) (BOKc (bO h9 hop (by omega) (by omega) (by omega)) BOKn))
theorem lop_5 (h9 : dLen D = 9) (hop : dScr D 3 &&& nI 31 = nI 5) : sm D 0 61 (dL D (rh D) (sg D) lvL) [] (hD D (rh D) (sg D) h0 hp3) 273 54730 (fun v _ => v = some (.int (nI 1))) := by
  have i4 := i32_b (dScr D 4)
  by_cases b1 : (dScr D 4).toInt ≤ 0
  · exact use_run run_5_0 (xok9 h9 (eV h9 (by omega)) (eV h9 (by omega)) (eV h9 (by omega)) (eV h9 (by omega)) (eV h9 (by omega)) (eV h9 (by omega)) (eV h9 (by omega)) (eV h9 (by omega)) (eV h9 (by omega))) (BOKc (bV h9 (by omega) (by omega) (by omega)) (BOKc (bO h9 hop (by omega) (by omega) (by omega)) BOKn))
  · by_cases b2 : (dScr D 4).toInt ≤ 50
    · obtain ⟨l, e, hl⟩ := allOne_ok run_tick
      have r4 : rh D 4 = dScr D 4 := rh_j h9 (by omega)
      have k := ax_ok (D := D) (ρ := rh D) (σ := (sg D)) (h0 := h0) (axS5_ok rfl (by rw [r4]; omega) (by rw [r4]; omega)) axC_ok (xok9 h9 (eV h9 (by omega)) (eV h9 (by omega)) (eV h9 (by omega)) (eV h9 (by omega)) (eV h9 (by omega)) (eV h9 (by omega)) (eV h9 (by omega)) (eV h9 (by omega)) (eV h9 (by omega))) 60000 cs_tick.2 0 mr_L_law 61 lvL [] hp3 273 54730 l (BOKc (bV h9 (by omega) (by omega) (by omega)) (BOKc (bO h9 hop (by omega) (by omega) (by omega)) BOKn)) mo_L_law e
      refine sm.mono k ?_
      rintro v h' ⟨o, ho, -, hv, -⟩
      rw [hv, hl o ho]
      rfl
    · exact use_run run_5_1 (xok9 h9 (eV h9 (by omega)) (eV h9 (by omega)) (eV h9 (by omega)) (eV h9 (by omega)) (eV h9 (by omega)) (eV h9 (by omega)) (eV h9 (by omega)) (eV h9 (by omega)) (eV h9 (by omega))) (BOKc (bV h9 (by omega) (by omega) (by omega)) (BOKc (bO h9 hop (by omega) (by omega) (by omega)) BOKn))
theorem lop_6 (h9 : dLen D = 9) (hop : dScr D 3 &&& nI 31 = nI 6) : sm D 0 61 (dL D (rh D) (sg D) lvL) [] (hD D (rh D) (sg D) h0 hp3) 273 54730 (fun v _ => v = some (.int (nI 1))) := by
  exact use_run run_6_0 (xok9 h9 (eV h9 (by omega)) (eV h9 (by omega)) (eV h9 (by omega)) (eV h9 (by omega)) (eV h9 (by omega)) (eV h9 (by omega)) (eV h9 (by omega)) (eV h9 (by omega)) (eV h9 (by omega))) (BOKc (bO h9 hop (by omega) (by omega) (by omega)) BOKn)
theorem lop_7 (h9 : dLen D = 9) (hop : dScr D 3 &&& nI 31 = nI 7) : sm D 0 61 (dL D (rh D) (sg D) lvL) [] (hD D (rh D) (sg D) h0 hp3) 273 54730 (fun v _ => v = some (.int (nI 1))) := by
  exact use_run run_7_0 (xok9 h9 (eV h9 (by omega)) (eV h9 (by omega)) (eV h9 (by omega)) (eV h9 (by omega)) (eV h9 (by omega)) (eV h9 (by omega)) (eV h9 (by omega)) (eV h9 (by omega)) (eV h9 (by omega))) (BOKc (bO h9 hop (by omega) (by omega) (by omega)) BOKn)
theorem lop_8 (h9 : dLen D = 9) (hop : dScr D 3 &&& nI 31 = nI 8) : sm D 0 61 (dL D (rh D) (sg D) lvL) [] (hD D (rh D) (sg D) h0 hp3) 273 54730 (fun v _ => v = some (.int (nI 1))) := by
  exact use_run run_8_0 (xok9 h9 (eV h9 (by omega)) (eV h9 (by omega)) (eV h9 (by omega)) (eV h9 (by omega)) (eV h9 (by omega)) (eV h9 (by omega)) (eV h9 (by omega)) (eV h9 (by omega)) (eV h9 (by omega))) (BOKc (bO h9 hop (by omega) (by omega) (by omega)) BOKn)
theorem lop_9 (h9 : dLen D = 9) (hop : dScr D 3 &&& nI 31 = nI 9) : sm D 0 61 (dL D (rh D) (sg D) lvL) [] (hD D (rh D) (sg D) h0 hp3) 273 54730 (fun v _ => v = some (.int (nI 1))) := by
  exact use_run run_9_0 (xok9 h9 (eV h9 (by omega)) (eV h9 (by omega)) (eV h9 (by omega)) (eV h9 (by omega)) (eV h9 (by omega)) (eV h9 (by omega)) (eV h9 (by omega)) (eV h9 (by omega)) (eV h9 (by omega))) (BOKc (bO h9 hop (by omega) (by omega) (by omega)) BOKn)
theorem lop_10 (h9 : dLen D = 9) (hop : dScr D 3 &&& nI 31 = nI 10) : sm D 0 61 (dL D (rh D) (sg D) lvL) [] (hD D (rh D) (sg D) h0 hp3) 273 54730 (fun v _ => v = some (.int (nI 1))) := by
  exact use_run run_10_0 (xok9 h9 (eV h9 (by omega)) (eV h9 (by omega)) (eV h9 (by omega)) (eV h9 (by omega)) (eV h9 (by omega)) (eV h9 (by omega)) (eV h9 (by omega)) (eV h9 (by omega)) (eV h9 (by omega))) (BOKc (bO h9 hop (by omega) (by omega) (by omega)) BOKn)
theorem lop_11 (h9 : dLen D = 9) (hop : dScr D 3 &&& nI 31 = nI 11) : sm D 0 61 (dL D (rh D) (sg D) lvL) [] (hD D (rh D) (sg D) h0 hp3) 273 54730 (fun v _ => v = some (.int (nI 1))) := by
  have i4 := i32_b (dScr D 4)
  rcases rng 2 (dScr D 4) (by omega) with ⟨n4, hn4, q4⟩ | b4 | b4
  · rcases (show n4 = 0 ∨ n4 = 1 by omega) with rfl | rfl
    · have i5 := i32_b (dScr D 5)
      rcases rng 1 (dScr D 5) (by omega) with ⟨n5, hn5, q5⟩ | b5 | b5
      · obtain rfl : n5 = 0 := by omega
        exact use_run run_11_2 (xok9 h9 (eV h9 (by omega)) (eV h9 (by omega)) (eV h9 (by omega)) (eV h9 (by omega)) (eK q4) (eK q5) (eV h9 (by omega)) (eV h9 (by omega)) (eV h9 (by omega))) (BOKc (bO h9 hop (by omega) (by omega) (by omega)) BOKn)
      · exact use_run run_11_3 (xok9 h9 (eV h9 (by omega)) (eV h9 (by omega)) (eV h9 (by omega)) (eV h9 (by omega)) (eK q4) (eV h9 (by omega)) (eV h9 (by omega)) (eV h9 (by omega)) (eV h9 (by omega))) (BOKc (bV h9 (by omega) (by omega) (by omega)) (BOKc (bO h9 hop (by omega) (by omega) (by omega)) BOKn))
      · exact use_run run_11_4 (xok9 h9 (eV h9 (by omega)) (eV h9 (by omega)) (eV h9 (by omega)) (eV h9 (by omega)) (eK q4) (eV h9 (by omega)) (eV h9 (by omega)) (eV h9 (by omega)) (eV h9 (by omega))) (BOKc (bV h9 (by omega) (by omega) (by omega)) (BOKc (bO h9 hop (by omega) (by omega) (by omega)) BOKn))
    · have i5 := i32_b (dScr D 5)
      rcases rng 1 (dScr D 5) (by omega) with ⟨n5, hn5, q5⟩ | b5 | b5
      · obtain rfl : n5 = 0 := by omega
        exact use_run run_11_5 (xok9 h9 (eV h9 (by omega)) (eV h9 (by omega)) (eV h9 (by omega)) (eV h9 (by omega)) (eK q4) (eK q5) (eV h9 (by omega)) (eV h9 (by omega)) (eV h9 (by omega))) (BOKc (bO h9 hop (by omega) (by omega) (by omega)) BOKn)
      · exact use_run run_11_6 (xok9 h9 (eV h9 (by omega)) (eV h9 (by omega)) (eV h9 (by omega)) (eV h9 (by omega)) (eK q4) (eV h9 (by omega)) (eV h9 (by omega)) (eV h9 (by omega)) (eV h9 (by omega))) (BOKc (bV h9 (by omega) (by omega) (by omega)) (BOKc (bO h9 hop (by omega) (by omega) (by omega)) BOKn))
      · exact use_run run_11_7 (xok9 h9 (eV h9 (by omega)) (eV h9 (by omega)) (eV h9 (by omega)) (eV h9 (by omega)) (eK q4) (eV h9 (by omega)) (eV h9 (by omega)) (eV h9 (by omega)) (eV h9 (by omega))) (BOKc (bV h9 (by omega) (by omega) (by omega)) (BOKc (bO h9 hop (by omega) (by omega) (by omega)) BOKn))
  · exact use_run run_11_0 (xok9 h9 (eV h9 (by omega)) (eV h9 (by omega)) (eV h9 (by omega)) (eV h9 (by omega)) (eV h9 (by omega)) (eV h9 (by omega)) (eV h9 (by omega)) (eV h9 (by omega)) (eV h9 (by omega))) (BOKc (bV h9 (by omega) (by omega) (by omega)) (BOKc (bO h9 hop (by omega) (by omega) (by omega)) BOKn))
  · exact use_run run_11_1 (xok9 h9 (eV h9 (by omega)) (eV h9 (by omega)) (eV h9 (by omega)) (eV h9 (by omega)) (eV h9 (by omega)) (eV h9 (by omega)) (eV h9 (by omega)) (eV h9 (by omega)) (eV h9 (by omega))) (BOKc (bV h9 (by omega) (by omega) (by omega)) (BOKc (bO h9 hop (by omega) (by omega) (by omega)) BOKn))
theorem lop_12 (h9 : dLen D = 9) (hop : dScr D 3 &&& nI 31 = nI 12) : sm D 0 61 (dL D (rh D) (sg D) lvL) [] (hD D (rh D) (sg D) h0 hp3) 273 54730 (fun v _ => v = some (.int (nI 1))) := by
  exact use_run run_12_0 (xok9 h9 (eV h9 (by omega)) (eV h9 (by omega)) (eV h9 (by omega)) (eV h9 (by omega)) (eV h9 (by omega)) (eV h9 (by omega)) (eV h9 (by omega)) (eV h9 (by omega)) (eV h9 (by omega))) (BOKc (bO h9 hop (by omega) (by omega) (by omega)) BOKn)
theorem lop_13 (h9 : dLen D = 9) (hop : dScr D 3 &&& nI 31 = nI 13) : sm D 0 61 (dL D (rh D) (sg D) lvL) [] (hD D (rh D) (sg D) h0 hp3) 273 54730 (fun v _ => v = some (.int (nI 1))) := by
  exact use_run run_13_0 (xok9 h9 (eV h9 (by omega)) (eV h9 (by omega)) (eV h9 (by omega)) (eV h9 (by omega)) (eV h9 (by omega)) (eV h9 (by omega)) (eV h9 (by omega)) (eV h9 (by omega)) (eV h9 (by omega))) (BOKc (bO h9 hop (by omega) (by omega) (by omega)) BOKn)
theorem lop_14 (h9 : dLen D = 9) (hop : dScr D 3 &&& nI 31 = nI 14) : sm D 0 61 (dL D (rh D) (sg D) lvL) [] (hD D (rh D) (sg D) h0 hp3) 273 54730 (fun v _ => v = some (.int (nI 1))) := by
  exact use_run run_14_0 (xok9 h9 (eV h9 (by omega)) (eV h9 (by omega)) (eV h9 (by omega)) (eV h9 (by omega)) (eV h9 (by omega)) (eV h9 (by omega)) (eV h9 (by omega)) (eV h9 (by omega)) (eV h9 (by omega))) (BOKc (bO h9 hop (by omega) (by omega) (by omega)) BOKn)
theorem lop_15 (h9 : dLen D = 9) (hop : dScr D 3 &&& nI 31 = nI 15) : sm D 0 61 (dL D (rh D) (sg D) lvL) [] (hD D (rh D) (sg D) h0 hp3) 273 54730 (fun v _ => v = some (.int (nI 1))) := by
  have i4 := i32_b (dScr D 4)
  rcases rng 2 (dScr D 4) (by omega) with ⟨n4, hn4, q4⟩ | b4 | b4
  · rcases (show n4 = 0 ∨ n4 = 1 by omega) with rfl | rfl
    · exact use_run run_15_0 (xok9 h9 (eV h9 (by omega)) (eV h9 (by omega)) (eV h9 (by omega)) (eV h9 (by omega)) (eK q4) (eV h9 (by omega)) (eV h9 (by omega)) (eV h9 (by omega)) (eV h9 (by omega))) (BOKc (bO h9 hop (by omega) (by omega) (by omega)) BOKn)
    · exact use_run run_15_1 (xok9 h9 (eV h9 (by omega)) (eV h9 (by omega)) (eV h9 (by omega)) (eV h9 (by omega)) (eK q4) (eV h9 (by omega)) (eV h9 (by omega)) (eV h9 (by omega)) (eV h9 (by omega))) (BOKc (bO h9 hop (by omega) (by omega) (by omega)) BOKn)
  · exact use_run run_15_2 (xok9 h9 (eV h9 (by omega)) (eV h9 (by omega)) (eV h9 (by omega)) (eV h9 (by omega)) (eV h9 (by omega)) (eV h9 (by omega)) (eV h9 (by omega)) (eV h9 (by omega)) (eV h9 (by omega))) (BOKc (bV h9 (by omega) (by omega) (by omega)) (BOKc (bO h9 hop (by omega) (by omega) (by omega)) BOKn))
  · exact use_run run_15_3 (xok9 h9 (eV h9 (by omega)) (eV h9 (by omega)) (eV h9 (by omega)) (eV h9 (by omega)) (eV h9 (by omega)) (eV h9 (by omega)) (eV h9 (by omega)) (eV h9 (by omega)) (eV h9 (by omega))) (BOKc (bV h9 (by omega) (by omega) (by omega)) (BOKc (bO h9 hop (by omega) (by omega) (by omega)) BOKn))
theorem lop_16 (h9 : dLen D = 9) (hop : dScr D 3 &&& nI 31 = nI 16) : sm D 0 61 (dL D (rh D) (sg D) lvL) [] (hD D (rh D) (sg D) h0 hp3) 273 54730 (fun v _ => v = some (.int (nI 1))) := by
  have i4 := i32_b (dScr D 4)
  rcases rng 2 (dScr D 4) (by omega) with ⟨n4, hn4, q4⟩ | b4 | b4
  · rcases (show n4 = 0 ∨ n4 = 1 by omega) with rfl | rfl
    · have i5 := i32_b (dScr D 5)
      rcases rng 6 (dScr D 5) (by omega) with ⟨n5, hn5, q5⟩ | b5 | b5
      · rcases (show n5 = 0 ∨ n5 = 1 ∨ n5 = 2 ∨ n5 = 3 ∨ n5 = 4 ∨ n5 = 5 by omega) with rfl | rfl | rfl | rfl | rfl | rfl
        · exact use_run run_16_2 (xok9 h9 (eV h9 (by omega)) (eV h9 (by omega)) (eV h9 (by omega)) (eV h9 (by omega)) (eK q4) (eK q5) (eV h9 (by omega)) (eV h9 (by omega)) (eV h9 (by omega))) (BOKc (bO h9 hop (by omega) (by omega) (by omega)) BOKn)
        · exact use_run run_16_3 (xok9 h9 (eV h9 (by omega)) (eV h9 (by omega)) (eV h9 (by omega)) (eV h9 (by omega)) (eK q4) (eK q5) (eV h9 (by omega)) (eV h9 (by omega)) (eV h9 (by omega))) (BOKc (bO h9 hop (by omega) (by omega) (by omega)) BOKn)
        · exact use_run run_16_4 (xok9 h9 (eV h9 (by omega)) (eV h9 (by omega)) (eV h9 (by omega)) (eV h9 (by omega)) (eK q4) (eK q5) (eV h9 (by omega)) (eV h9 (by omega)) (eV h9 (by omega))) (BOKc (bO h9 hop (by omega) (by omega) (by omega)) BOKn)
        · exact use_run run_16_5 (xok9 h9 (eV h9 (by omega)) (eV h9 (by omega)) (eV h9 (by omega)) (eV h9 (by omega)) (eK q4) (eK q5) (eV h9 (by omega)) (eV h9 (by omega)) (eV h9 (by omega))) (BOKc (bO h9 hop (by omega) (by omega) (by omega)) BOKn)
        · exact use_run run_16_6 (xok9 h9 (eV h9 (by omega)) (eV h9 (by omega)) (eV h9 (by omega)) (eV h9 (by omega)) (eK q4) (eK q5) (eV h9 (by omega)) (eV h9 (by omega)) (eV h9 (by omega))) (BOKc (bO h9 hop (by omega) (by omega) (by omega)) BOKn)
        · exact use_run run_16_7 (xok9 h9 (eV h9 (by omega)) (eV h9 (by omega)) (eV h9 (by omega)) (eV h9 (by omega)) (eK q4) (eK q5) (eV h9 (by omega)) (eV h9 (by omega)) (eV h9 (by omega))) (BOKc (bO h9 hop (by omega) (by omega) (by omega)) BOKn)
      · exact use_run run_16_8 (xok9 h9 (eV h9 (by omega)) (eV h9 (by omega)) (eV h9 (by omega)) (eV h9 (by omega)) (eK q4) (eV h9 (by omega)) (eV h9 (by omega)) (eV h9 (by omega)) (eV h9 (by omega))) (BOKc (bV h9 (by omega) (by omega) (by omega)) (BOKc (bO h9 hop (by omega) (by omega) (by omega)) BOKn))
      · exact use_run run_16_9 (xok9 h9 (eV h9 (by omega)) (eV h9 (by omega)) (eV h9 (by omega)) (eV h9 (by omega)) (eK q4) (eV h9 (by omega)) (eV h9 (by omega)) (eV h9 (by omega)) (eV h9 (by omega))) (BOKc (bV h9 (by omega) (by omega) (by omega)) (BOKc (bO h9 hop (by omega) (by omega) (by omega)) BOKn))
    · have i5 := i32_b (dScr D 5)
      rcases rng 6 (dScr D 5) (by omega) with ⟨n5, hn5, q5⟩ | b5 | b5
      · rcases (show n5 = 0 ∨ n5 = 1 ∨ n5 = 2 ∨ n5 = 3 ∨ n5 = 4 ∨ n5 = 5 by omega) with rfl | rfl | rfl | rfl | rfl | rfl
        · exact use_run run_16_10 (xok9 h9 (eV h9 (by omega)) (eV h9 (by omega)) (eV h9 (by omega)) (eV h9 (by omega)) (eK q4) (eK q5) (eV h9 (by omega)) (eV h9 (by omega)) (eV h9 (by omega))) (BOKc (bO h9 hop (by omega) (by omega) (by omega)) BOKn)
        · exact use_run run_16_11 (xok9 h9 (eV h9 (by omega)) (eV h9 (by omega)) (eV h9 (by omega)) (eV h9 (by omega)) (eK q4) (eK q5) (eV h9 (by omega)) (eV h9 (by omega)) (eV h9 (by omega))) (BOKc (bO h9 hop (by omega) (by omega) (by omega)) BOKn)
        · exact use_run run_16_12 (xok9 h9 (eV h9 (by omega)) (eV h9 (by omega)) (eV h9 (by omega)) (eV h9 (by omega)) (eK q4) (eK q5) (eV h9 (by omega)) (eV h9 (by omega)) (eV h9 (by omega))) (BOKc (bO h9 hop (by omega) (by omega) (by omega)) BOKn)
        · exact use_run run_16_13 (xok9 h9 (eV h9 (by omega)) (eV h9 (by omega)) (eV h9 (by omega)) (eV h9 (by omega)) (eK q4) (eK q5) (eV h9 (by omega)) (eV h9 (by omega)) (eV h9 (by omega))) (BOKc (bO h9 hop (by omega) (by omega) (by omega)) BOKn)
        · exact use_run run_16_14 (xok9 h9 (eV h9 (by omega)) (eV h9 (by omega)) (eV h9 (by omega)) (eV h9 (by omega)) (eK q4) (eK q5) (eV h9 (by omega)) (eV h9 (by omega)) (eV h9 (by omega))) (BOKc (bO h9 hop (by omega) (by omega) (by omega)) BOKn)
        · exact use_run run_16_15 (xok9 h9 (eV h9 (by omega)) (eV h9 (by omega)) (eV h9 (by omega)) (eV h9 (by omega)) (eK q4) (eK q5) (eV h9 (by omega)) (eV h9 (by omega)) (eV h9 (by omega))) (BOKc (bO h9 hop (by omega) (by omega) (by omega)) BOKn)
      · exact use_run run_16_16 (xok9 h9 (eV h9 (by omega)) (eV h9 (by omega)) (eV h9 (by omega)) (eV h9 (by omega)) (eK q4) (eV h9 (by omega)) (eV h9 (by omega)) (eV h9 (by omega)) (eV h9 (by omega))) (BOKc (bV h9 (by omega) (by omega) (by omega)) (BOKc (bO h9 hop (by omega) (by omega) (by omega)) BOKn))
      · exact use_run run_16_17 (xok9 h9 (eV h9 (by omega)) (eV h9 (by omega)) (eV h9 (by omega)) (eV h9 (by omega)) (eK q4) (eV h9 (by omega)) (eV h9 (by omega)) (eV h9 (by omega)) (eV h9 (by omega))) (BOKc (bV h9 (by omega) (by omega) (by omega)) (BOKc (bO h9 hop (by omega) (by omega) (by omega)) BOKn))
  · exact use_run run_16_0 (xok9 h9 (eV h9 (by omega)) (eV h9 (by omega)) (eV h9 (by omega)) (eV h9 (by omega)) (eV h9 (by omega)) (eV h9 (by omega)) (eV h9 (by omega)) (eV h9 (by omega)) (eV h9 (by omega))) (BOKc (bV h9 (by omega) (by omega) (by omega)) (BOKc (bO h9 hop (by omega) (by omega) (by omega)) BOKn))
  · exact use_run run_16_1 (xok9 h9 (eV h9 (by omega)) (eV h9 (by omega)) (eV h9 (by omega)) (eV h9 (by omega)) (eV h9 (by omega)) (eV h9 (by omega)) (eV h9 (by omega)) (eV h9 (by omega)) (eV h9 (by omega))) (BOKc (bV h9 (by omega) (by omega) (by omega)) (BOKc (bO h9 hop (by omega) (by omega) (by omega)) BOKn))
theorem lop_17 (h9 : dLen D = 9) (hop : dScr D 3 &&& nI 31 = nI 17) : sm D 0 61 (dL D (rh D) (sg D) lvL) [] (hD D (rh D) (sg D) h0 hp3) 273 54730 (fun v _ => v = some (.int (nI 1))) := by
  have i4 := i32_b (dScr D 4)
  rcases rng 2 (dScr D 4) (by omega) with ⟨n4, hn4, q4⟩ | b4 | b4
  · rcases (show n4 = 0 ∨ n4 = 1 by omega) with rfl | rfl
    · have i5 := i32_b (dScr D 5)
      rcases rng 5 (dScr D 5) (by omega) with ⟨n5, hn5, q5⟩ | b5 | b5
      · rcases (show n5 = 0 ∨ n5 = 1 ∨ n5 = 2 ∨ n5 = 3 ∨ n5 = 4 by omega) with rfl | rfl | rfl | rfl | rfl
        · have b5 : (dScr D 5).toInt ≤ 0 := by rw [q5]; decide
          exact use_run run_17_2 (xok9 h9 (eV h9 (by omega)) (eV h9 (by omega)) (eV h9 (by omega)) (eV h9 (by omega)) (eK q4) (eV h9 (by omega)) (eV h9 (by omega)) (eV h9 (by omega)) (eV h9 (by omega))) (BOKc (bV h9 (by omega) (by omega) (by omega)) (BOKc (bO h9 hop (by omega) (by omega) (by omega)) BOKn))
        · have i7 := i32_b (dScr D 7)
          rcases rng 6 (dScr D 7) (by omega) with ⟨n7, hn7, q7⟩ | b7 | b7
          · rcases (show n7 = 0 ∨ n7 = 1 ∨ n7 = 2 ∨ n7 = 3 ∨ n7 = 4 ∨ n7 = 5 by omega) with rfl | rfl | rfl | rfl | rfl | rfl
            · exact use_run run_17_4 (xok9 h9 (eV h9 (by omega)) (eV h9 (by omega)) (eV h9 (by omega)) (eV h9 (by omega)) (eK q4) (eK q5) (eV h9 (by omega)) (eK q7) (eV h9 (by omega))) (BOKc (bO h9 hop (by omega) (by omega) (by omega)) BOKn)
            · exact use_run run_17_5 (xok9 h9 (eV h9 (by omega)) (eV h9 (by omega)) (eV h9 (by omega)) (eV h9 (by omega)) (eK q4) (eK q5) (eV h9 (by omega)) (eK q7) (eV h9 (by omega))) (BOKc (bO h9 hop (by omega) (by omega) (by omega)) BOKn)
            · exact use_run run_17_6 (xok9 h9 (eV h9 (by omega)) (eV h9 (by omega)) (eV h9 (by omega)) (eV h9 (by omega)) (eK q4) (eK q5) (eV h9 (by omega)) (eK q7) (eV h9 (by omega))) (BOKc (bO h9 hop (by omega) (by omega) (by omega)) BOKn)
            · exact use_run run_17_7 (xok9 h9 (eV h9 (by omega)) (eV h9 (by omega)) (eV h9 (by omega)) (eV h9 (by omega)) (eK q4) (eK q5) (eV h9 (by omega)) (eK q7) (eV h9 (by omega))) (BOKc (bO h9 hop (by omega) (by omega) (by omega)) BOKn)
            · exact use_run run_17_8 (xok9 h9 (eV h9 (by omega)) (eV h9 (by omega)) (eV h9 (by omega)) (eV h9 (by omega)) (eK q4) (eK q5) (eV h9 (by omega)) (eK q7) (eV h9 (by omega))) (BOKc (bO h9 hop (by omega) (by omega) (by omega)) BOKn)
            · exact use_run run_17_9 (xok9 h9 (eV h9 (by omega)) (eV h9 (by omega)) (eV h9 (by omega)) (eV h9 (by omega)) (eK q4) (eK q5) (eV h9 (by omega)) (eK q7) (eV h9 (by omega))) (BOKc (bO h9 hop (by omega) (by omega) (by omega)) BOKn)
          · exact use_run run_17_10 (xok9 h9 (eV h9 (by omega)) (eV h9 (by omega)) (eV h9 (by omega)) (eV h9 (by omega)) (eK q4) (eK q5) (eV h9 (by omega)) (eV h9 (by omega)) (eV h9 (by omega))) (BOKc (bV h9 (by omega) (by omega) (by omega)) (BOKc (bO h9 hop (by omega) (by omega) (by omega)) BOKn))
          · exact use_run run_17_11 (xok9 h9 (eV h9 (by omega)) (eV h9 (by omega)) (eV h9 (by omega)) (eV h9 (by omega)) (eK q4) (eK q5) (eV h9 (by omega)) (eV h9 (by omega)) (eV h9 (by omega))) (BOKc (bV h9 (by omega) (by omega) (by omega)) (BOKc (bO h9 hop (by omega) (by omega) (by omega)) BOKn))
        · have i7 := i32_b (dScr D 7)
          rcases rng 6 (dScr D 7) (by omega) with ⟨n7, hn7, q7⟩ | b7 | b7
          · rcases (show n7 = 0 ∨ n7 = 1 ∨ n7 = 2 ∨ n7 = 3 ∨ n7 = 4 ∨ n7 = 5 by omega) with rfl | rfl | rfl | rfl | rfl | rfl
            · exact use_run run_17_12 (xok9 h9 (eV h9 (by omega)) (eV h9 (by omega)) (eV h9 (by omega)) (eV h9 (by omega)) (eK q4) (eK q5) (eV h9 (by omega)) (eK q7) (eV h9 (by omega))) (BOKc (bO h9 hop (by omega) (by omega) (by omega)) BOKn)
            · exact use_run run_17_13 (xok9 h9 (eV h9 (by omega)) (eV h9 (by omega)) (eV h9 (by omega)) (eV h9 (by omega)) (eK q4) (eK q5) (eV h9 (by omega)) (eK q7) (eV h9 (by omega))) (BOKc (bO h9 hop (by omega) (by omega) (by omega)) BOKn)
            · exact use_run run_17_14 (xok9 h9 (eV h9 (by omega)) (eV h9 (by omega)) (eV h9 (by omega)) (eV h9 (by omega)) (eK q4) (eK q5) (eV h9 (by omega)) (eK q7) (eV h9 (by omega))) (BOKc (bO h9 hop (by omega) (by omega) (by omega)) BOKn)
            · exact use_run run_17_15 (xok9 h9 (eV h9 (by omega)) (eV h9 (by omega)) (eV h9 (by omega)) (eV h9 (by omega)) (eK q4) (eK q5) (eV h9 (by omega)) (eK q7) (eV h9 (by omega))) (BOKc (bO h9 hop (by omega) (by omega) (by omega)) BOKn)
            · exact use_run run_17_16 (xok9 h9 (eV h9 (by omega)) (eV h9 (by omega)) (eV h9 (by omega)) (eV h9 (by omega)) (eK q4) (eK q5) (eV h9 (by omega)) (eK q7) (eV h9 (by omega))) (BOKc (bO h9 hop (by omega) (by omega) (by omega)) BOKn)
            · exact use_run run_17_17 (xok9 h9 (eV h9 (by omega)) (eV h9 (by omega)) (eV h9 (by omega)) (eV h9 (by omega)) (eK q4) (eK q5) (eV h9 (by omega)) (eK q7) (eV h9 (by omega))) (BOKc (bO h9 hop (by omega) (by omega) (by omega)) BOKn)
          · exact use_run run_17_18 (xok9 h9 (eV h9 (by omega)) (eV h9 (by omega)) (eV h9 (by omega)) (eV h9 (by omega)) (eK q4) (eK q5) (eV h9 (by omega)) (eV h9 (by omega)) (eV h9 (by omega))) (BOKc (bV h9 (by omega) (by omega) (by omega)) (BOKc (bO h9 hop (by omega) (by omega) (by omega)) BOKn))
          · exact use_run run_17_19 (xok9 h9 (eV h9 (by omega)) (eV h9 (by omega)) (eV h9 (by omega)) (eV h9 (by omega)) (eK q4) (eK q5) (eV h9 (by omega)) (eV h9 (by omega)) (eV h9 (by omega))) (BOKc (bV h9 (by omega) (by omega) (by omega)) (BOKc (bO h9 hop (by omega) (by omega) (by omega)) BOKn))
        · have i7 := i32_b (dScr D 7)
          rcases rng 6 (dScr D 7) (by omega) with ⟨n7, hn7, q7⟩ | b7 | b7
          · rcases (show n7 = 0 ∨ n7 = 1 ∨ n7 = 2 ∨ n7 = 3 ∨ n7 = 4 ∨ n7 = 5 by omega) with rfl | rfl | rfl | rfl | rfl | rfl
            · exact use_run run_17_20 (xok9 h9 (eV h9 (by omega)) (eV h9 (by omega)) (eV h9 (by omega)) (eV h9 (by omega)) (eK q4) (eK q5) (eV h9 (by omega)) (eK q7) (eV h9 (by omega))) (BOKc (bO h9 hop (by omega) (by omega) (by omega)) BOKn)
            · exact use_run run_17_21 (xok9 h9 (eV h9 (by omega)) (eV h9 (by omega)) (eV h9 (by omega)) (eV h9 (by omega)) (eK q4) (eK q5) (eV h9 (by omega)) (eK q7) (eV h9 (by omega))) (BOKc (bO h9 hop (by omega) (by omega) (by omega)) BOKn)
            · exact use_run run_17_22 (xok9 h9 (eV h9 (by omega)) (eV h9 (by omega)) (eV h9 (by omega)) (eV h9 (by omega)) (eK q4) (eK q5) (eV h9 (by omega)) (eK q7) (eV h9 (by omega))) (BOKc (bO h9 hop (by omega) (by omega) (by omega)) BOKn)
            · exact use_run run_17_23 (xok9 h9 (eV h9 (by omega)) (eV h9 (by omega)) (eV h9 (by omega)) (eV h9 (by omega)) (eK q4) (eK q5) (eV h9 (by omega)) (eK q7) (eV h9 (by omega))) (BOKc (bO h9 hop (by omega) (by omega) (by omega)) BOKn)
            · exact use_run run_17_24 (xok9 h9 (eV h9 (by omega)) (eV h9 (by omega)) (eV h9 (by omega)) (eV h9 (by omega)) (eK q4) (eK q5) (eV h9 (by omega)) (eK q7) (eV h9 (by omega))) (BOKc (bO h9 hop (by omega) (by omega) (by omega)) BOKn)
            · exact use_run run_17_25 (xok9 h9 (eV h9 (by omega)) (eV h9 (by omega)) (eV h9 (by omega)) (eV h9 (by omega)) (eK q4) (eK q5) (eV h9 (by omega)) (eK q7) (eV h9 (by omega))) (BOKc (bO h9 hop (by omega) (by omega) (by omega)) BOKn)
          · exact use_run run_17_26 (xok9 h9 (eV h9 (by omega)) (eV h9 (by omega)) (eV h9 (by omega)) (eV h9 (by omega)) (eK q4) (eK q5) (eV h9 (by omega)) (eV h9 (by omega)) (eV h9 (by omega))) (BOKc (bV h9 (by omega) (by omega) (by omega)) (BOKc (bO h9 hop (by omega) (by omega) (by omega)) BOKn))
          · exact use_run run_17_27 (xok9 h9 (eV h9 (by omega)) (eV h9 (by omega)) (eV h9 (by omega)) (eV h9 (by omega)) (eK q4) (eK q5) (eV h9 (by omega)) (eV h9 (by omega)) (eV h9 (by omega))) (BOKc (bV h9 (by omega) (by omega) (by omega)) (BOKc (bO h9 hop (by omega) (by omega) (by omega)) BOKn))
        · have i7 := i32_b (dScr D 7)
          rcases rng 6 (dScr D 7) (by omega) with ⟨n7, hn7, q7⟩ | b7 | b7
          · rcases (show n7 = 0 ∨ n7 = 1 ∨ n7 = 2 ∨ n7 = 3 ∨ n7 = 4 ∨ n7 = 5 by omega) with rfl | rfl | rfl | rfl | rfl | rfl
            · exact use_run run_17_28 (xok9 h9 (eV h9 (by omega)) (eV h9 (by omega)) (eV h9 (by omega)) (eV h9 (by omega)) (eK q4) (eK q5) (eV h9 (by omega)) (eK q7) (eV h9 (by omega))) (BOKc (bO h9 hop (by omega) (by omega) (by omega)) BOKn)
            · exact use_run run_17_29 (xok9 h9 (eV h9 (by omega)) (eV h9 (by omega)) (eV h9 (by omega)) (eV h9 (by omega)) (eK q4) (eK q5) (eV h9 (by omega)) (eK q7) (eV h9 (by omega))) (BOKc (bO h9 hop (by omega) (by omega) (by omega)) BOKn)
            · exact use_run run_17_30 (xok9 h9 (eV h9 (by omega)) (eV h9 (by omega)) (eV h9 (by omega)) (eV h9 (by omega)) (eK q4) (eK q5) (eV h9 (by omega)) (eK q7) (eV h9 (by omega))) (BOKc (bO h9 hop (by omega) (by omega) (by omega)) BOKn)
            · exact use_run run_17_31 (xok9 h9 (eV h9 (by omega)) (eV h9 (by omega)) (eV h9 (by omega)) (eV h9 (by omega)) (eK q4) (eK q5) (eV h9 (by omega)) (eK q7) (eV h9 (by omega))) (BOKc (bO h9 hop (by omega) (by omega) (by omega)) BOKn)
            · exact use_run run_17_32 (xok9 h9 (eV h9 (by omega)) (eV h9 (by omega)) (eV h9 (by omega)) (eV h9 (by omega)) (eK q4) (eK q5) (eV h9 (by omega)) (eK q7) (eV h9 (by omega))) (BOKc (bO h9 hop (by omega) (by omega) (by omega)) BOKn)
            · exact use_run run_17_33 (xok9 h9 (eV h9 (by omega)) (eV h9 (by omega)) (eV h9 (by omega)) (eV h9 (by omega)) (eK q4) (eK q5) (eV h9 (by omega)) (eK q7) (eV h9 (by omega))) (BOKc (bO h9 hop (by omega) (by omega) (by omega)) BOKn)
          · exact use_run run_17_34 (xok9 h9 (eV h9 (by omega)) (eV h9 (by omega)) (eV h9 (by omega)) (eV h9 (by omega)) (eK q4) (eK q5) (eV h9 (by omega)) (eV h9 (by omega)) (eV h9 (by omega))) (BOKc (bV h9 (by omega) (by omega) (by omega)) (BOKc (bO h9 hop (by omega) (by omega) (by omega)) BOKn))
          · exact use_run run_17_35 (xok9 h9 (eV h9 (by omega)) (eV h9 (by omega)) (eV h9 (by omega)) (eV h9 (by omega)) (eK q4) (eK q5) (eV h9 (by omega)) (eV h9 (by omega)) (eV h9 (by omega))) (BOKc (bV h9 (by omega) (by omega) (by omega)) (BOKc (bO h9 hop (by omega) (by omega) (by omega)) BOKn))
      · exact use_run run_17_2 (xok9 h9 (eV h9 (by omega)) (eV h9 (by omega)) (eV h9 (by omega)) (eV h9 (by omega)) (eK q4) (eV h9 (by omega)) (eV h9 (by omega)) (eV h9 (by omega)) (eV h9 (by omega))) (BOKc (bV h9 (by omega) (by omega) (by omega)) (BOKc (bO h9 hop (by omega) (by omega) (by omega)) BOKn))
      · exact use_run run_17_3 (xok9 h9 (eV h9 (by omega)) (eV h9 (by omega)) (eV h9 (by omega)) (eV h9 (by omega)) (eK q4) (eV h9 (by omega)) (eV h9 (by omega)) (eV h9 (by omega)) (eV h9 (by omega))) (BOKc (bV h9 (by omega) (by omega) (by omega)) (BOKc (bO h9 hop (by omega) (by omega) (by omega)) BOKn))
    · have i5 := i32_b (dScr D 5)
      rcases rng 5 (dScr D 5) (by omega) with ⟨n5, hn5, q5⟩ | b5 | b5
      · rcases (show n5 = 0 ∨ n5 = 1 ∨ n5 = 2 ∨ n5 = 3 ∨ n5 = 4 by omega) with rfl | rfl | rfl | rfl | rfl
        · have b5 : (dScr D 5).toInt ≤ 0 := by rw [q5]; decide
          exact use_run run_17_36 (xok9 h9 (eV h9 (by omega)) (eV h9 (by omega)) (eV h9 (by omega)) (eV h9 (by omega)) (eK q4) (eV h9 (by omega)) (eV h9 (by omega)) (eV h9 (by omega)) (eV h9 (by omega))) (BOKc (bV h9 (by omega) (by omega) (by omega)) (BOKc (bO h9 hop (by omega) (by omega) (by omega)) BOKn))
        · have i7 := i32_b (dScr D 7)
          rcases rng 6 (dScr D 7) (by omega) with ⟨n7, hn7, q7⟩ | b7 | b7
          · rcases (show n7 = 0 ∨ n7 = 1 ∨ n7 = 2 ∨ n7 = 3 ∨ n7 = 4 ∨ n7 = 5 by omega) with rfl | rfl | rfl | rfl | rfl | rfl
            · exact use_run run_17_38 (xok9 h9 (eV h9 (by omega)) (eV h9 (by omega)) (eV h9 (by omega)) (eV h9 (by omega)) (eK q4) (eK q5) (eV h9 (by omega)) (eK q7) (eV h9 (by omega))) (BOKc (bO h9 hop (by omega) (by omega) (by omega)) BOKn)
            · exact use_run run_17_39 (xok9 h9 (eV h9 (by omega)) (eV h9 (by omega)) (eV h9 (by omega)) (eV h9 (by omega)) (eK q4) (eK q5) (eV h9 (by omega)) (eK q7) (eV h9 (by omega))) (BOKc (bO h9 hop (by omega) (by omega) (by omega)) BOKn)
            · exact use_run run_17_40 (xok9 h9 (eV h9 (by omega)) (eV h9 (by omega)) (eV h9 (by omega)) (eV h9 (by omega)) (eK q4) (eK q5) (eV h9 (by omega)) (eK q7) (eV h9 (by omega))) (BOKc (bO h9 hop (by omega) (by omega) (by omega)) BOKn)
            · exact use_run run_17_41 (xok9 h9 (eV h9 (by omega)) (eV h9 (by omega)) (eV h9 (by omega)) (eV h9 (by omega)) (eK q4) (eK q5) (eV h9 (by omega)) (eK q7) (eV h9 (by omega))) (BOKc (bO h9 hop (by omega) (by omega) (by omega)) BOKn)
            · exact use_run run_17_42 (xok9 h9 (eV h9 (by omega)) (eV h9 (by omega)) (eV h9 (by omega)) (eV h9 (by omega)) (eK q4) (eK q5) (eV h9 (by omega)) (eK q7) (eV h9 (by omega))) (BOKc (bO h9 hop (by omega) (by omega) (by omega)) BOKn)
            · exact use_run run_17_43 (xok9 h9 (eV h9 (by omega)) (eV h9 (by omega)) (eV h9 (by omega)) (eV h9 (by omega)) (eK q4) (eK q5) (eV h9 (by omega)) (eK q7) (eV h9 (by omega))) (BOKc (bO h9 hop (by omega) (by omega) (by omega)) BOKn)
          · exact use_run run_17_44 (xok9 h9 (eV h9 (by omega)) (eV h9 (by omega)) (eV h9 (by omega)) (eV h9 (by omega)) (eK q4) (eK q5) (eV h9 (by omega)) (eV h9 (by omega)) (eV h9 (by omega))) (BOKc (bV h9 (by omega) (by omega) (by omega)) (BOKc (bO h9 hop (by omega) (by omega) (by omega)) BOKn))
          · exact use_run run_17_45 (xok9 h9 (eV h9 (by omega)) (eV h9 (by omega)) (eV h9 (by omega)) (eV h9 (by omega)) (eK q4) (eK q5) (eV h9 (by omega)) (eV h9 (by omega)) (eV h9 (by omega))) (BOKc (bV h9 (by omega) (by omega) (by omega)) (BOKc (bO h9 hop (by omega) (by omega) (by omega)) BOKn))
        · have i7 := i32_b (dScr D 7)
          rcases rng 6 (dScr D 7) (by omega) with ⟨n7, hn7, q7⟩ | b7 | b7
          · rcases (show n7 = 0 ∨ n7 = 1 ∨ n7 = 2 ∨ n7 = 3 ∨ n7 = 4 ∨ n7 = 5 by omega) with rfl | rfl | rfl | rfl | rfl | rfl
            · exact use_run run_17_46 (xok9 h9 (eV h9 (by omega)) (eV h9 (by omega)) (eV h9 (by omega)) (eV h9 (by omega)) (eK q4) (eK q5) (eV h9 (by omega)) (eK q7) (eV h9 (by omega))) (BOKc (bO h9 hop (by omega) (by omega) (by omega)) BOKn)
            · exact use_run run_17_47 (xok9 h9 (eV h9 (by omega)) (eV h9 (by omega)) (eV h9 (by omega)) (eV h9 (by omega)) (eK q4) (eK q5) (eV h9 (by omega)) (eK q7) (eV h9 (by omega))) (BOKc (bO h9 hop (by omega) (by omega) (by omega)) BOKn)
            · exact use_run run_17_48 (xok9 h9 (eV h9 (by omega)) (eV h9 (by omega)) (eV h9 (by omega)) (eV h9 (by omega)) (eK q4) (eK q5) (eV h9 (by omega)) (eK q7) (eV h9 (by omega))) (BOKc (bO h9 hop (by omega) (by omega) (by omega)) BOKn)
            · exact use_run run_17_49 (xok9 h9 (eV h9 (by omega)) (eV h9 (by omega)) (eV h9 (by omega)) (eV h9 (by omega)) (eK q4) (eK q5) (eV h9 (by omega)) (eK q7) (eV h9 (by omega))) (BOKc (bO h9 hop (by omega) (by omega) (by omega)) BOKn)
            · exact use_run run_17_50 (xok9 h9 (eV h9 (by omega)) (eV h9 (by omega)) (eV h9 (by omega)) (eV h9 (by omega)) (eK q4) (eK q5) (eV h9 (by omega)) (eK q7) (eV h9 (by omega))) (BOKc (bO h9 hop (by omega) (by omega) (by omega)) BOKn)
            · exact use_run run_17_51 (xok9 h9 (eV h9 (by omega)) (eV h9 (by omega)) (eV h9 (by omega)) (eV h9 (by omega)) (eK q4) (eK q5) (eV h9 (by omega)) (eK q7) (eV h9 (by omega))) (BOKc (bO h9 hop (by omega) (by omega) (by omega)) BOKn)
          · exact use_run run_17_52 (xok9 h9 (eV h9 (by omega)) (eV h9 (by omega)) (eV h9 (by omega)) (eV h9 (by omega)) (eK q4) (eK q5) (eV h9 (by omega)) (eV h9 (by omega)) (eV h9 (by omega))) (BOKc (bV h9 (by omega) (by omega) (by omega)) (BOKc (bO h9 hop (by omega) (by omega) (by omega)) BOKn))
          · exact use_run run_17_53 (xok9 h9 (eV h9 (by omega)) (eV h9 (by omega)) (eV h9 (by omega)) (eV h9 (by omega)) (eK q4) (eK q5) (eV h9 (by omega)) (eV h9 (by omega)) (eV h9 (by omega))) (BOKc (bV h9 (by omega) (by omega) (by omega)) (BOKc (bO h9 hop (by omega) (by omega) (by omega)) BOKn))
        · have i7 := i32_b (dScr D 7)
          rcases rng 6 (dScr D 7) (by omega) with ⟨n7, hn7, q7⟩ | b7 | b7
          · rcases (show n7 = 0 ∨ n7 = 1 ∨ n7 = 2 ∨ n7 = 3 ∨ n7 = 4 ∨ n7 = 5 by omega) with rfl | rfl | rfl | rfl | rfl | rfl
            · exact use_run run_17_54 (xok9 h9 (eV h9 (by omega)) (eV h9 (by omega)) (eV h9 (by omega)) (eV h9 (by omega)) (eK q4) (eK q5) (eV h9 (by omega)) (eK q7) (eV h9 (by omega))) (BOKc (bO h9 hop (by omega) (by omega) (by omega)) BOKn)
            · exact use_run run_17_55 (xok9 h9 (eV h9 (by omega)) (eV h9 (by omega)) (eV h9 (by omega)) (eV h9 (by omega)) (eK q4) (eK q5) (eV h9 (by omega)) (eK q7) (eV h9 (by omega))) (BOKc (bO h9 hop (by omega) (by omega) (by omega)) BOKn)
            · exact use_run run_17_56 (xok9 h9 (eV h9 (by omega)) (eV h9 (by omega)) (eV h9 (by omega)) (eV h9 (by omega)) (eK q4) (eK q5) (eV h9 (by omega)) (eK q7) (eV h9 (by omega))) (BOKc (bO h9 hop (by omega) (by omega) (by omega)) BOKn)
            · exact use_run run_17_57 (xok9 h9 (eV h9 (by omega)) (eV h9 (by omega)) (eV h9 (by omega)) (eV h9 (by omega)) (eK q4) (eK q5) (eV h9 (by omega)) (eK q7) (eV h9 (by omega))) (BOKc (bO h9 hop (by omega) (by omega) (by omega)) BOKn)
            · exact use_run run_17_58 (xok9 h9 (eV h9 (by omega)) (eV h9 (by omega)) (eV h9 (by omega)) (eV h9 (by omega)) (eK q4) (eK q5) (eV h9 (by omega)) (eK q7) (eV h9 (by omega))) (BOKc (bO h9 hop (by omega) (by omega) (by omega)) BOKn)
            · exact use_run run_17_59 (xok9 h9 (eV h9 (by omega)) (eV h9 (by omega)) (eV h9 (by omega)) (eV h9 (by omega)) (eK q4) (eK q5) (eV h9 (by omega)) (eK q7) (eV h9 (by omega))) (BOKc (bO h9 hop (by omega) (by omega) (by omega)) BOKn)
          · exact use_run run_17_60 (xok9 h9 (eV h9 (by omega)) (eV h9 (by omega)) (eV h9 (by omega)) (eV h9 (by omega)) (eK q4) (eK q5) (eV h9 (by omega)) (eV h9 (by omega)) (eV h9 (by omega))) (BOKc (bV h9 (by omega) (by omega) (by omega)) (BOKc (bO h9 hop (by omega) (by omega) (by omega)) BOKn))
          · exact use_run run_17_61 (xok9 h9 (eV h9 (by omega)) (eV h9 (by omega)) (eV h9 (by omega)) (eV h9 (by omega)) (eK q4) (eK q5) (eV h9 (by omega)) (eV h9 (by omega)) (eV h9 (by omega))) (BOKc (bV h9 (by omega) (by omega) (by omega)) (BOKc (bO h9 hop (by omega) (by omega) (by omega)) BOKn))
        · have i7 := i32_b (dScr D 7)
          rcases rng 6 (dScr D 7) (by omega) with ⟨n7, hn7, q7⟩ | b7 | b7
          · rcases (show n7 = 0 ∨ n7 = 1 ∨ n7 = 2 ∨ n7 = 3 ∨ n7 = 4 ∨ n7 = 5 by omega) with rfl | rfl | rfl | rfl | rfl | rfl
            · exact use_run run_17_62 (xok9 h9 (eV h9 (by omega)) (eV h9 (by omega)) (eV h9 (by omega)) (eV h9 (by omega)) (eK q4) (eK q5) (eV h9 (by omega)) (eK q7) (eV h9 (by omega))) (BOKc (bO h9 hop (by omega) (by omega) (by omega)) BOKn)
            · exact use_run run_17_63 (xok9 h9 (eV h9 (by omega)) (eV h9 (by omega)) (eV h9 (by omega)) (eV h9 (by omega)) (eK q4) (eK q5) (eV h9 (by omega)) (eK q7) (eV h9 (by omega))) (BOKc (bO h9 hop (by omega) (by omega) (by omega)) BOKn)
            · exact use_run run_17_64 (xok9 h9 (eV h9 (by omega)) (eV h9 (by omega)) (eV h9 (by omega)) (eV h9 (by omega)) (eK q4) (eK q5) (eV h9 (by omega)) (eK q7) (eV h9 (by omega))) (BOKc (bO h9 hop (by omega) (by omega) (by omega)) BOKn)
            · exact use_run run_17_65 (xok9 h9 (eV h9 (by omega)) (eV h9 (by omega)) (eV h9 (by omega)) (eV h9 (by omega)) (eK q4) (eK q5) (eV h9 (by omega)) (eK q7) (eV h9 (by omega))) (BOKc (bO h9 hop (by omega) (by omega) (by omega)) BOKn)
            · exact use_run run_17_66 (xok9 h9 (eV h9 (by omega)) (eV h9 (by omega)) (eV h9 (by omega)) (eV h9 (by omega)) (eK q4) (eK q5) (eV h9 (by omega)) (eK q7) (eV h9 (by omega))) (BOKc (bO h9 hop (by omega) (by omega) (by omega)) BOKn)
            · exact use_run run_17_67 (xok9 h9 (eV h9 (by omega)) (eV h9 (by omega)) (eV h9 (by omega)) (eV h9 (by omega)) (eK q4) (eK q5) (eV h9 (by omega)) (eK q7) (eV h9 (by omega))) (BOKc (bO h9 hop (by omega) (by omega) (by omega)) BOKn)
          · exact use_run run_17_68 (xok9 h9 (eV h9 (by omega)) (eV h9 (by omega)) (eV h9 (by omega)) (eV h9 (by omega)) (eK q4) (eK q5) (eV h9 (by omega)) (eV h9 (by omega)) (eV h9 (by omega))) (BOKc (bV h9 (by omega) (by omega) (by omega)) (BOKc (bO h9 hop (by omega) (by omega) (by omega)) BOKn))
          · exact use_run run_17_69 (xok9 h9 (eV h9 (by omega)) (eV h9 (by omega)) (eV h9 (by omega)) (eV h9 (by omega)) (eK q4) (eK q5) (eV h9 (by omega)) (eV h9 (by omega)) (eV h9 (by omega))) (BOKc (bV h9 (by omega) (by omega) (by omega)) (BOKc (bO h9 hop (by omega) (by omega) (by omega)) BOKn))
      · exact use_run run_17_36 (xok9 h9 (eV h9 (by omega)) (eV h9 (by omega)) (eV h9 (by omega)) (eV h9 (by omega)) (eK q4) (eV h9 (by omega)) (eV h9 (by omega)) (eV h9 (by omega)) (eV h9 (by omega))) (BOKc (bV h9 (by omega) (by omega) (by omega)) (BOKc (bO h9 hop (by omega) (by omega) (by omega)) BOKn))
      · exact use_run run_17_37 (xok9 h9 (eV h9 (by omega)) (eV h9 (by omega)) (eV h9 (by omega)) (eV h9 (by omega)) (eK q4) (eV h9 (by omega)) (eV h9 (by omega)) (eV h9 (by omega)) (eV h9 (by omega))) (BOKc (bV h9 (by omega) (by omega) (by omega)) (BOKc (bO h9 hop (by omega) (by omega) (by omega)) BOKn))
  · exact use_run run_17_0 (xok9 h9 (eV h9 (by omega)) (eV h9 (by omega)) (eV h9 (by omega)) (eV h9 (by omega)) (eV h9 (by omega)) (eV h9 (by omega)) (eV h9 (by omega)) (eV h9 (by omega)) (eV h9 (by omega))) (BOKc (bV h9 (by omega) (by omega) (by omega)) (BOKc (bO h9 hop (by omega) (by omega) (by omega)) BOKn))
  · exact use_run run_17_1 (xok9 h9 (eV h9 (by omega)) (eV h9 (by omega)) (eV h9 (by omega)) (eV h9 (by omega)) (eV h9 (by omega)) (eV h9 (by omega)) (eV h9 (by omega)) (eV h9 (by omega)) (eV h9 (by omega))) (BOKc (bV h9 (by omega) (by omega) (by omega)) (BOKc (bO h9 hop (by omega) (by omega) (by omega)) BOKn))
theorem lop_18 (h9 : dLen D = 9) (hop : dScr D 3 &&& nI 31 = nI 18) : sm D 0 61 (dL D (rh D) (sg D) lvL) [] (hD D (rh D) (sg D) h0 hp3) 273 54730 (fun v _ => v = some (.int (nI 1))) := by
  have i4 := i32_b (dScr D 4)
  rcases rng 2 (dScr D 4) (by omega) with ⟨n4, hn4, q4⟩ | b4 | b4
  · rcases (show n4 = 0 ∨ n4 = 1 by omega) with rfl | rfl
    · have i5 := i32_b (dScr D 5)
      rcases rng 16 (dScr D 5) (by omega) with ⟨n5, hn5, q5⟩ | b5 | b5
      · rcases (show n5 = 0 ∨ n5 = 1 ∨ n5 = 2 ∨ n5 = 3 ∨ n5 = 4 ∨ n5 = 5 ∨ n5 = 6 ∨ n5 = 7 ∨ n5 = 8 ∨ n5 = 9 ∨ n5 = 10 ∨ n5 = 11 ∨ n5 = 12 ∨ n5 = 13 ∨ n5 = 14 ∨ n5 = 15 by omega) with rfl | rfl | rfl | rfl | rfl | rfl | rfl | rfl | rfl | rfl | rfl | rfl | rfl | rfl | rfl | rfl
        · exact use_run run_18_2 (xok9 h9 (eV h9 (by omega)) (eV h9 (by omega)) (eV h9 (by omega)) (eV h9 (by omega)) (eK q4) (eK q5) (eV h9 (by omega)) (eV h9 (by omega)) (eV h9 (by omega))) (BOKc (bO h9 hop (by omega) (by omega) (by omega)) BOKn)
        · exact use_run run_18_3 (xok9 h9 (eV h9 (by omega)) (eV h9 (by omega)) (eV h9 (by omega)) (eV h9 (by omega)) (eK q4) (eK q5) (eV h9 (by omega)) (eV h9 (by omega)) (eV h9 (by omega))) (BOKc (bO h9 hop (by omega) (by omega) (by omega)) BOKn)
        · exact use_run run_18_4 (xok9 h9 (eV h9 (by omega)) (eV h9 (by omega)) (eV h9 (by omega)) (eV h9 (by omega)) (eK q4) (eK q5) (eV h9 (by omega)) (eV h9 (by omega)) (eV h9 (by omega))) (BOKc (bO h9 hop (by omega) (by omega) (by omega)) BOKn)
        · exact use_run run_18_5 (xok9 h9 (eV h9 (by omega)) (eV h9 (by omega)) (eV h9 (by omega)) (eV h9 (by omega)) (eK q4) (eK q5) (eV h9 (by omega)) (eV h9 (by omega)) (eV h9 (by omega))) (BOKc (bO h9 hop (by omega) (by omega) (by omega)) BOKn)
        · exact use_run run_18_6 (xok9 h9 (eV h9 (by omega)) (eV h9 (by omega)) (eV h9 (by omega)) (eV h9 (by omega)) (eK q4) (eK q5) (eV h9 (by omega)) (eV h9 (by omega)) (eV h9 (by omega))) (BOKc (bO h9 hop (by omega) (by omega) (by omega)) BOKn)
        · exact use_run run_18_7 (xok9 h9 (eV h9 (by omega)) (eV h9 (by omega)) (eV h9 (by omega)) (eV h9 (by omega)) (eK q4) (eK q5) (eV h9 (by omega)) (eV h9 (by omega)) (eV h9 (by omega))) (BOKc (bO h9 hop (by omega) (by omega) (by omega)) BOKn)
        · exact use_run run_18_8 (xok9 h9 (eV h9 (by omega)) (eV h9 (by omega)) (eV h9 (by omega)) (eV h9 (by omega)) (eK q4) (eK q5) (eV h9 (by omega)) (eV h9 (by omega)) (eV h9 (by omega))) (BOKc (bO h9 hop (by omega) (by omega) (by omega)) BOKn)
        · exact use_run run_18_9 (xok9 h9 (eV h9 (by omega)) (eV h9 (by omega)) (eV h9 (by omega)) (eV h9 (by omega)) (eK q4) (eK q5) (eV h9 (by omega)) (eV h9 (by omega)) (eV h9 (by omega))) (BOKc (bO h9 hop (by omega) (by omega) (by omega)) BOKn)
        · exact use_run run_18_10 (xok9 h9 (eV h9 (by omega)) (eV h9 (by omega)) (eV h9 (by omega)) (eV h9 (by omega)) (eK q4) (eK q5) (eV h9 (by omega)) (eV h9 (by omega)) (eV h9 (by omega))) (BOKc (bO h9 hop (by omega) (by omega) (by omega)) BOKn)
        · exact use_run run_18_11 (xok9 h9 (eV h9 (by omega)) (eV h9 (by omega)) (eV h9 (by omega)) (eV h9 (by omega)) (eK q4) (eK q5) (eV h9 (by omega)) (eV h9 (by omega)) (eV h9 (by omega))) (BOKc (bO h9 hop (by omega) (by omega) (by omega)) BOKn)
        · exact use_run run_18_12 (xok9 h9 (eV h9 (by omega)) (eV h9 (by omega)) (eV h9 (by omega)) (eV h9 (by omega)) (eK q4) (eK q5) (eV h9 (by omega)) (eV h9 (by omega)) (eV h9 (by omega))) (BOKc (bO h9 hop (by omega) (by omega) (by omega)) BOKn)
        · exact use_run run_18_13 (xok9 h9 (eV h9 (by omega)) (eV h9 (by omega)) (eV h9 (by omega)) (eV h9 (by omega)) (eK q4) (eK q5) (eV h9 (by omega)) (eV h9 (by omega)) (eV h9 (by omega))) (BOKc (bO h9 hop (by omega) (by omega) (by omega)) BOKn)
        · exact use_run run_18_14 (xok9 h9 (eV h9 (by omega)) (eV h9 (by omega)) (eV h9 (by omega)) (eV h9 (by omega)) (eK q4) (eK q5) (eV h9 (by omega)) (eV h9 (by omega)) (eV h9 (by omega))) (BOKc (bO h9 hop (by omega) (by omega) (by omega)) BOKn)
        · exact use_run run_18_15 (xok9 h9 (eV h9 (by omega)) (eV h9 (by omega)) (eV h9 (by omega)) (eV h9 (by omega)) (eK q4) (eK q5) (eV h9 (by omega)) (eV h9 (by omega)) (eV h9 (by omega))) (BOKc (bO h9 hop (by omega) (by omega) (by omega)) BOKn)
        · exact use_run run_18_16 (xok9 h9 (eV h9 (by omega)) (eV h9 (by omega)) (eV h9 (by omega)) (eV h9 (by omega)) (eK q4) (eK q5) (eV h9 (by omega)) (eV h9 (by omega)) (eV h9 (by omega))) (BOKc (bO h9 hop (by omega) (by omega) (by omega)) BOKn)
        · exact use_run run_18_17 (xok9 h9 (eV h9 (by omega)) (eV h9 (by omega)) (eV h9 (by omega)) (eV h9 (by omega)) (eK q4) (eK q5) (eV h9 (by omega)) (eV h9 (by omega)) (eV h9 (by omega))) (BOKc (bO h9 hop (by omega) (by omega) (by omega)) BOKn)
      · exact use_run run_18_18 (xok9 h9 (eV h9 (by omega)) (eV h9 (by omega)) (eV h9 (by omega)) (eV h9 (by omega)) (eK q4) (eV h9 (by omega)) (eV h9 (by omega)) (eV h9 (by omega)) (eV h9 (by omega))) (BOKc (bV h9 (by omega) (by omega) (by omega)) (BOKc (bO h9 hop (by omega) (by omega) (by omega)) BOKn))
      · exact use_run run_18_19 (xok9 h9 (eV h9 (by omega)) (eV h9 (by omega)) (eV h9 (by omega)) (eV h9 (by omega)) (eK q4) (eV h9 (by omega)) (eV h9 (by omega)) (eV h9 (by omega)) (eV h9 (by omega))) (BOKc (bV h9 (by omega) (by omega) (by omega)) (BOKc (bO h9 hop (by omega) (by omega) (by omega)) BOKn))
    · have i5 := i32_b (dScr D 5)
      rcases rng 16 (dScr D 5) (by omega) with ⟨n5, hn5, q5⟩ | b5 | b5
      · rcases (show n5 = 0 ∨ n5 = 1 ∨ n5 = 2 ∨ n5 = 3 ∨ n5 = 4 ∨ n5 = 5 ∨ n5 = 6 ∨ n5 = 7 ∨ n5 = 8 ∨ n5 = 9 ∨ n5 = 10 ∨ n5 = 11 ∨ n5 = 12 ∨ n5 = 13 ∨ n5 = 14 ∨ n5 = 15 by omega) with rfl | rfl | rfl | rfl | rfl | rfl | rfl | rfl | rfl | rfl | rfl | rfl | rfl | rfl | rfl | rfl
        · exact use_run run_18_20 (xok9 h9 (eV h9 (by omega)) (eV h9 (by omega)) (eV h9 (by omega)) (eV h9 (by omega)) (eK q4) (eK q5) (eV h9 (by omega)) (eV h9 (by omega)) (eV h9 (by omega))) (BOKc (bO h9 hop (by omega) (by omega) (by omega)) BOKn)
        · exact use_run run_18_21 (xok9 h9 (eV h9 (by omega)) (eV h9 (by omega)) (eV h9 (by omega)) (eV h9 (by omega)) (eK q4) (eK q5) (eV h9 (by omega)) (eV h9 (by omega)) (eV h9 (by omega))) (BOKc (bO h9 hop (by omega) (by omega) (by omega)) BOKn)
        · exact use_run run_18_22 (xok9 h9 (eV h9 (by omega)) (eV h9 (by omega)) (eV h9 (by omega)) (eV h9 (by omega)) (eK q4) (eK q5) (eV h9 (by omega)) (eV h9 (by omega)) (eV h9 (by omega))) (BOKc (bO h9 hop (by omega) (by omega) (by omega)) BOKn)
        · exact use_run run_18_23 (xok9 h9 (eV h9 (by omega)) (eV h9 (by omega)) (eV h9 (by omega)) (eV h9 (by omega)) (eK q4) (eK q5) (eV h9 (by omega)) (eV h9 (by omega)) (eV h9 (by omega))) (BOKc (bO h9 hop (by omega) (by omega) (by omega)) BOKn)
        · exact use_run run_18_24 (xok9 h9 (eV h9 (by omega)) (eV h9 (by omega)) (eV h9 (by omega)) (eV h9 (by omega)) (eK q4) (eK q5) (eV h9 (by omega)) (eV h9 (by omega)) (eV h9 (by omega))) (BOKc (bO h9 hop (by omega) (by omega) (by omega)) BOKn)
        · exact use_run run_18_25 (xok9 h9 (eV h9 (by omega)) (eV h9 (by omega)) (eV h9 (by omega)) (eV h9 (by omega)) (eK q4) (eK q5) (eV h9 (by omega)) (eV h9 (by omega)) (eV h9 (by omega))) (BOKc (bO h9 hop (by omega) (by omega) (by omega)) BOKn)
        · exact use_run run_18_26 (xok9 h9 (eV h9 (by omega)) (eV h9 (by omega)) (eV h9 (by omega)) (eV h9 (by omega)) (eK q4) (eK q5) (eV h9 (by omega)) (eV h9 (by omega)) (eV h9 (by omega))) (BOKc (bO h9 hop (by omega) (by omega) (by omega)) BOKn)
        · exact use_run run_18_27 (xok9 h9 (eV h9 (by omega)) (eV h9 (by omega)) (eV h9 (by omega)) (eV h9 (by omega)) (eK q4) (eK q5) (eV h9 (by omega)) (eV h9 (by omega)) (eV h9 (by omega))) (BOKc (bO h9 hop (by omega) (by omega) (by omega)) BOKn)
        · exact use_run run_18_28 (xok9 h9 (eV h9 (by omega)) (eV h9 (by omega)) (eV h9 (by omega)) (eV h9 (by omega)) (eK q4) (eK q5) (eV h9 (by omega)) (eV h9 (by omega)) (eV h9 (by omega))) (BOKc (bO h9 hop (by omega) (by omega) (by omega)) BOKn)
        · exact use_run run_18_29 (xok9 h9 (eV h9 (by omega)) (eV h9 (by omega)) (eV h9 (by omega)) (eV h9 (by omega)) (eK q4) (eK q5) (eV h9 (by omega)) (eV h9 (by omega)) (eV h9 (by omega))) (BOKc (bO h9 hop (by omega) (by omega) (by omega)) BOKn)
        · exact use_run run_18_30 (xok9 h9 (eV h9 (by omega)) (eV h9 (by omega)) (eV h9 (by omega)) (eV h9 (by omega)) (eK q4) (eK q5) (eV h9 (by omega)) (eV h9 (by omega)) (eV h9 (by omega))) (BOKc (bO h9 hop (by omega) (by omega) (by omega)) BOKn)
        · exact use_run run_18_31 (xok9 h9 (eV h9 (by omega)) (eV h9 (by omega)) (eV h9 (by omega)) (eV h9 (by omega)) (eK q4) (eK q5) (eV h9 (by omega)) (eV h9 (by omega)) (eV h9 (by omega))) (BOKc (bO h9 hop (by omega) (by omega) (by omega)) BOKn)
        · exact use_run run_18_32 (xok9 h9 (eV h9 (by omega)) (eV h9 (by omega)) (eV h9 (by omega)) (eV h9 (by omega)) (eK q4) (eK q5) (eV h9 (by omega)) (eV h9 (by omega)) (eV h9 (by omega))) (BOKc (bO h9 hop (by omega) (by omega) (by omega)) BOKn)
        · exact use_run run_18_33 (xok9 h9 (eV h9 (by omega)) (eV h9 (by omega)) (eV h9 (by omega)) (eV h9 (by omega)) (eK q4) (eK q5) (eV h9 (by omega)) (eV h9 (by omega)) (eV h9 (by omega))) (BOKc (bO h9 hop (by omega) (by omega) (by omega)) BOKn)
        · exact use_run run_18_34 (xok9 h9 (eV h9 (by omega)) (eV h9 (by omega)) (eV h9 (by omega)) (eV h9 (by omega)) (eK q4) (eK q5) (eV h9 (by omega)) (eV h9 (by omega)) (eV h9 (by omega))) (BOKc (bO h9 hop (by omega) (by omega) (by omega)) BOKn)
        · exact use_run run_18_35 (xok9 h9 (eV h9 (by omega)) (eV h9 (by omega)) (eV h9 (by omega)) (eV h9 (by omega)) (eK q4) (eK q5) (eV h9 (by omega)) (eV h9 (by omega)) (eV h9 (by omega))) (BOKc (bO h9 hop (by omega) (by omega) (by omega)) BOKn)
      · exact use_run run_18_36 (xok9 h9 (eV h9 (by omega)) (eV h9 (by omega)) (eV h9 (by omega)) (eV h9 (by omega)) (eK q4) (eV h9 (by omega)) (eV h9 (by omega)) (eV h9 (by omega)) (eV h9 (by omega))) (BOKc (bV h9 (by omega) (by omega) (by omega)) (BOKc (bO h9 hop (by omega) (by omega) (by omega)) BOKn))
      · exact use_run run_18_37 (xok9 h9 (eV h9 (by omega)) (eV h9 (by omega)) (eV h9 (by omega)) (eV h9 (by omega)) (eK q4) (eV h9 (by omega)) (eV h9 (by omega)) (eV h9 (by omega)) (eV h9 (by omega))) (BOKc (bV h9 (by omega) (by omega) (by omega)) (BOKc (bO h9 hop (by omega) (by omega) (by omega)) BOKn))
  · exact use_run run_18_0 (xok9 h9 (eV h9 (by omega)) (eV h9 (by omega)) (eV h9 (by omega)) (eV h9 (by omega)) (eV h9 (by omega)) (eV h9 (by omega)) (eV h9 (by omega)) (eV h9 (by omega)) (eV h9 (by omega))) (BOKc (bV h9 (by omega) (by omega) (by omega)) (BOKc (bO h9 hop (by omega) (by omega) (by omega)) BOKn))
  · exact use_run run_18_1 (xok9 h9 (eV h9 (by omega)) (eV h9 (by omega)) (eV h9 (by omega)) (eV h9 (by omega)) (eV h9 (by omega)) (eV h9 (by omega)) (eV h9 (by omega)) (eV h9 (by omega)) (eV h9 (by omega))) (BOKc (bV h9 (by omega) (by omega) (by omega)) (BOKc (bO h9 hop (by omega) (by omega) (by omega)) BOKn))
theorem lop_19 (h9 : dLen D = 9) (hop : dScr D 3 &&& nI 31 = nI 19) : sm D 0 61 (dL D (rh D) (sg D) lvL) [] (hD D (rh D) (sg D) h0 hp3) 273 54730 (fun v _ => v = some (.int (nI 1))) := by
  have i4 := i32_b (dScr D 4)
  rcases rng 2 (dScr D 4) (by omega) with ⟨n4, hn4, q4⟩ | b4 | b4
  · rcases (show n4 = 0 ∨ n4 = 1 by omega) with rfl | rfl
    · exact use_run run_19_0 (xok9 h9 (eV h9 (by omega)) (eV h9 (by omega)) (eV h9 (by omega)) (eV h9 (by omega)) (eK q4) (eV h9 (by omega)) (eV h9 (by omega)) (eV h9 (by omega)) (eV h9 (by omega))) (BOKc (bO h9 hop (by omega) (by omega) (by omega)) BOKn)
    · exact use_run run_19_1 (xok9 h9 (eV h9 (by omega)) (eV h9 (by omega)) (eV h9 (by omega)) (eV h9 (by omega)) (eK q4) (eV h9 (by omega)) (eV h9 (by omega)) (eV h9 (by omega)) (eV h9 (by omega))) (BOKc (bO h9 hop (by omega) (by omega) (by omega)) BOKn)
  · exact use_run run_19_2 (xok9 h9 (eV h9 (by omega)) (eV h9 (by omega)) (eV h9 (by omega)) (eV h9 (by omega)) (eV h9 (by omega)) (eV h9 (by omega)) (eV h9 (by omega)) (eV h9 (by omega)) (eV h9 (by omega))) (BOKc (bV h9 (by omega) (by omega) (by omega)) (BOKc (bO h9 hop (by omega) (by omega) (by omega)) BOKn))
  · exact use_run run_19_3 (xok9 h9 (eV h9 (by omega)) (eV h9 (by omega)) (eV h9 (by omega)) (eV h9 (by omega)) (eV h9 (by omega)) (eV h9 (by omega)) (eV h9 (by omega)) (eV h9 (by omega)) (eV h9 (by omega))) (BOKc (bV h9 (by omega) (by omega) (by omega)) (BOKc (bO h9 hop (by omega) (by omega) (by omega)) BOKn))
theorem lop_20 (h9 : dLen D = 9) (hop : dScr D 3 &&& nI 31 = nI 20) : sm D 0 61 (dL D (rh D) (sg D) lvL) [] (hD D (rh D) (sg D) h0 hp3) 273 54730 (fun v _ => v = some (.int (nI 1))) := by
  have i4 := i32_b (dScr D 4)
  rcases rng 2 (dScr D 4) (by omega) with ⟨n4, hn4, q4⟩ | b4 | b4
  · rcases (show n4 = 0 ∨ n4 = 1 by omega) with rfl | rfl
    · exact use_run run_20_0 (xok9 h9 (eV h9 (by omega)) (eV h9 (by omega)) (eV h9 (by omega)) (eV h9 (by omega)) (eK q4) (eV h9 (by omega)) (eV h9 (by omega)) (eV h9 (by omega)) (eV h9 (by omega))) (BOKc (bO h9 hop (by omega) (by omega) (by omega)) BOKn)
    · exact use_run run_20_1 (xok9 h9 (eV h9 (by omega)) (eV h9 (by omega)) (eV h9 (by omega)) (eV h9 (by omega)) (eK q4) (eV h9 (by omega)) (eV h9 (by omega)) (eV h9 (by omega)) (eV h9 (by omega))) (BOKc (bO h9 hop (by omega) (by omega) (by omega)) BOKn)
  · exact use_run run_20_2 (xok9 h9 (eV h9 (by omega)) (eV h9 (by omega)) (eV h9 (by omega)) (eV h9 (by omega)) (eV h9 (by omega)) (eV h9 (by omega)) (eV h9 (by omega)) (eV h9 (by omega)) (eV h9 (by omega))) (BOKc (bV h9 (by omega) (by omega) (by omega)) (BOKc (bO h9 hop (by omega) (by omega) (by omega)) BOKn))
  · exact use_run run_20_3 (xok9 h9 (eV h9 (by omega)) (eV h9 (by omega)) (eV h9 (by omega)) (eV h9 (by omega)) (eV h9 (by omega)) (eV h9 (by omega)) (eV h9 (by omega)) (eV h9 (by omega)) (eV h9 (by omega))) (BOKc (bV h9 (by omega) (by omega) (by omega)) (BOKc (bO h9 hop (by omega) (by omega) (by omega)) BOKn))
theorem lop_21 (h9 : dLen D = 9) (hop : dScr D 3 &&& nI 31 = nI 21) : sm D 0 61 (dL D (rh D) (sg D) lvL) [] (hD D (rh D) (sg D) h0 hp3) 273 54730 (fun v _ => v = some (.int (nI 1))) := by
  have i4 := i32_b (dScr D 4)
  rcases rng 2 (dScr D 4) (by omega) with ⟨n4, hn4, q4⟩ | b4 | b4
  · rcases (show n4 = 0 ∨ n4 = 1 by omega) with rfl | rfl
    · exact use_run run_21_0 (xok9 h9 (eV h9 (by omega)) (eV h9 (by omega)) (eV h9 (by omega)) (eV h9 (by omega)) (eK q4) (eV h9 (by omega)) (eV h9 (by omega)) (eV h9 (by omega)) (eV h9 (by omega))) (BOKc (bO h9 hop (by omega) (by omega) (by omega)) BOKn)
    · exact use_run run_21_1 (xok9 h9 (eV h9 (by omega)) (eV h9 (by omega)) (eV h9 (by omega)) (eV h9 (by omega)) (eK q4) (eV h9 (by omega)) (eV h9 (by omega)) (eV h9 (by omega)) (eV h9 (by omega))) (BOKc (bO h9 hop (by omega) (by omega) (by omega)) BOKn)
  · exact use_run run_21_2 (xok9 h9 (eV h9 (by omega)) (eV h9 (by omega)) (eV h9 (by omega)) (eV h9 (by omega)) (eV h9 (by omega)) (eV h9 (by omega)) (eV h9 (by omega)) (eV h9 (by omega)) (eV h9 (by omega))) (BOKc (bV h9 (by omega) (by omega) (by omega)) (BOKc (bO h9 hop (by omega) (by omega) (by omega)) BOKn))
  · exact use_run run_21_3 (xok9 h9 (eV h9 (by omega)) (eV h9 (by omega)) (eV h9 (by omega)) (eV h9 (by omega)) (eV h9 (by omega)) (eV h9 (by omega)) (eV h9 (by omega)) (eV h9 (by omega)) (eV h9 (by omega))) (BOKc (bV h9 (by omega) (by omega) (by omega)) (BOKc (bO h9 hop (by omega) (by omega) (by omega)) BOKn))
theorem lop_22 (h9 : dLen D = 9) {k : Nat} (hk : k < 32) (h22 : 22 ≤ k) (hop : dScr D 3 &&& nI 31 = nI k) : sm D 0 61 (dL D (rh D) (sg D) lvL) [] (hD D (rh D) (sg D) h0 hp3) 273 54730 (fun v _ => v = some (.int (nI 1))) := by
  exact use_run run_22_0 (xok9 h9 (eV h9 (by omega)) (eV h9 (by omega)) (eV h9 (by omega)) (eV h9 (by omega)) (eV h9 (by omega)) (eV h9 (by omega)) (eV h9 (by omega)) (eV h9 (by omega)) (eV h9 (by omega))) (BOKc (bO h9 hop (by omega) (by omega) (by omega)) BOKn)
set_option maxRecDepth 100000 in
theorem law_61 (h9 : dLen D = 9) : sm D 0 61 (dL D (rh D) (sg D) lvL) [] (hD D (rh D) (sg D) h0 hp3) 273 54730 (fun v _ => v = some (.int (nI 1))) := by
  obtain ⟨k, hk, hop⟩ := opE (dScr D 3)
  rcases (show k = 0 ∨ k = 1 ∨ k = 2 ∨ k = 3 ∨ k = 4 ∨ k = 5 ∨ k = 6 ∨ k = 7 ∨ k = 8 ∨ k = 9 ∨ k = 10 ∨ k = 11 ∨ k = 12 ∨ k = 13 ∨ k = 14 ∨ k = 15 ∨ k = 16 ∨ k = 17 ∨ k = 18 ∨ k = 19 ∨ k = 20 ∨ k = 21 ∨ 22 ≤ k by omega) with rfl | rfl | rfl | rfl | rfl | rfl | rfl | rfl | rfl | rfl | rfl | rfl | rfl | rfl | rfl | rfl | rfl | rfl | rfl | rfl | rfl | rfl | h22
  · exact lop_0 h9 hop
  · exact lop_1 h9 hop
  · exact lop_2 h9 hop
  · exact lop_3 h9 hop
  · exact lop_4 h9 hop
  · exact lop_5 h9 hop
  · exact lop_6 h9 hop
  · exact lop_7 h9 hop
  · exact lop_8 h9 hop
  · exact lop_9 h9 hop
  · exact lop_10 h9 hop
  · exact lop_11 h9 hop
  · exact lop_12 h9 hop
  · exact lop_13 h9 hop
  · exact lop_14 h9 hop
  · exact lop_15 h9 hop
  · exact lop_16 h9 hop
  · exact lop_17 h9 hop
  · exact lop_18 h9 hop
  · exact lop_19 h9 hop
  · exact lop_20 h9 hop
  · exact lop_21 h9 hop
  · exact lop_22 h9 hk h22 hop
set_option maxRecDepth 100000 in
/-- the law answers true on every script of at most nine ints -/
theorem law_all (hL : dLen D ≤ 9) (hn : h0.2.2 = ft_B D) : sm D 0 0 [(0, .ref D.2.2.2.2.2.1)] [] h0 0 0 (fun v _ => v = some (.int (nI 1))) := by
  refine law_pre hL hn ?_
  refine ft_run_ok k_L_law 2 _ _ _ _ [] rfl trivial ?_
  obtain ⟨hd, -, -⟩ := ft_row_ok (y := 0) (pc := 54) k_L_law rfl
  refine sm_slen (v := .int (nI (dLen D))) hd rfl ?_
  refine ft_run_ok k_L_law 2 _ _ _ _ [] rfl trivial ?_
  refine r_icmp k_L_law rfl rfl (fun c => ?_) (fun c => ?_)
  · refine ft_run_ok k_L_law 1 _ _ _ _ [] rfl trivial ?_
    exact r_ret (v := some (.int (nI 1))) k_L_law rfl rfl (Nat.le_of_ble_eq_true rfl) (Nat.le_of_ble_eq_true rfl) rfl
  · have h9 : dLen D = 9 := by
      by_cases h : dLen D = 9
      · exact h
      · exfalso
        apply c
        generalize dLen D = L at hL h
        rcases (show L = 0 ∨ L = 1 ∨ L = 2 ∨ L = 3 ∨ L = 4 ∨ L = 5 ∨ L = 6 ∨ L = 7 ∨ L = 8 by omega) with rfl | rfl | rfl | rfl | rfl | rfl | rfl | rfl | rfl
        all_goals (show nI _ - nI 6 < nI 3; decide)
    exact law_61 h9
end LAW2
