/-! the calls that the exact runs are told: rows that are filled, Math.floorMod, the reference's pipe on rows of nothing sent -/
section TOLD
variable {D : ft_G} {h : ft_H}
theorem ft_row_row {h : ft_H} {a : Nat} {f g : Nat → Value} : ft_row (ft_row h a f) a g = ft_row h a g := by
  refine Prod.ext ?_ rfl
  funext b j
  show (if b = a then g j else if b = a then f j else h.1 b j) = (if b = a then g j else h.1 b j)
  by_cases e : b = a
  · rw [if_pos e, if_pos e]
  · rw [if_neg e, if_neg e, if_neg e]
theorem ft_row_self {h : ft_H} {a : Nat} {f : Nat → Value} (hf : ∀ j, f j = h.1 a j) : ft_row h a f = h := by
  refine Prod.ext ?_ rfl
  funext b j
  show (if b = a then f j else h.1 b j) = h.1 b j
  by_cases e : b = a
  · rw [if_pos e, e, hf]
  · rw [if_neg e]
theorem ft_set_row {h : ft_H} {a k : Nat} {f : Nat → Value} {v : Value} : ft_set (ft_row h a f) a k v = ft_row h a (fun j => if j = k then v else f j) := by
  refine Prod.ext ?_ rfl
  funext b j
  show (if b = a ∧ j = k then v else if b = a then f j else h.1 b j) = (if b = a then (if j = k then v else f j) else h.1 b j)
  by_cases e : b = a
  · by_cases e2 : j = k
    · rw [if_pos ⟨e, e2⟩, if_pos e, if_pos e2]
    · rw [if_neg (fun z => e2 z.2), if_pos e, if_pos e, if_neg e2]
  · rw [if_neg (fun z => e z.1), if_neg e, if_neg e]
/-- a row filled up to a place -/
def ft_fil (h : ft_H) (a i : Nat) (w : Value) : Nat → Value := fun j => if j < i then w else h.1 a j
theorem ft_fil_s {h : ft_H} {a i : Nat} {w : Value} : (fun j => if j = i then w else ft_fil h a i w j) = ft_fil h a (i + 1) w := by
  funext j
  unfold ft_fil
  by_cases e : j = i
  · rw [if_pos e, if_pos (by omega)]
  · rw [if_neg e]
    by_cases e2 : j < i
    · rw [if_pos e2, if_pos (by omega)]
    · rw [if_neg e2, if_neg (by omega)]
theorem ft_row_K {h : ft_H} {a b : Nat} {f : Nat → Value} : (ft_row h a f).2 = h.2 := rfl
set_option maxRecDepth 100000 in
theorem t_fillB {a m : Nat} {x : Int32} (hk : ft_kd (h.2.1 a).1 = some (.inr .byte)) (hm : (h.2.1 a).2 = m) (hl : m < 2147483648) (hB : ft_B D ≤ a) : sm D y_Arrays_fill 0 (lv_args 0 [.ref a, .int x]) [] h 0 0 (fun v h' => v = none ∧ h' = ft_row h a (ft_fil h a m (narrow .byte (.int x)))) := by
  have L5 : ∀ (t i : Nat), i ≤ m → m - i < t → sm D y_Arrays_fill 5 [(3, .int (nI m)), (2, .int (nI i)), (0, .ref a), (1, .int x)] [] (ft_row h a (ft_fil h a i (narrow .byte (.int x)))) 0 0 (fun v h' => v = none ∧ h' = ft_row h a (ft_fil h a m (narrow .byte (.int x)))) := by
    intro t
    induction t with
    | zero => intro i _ ht; exact absurd ht (Nat.not_lt_zero _)
    | succ t ih =>
      intro i hi ht
      refine ft_run_ok k_Arrays_fill 2 _ _ _ _ [] rfl trivial ?_
      refine r_icmp k_Arrays_fill rfl rfl (fun c1 => ?_) (fun c1 => ?_)
      · have g := ft_le (a := m) (b := i) (by omega) (by omega) c1
        have e : i = m := by omega
        subst e
        exact r_ret (v := none) k_Arrays_fill rfl trivial (Nat.le_of_ble_eq_true rfl) (Nat.le_of_ble_eq_true rfl) ⟨rfl, rfl⟩
      · have g := ft_nle (a := i) (b := m) (by omega) (by omega) c1
        refine ft_run_ok k_Arrays_fill 6 _ _ _ _ [] rfl ⟨hk, hB, ?_, trivial⟩ ?_
        · show vp_in (nI i) (h.2.1 a).2
          rw [hm]; exact vpE g hl
        · rw [clampE (by omega), ft_set_row, ft_fil_s, show (nI i + nI 1) = nI (i + 1) from by simp only [nI_add]]
          exact sm_sub [1, 0, 2, 3] rfl (ih (i + 1) (by omega) (by omega))
  refine ft_run_ok k_Arrays_fill 5 _ _ _ _ [.int (nI m)] rfl ⟨⟨_, hk⟩, ?_, trivial⟩ ?_
  · rw [hm]; rfl
  · have q := L5 _ 0 (by omega) (Nat.lt_succ_self _)
    rw [ft_row_self (f := ft_fil h a 0 (narrow .byte (.int x))) (fun j => by unfold ft_fil; rw [if_neg (by omega)])] at q
    exact q
/-- Math.floorMod of 5 -/
def ftFm5 (x : Int32) : Int32 := if 0 ≤ x ^^^ nI 5 then x - x / nI 5 * nI 5 else if x - x / nI 5 * nI 5 = 0 then x - x / nI 5 * nI 5 else x - x / nI 5 * nI 5 + nI 5
theorem t_floorMod {x : Int32} : sm D y_Math_floorMod 0 (lv_args 0 [.int x, .int (nI 5)]) [] h 0 0 (fun v h' => v = some (.int (ftFm5 x)) ∧ h' = h) := by
  refine ft_run_ok k_Math_floorMod 7 _ _ _ _ [] rfl ⟨by decide, trivial⟩ ?_
  refine r_if k_Math_floorMod rfl rfl (fun c1 => ?_) (fun c1 => ?_)
  · refine ft_run_ok k_Math_floorMod 1 _ _ _ _ [] rfl trivial ?_
    exact r_ret (v := some (.int _)) k_Math_floorMod rfl trivial (Nat.le_of_ble_eq_true rfl) (Nat.le_of_ble_eq_true rfl) ⟨by unfold ftFm5; rw [if_pos (show 0 ≤ x ^^^ nI 5 from c1)], rfl⟩
  · refine ft_run_ok k_Math_floorMod 1 _ _ _ _ [] rfl trivial ?_
    refine r_if k_Math_floorMod rfl rfl (fun c2 => ?_) (fun c2 => ?_)
    · refine ft_run_ok k_Math_floorMod 1 _ _ _ _ [] rfl trivial ?_
      exact r_ret (v := some (.int _)) k_Math_floorMod rfl trivial (Nat.le_of_ble_eq_true rfl) (Nat.le_of_ble_eq_true rfl) ⟨by unfold ftFm5; rw [if_neg (show ¬ 0 ≤ x ^^^ nI 5 from c1), if_pos (show x - x / nI 5 * nI 5 = 0 from c2)], rfl⟩
    · refine ft_run_ok k_Math_floorMod 3 _ _ _ _ [] rfl trivial ?_
      exact r_ret (v := some (.int _)) k_Math_floorMod rfl trivial (Nat.le_of_ble_eq_true rfl) (Nat.le_of_ble_eq_true rfl) ⟨by unfold ftFm5; rw [if_neg (show ¬ 0 ≤ x ^^^ nI 5 from c1), if_neg (show ¬ x - x / nI 5 * nI 5 = 0 from c2)], rfl⟩
/-- what pipe reads of the reference: its numbers, and that nothing was sent -/
def PipeF (h : ft_H) (a e : Nat) : Prop := (h.2.1 a).1 = kd_M ∧ (∃ (b : Nat) (x : Int64), h.1 a 10 = .ref b ∧ ft_kd (h.2.1 b).1 = some (.inr .long) ∧ (h.2.1 b).2 = 2 ∧ h.1 b e = .long x) ∧ (∃ (b : Nat) (x : Int64), h.1 a 11 = .ref b ∧ ft_kd (h.2.1 b).1 = some (.inr .long) ∧ (h.2.1 b).2 = 2 ∧ h.1 b e = .long x) ∧ (∃ b : Nat, h.1 a 17 = .ref b ∧ ft_kd (h.2.1 b).1 = some (.inr .int) ∧ (h.2.1 b).2 = 512 ∧ ∀ j, j < 512 → h.1 b j = .int (nI 0))
set_option maxRecDepth 100000 in
theorem t_isOwnX {a e : Nat} {x : Int64} (F : PipeF h a e) (he : e < 2) : sm D y_M_isOwn 0 (lv_args 0 [.ref a, .int (nI e), .long x]) [] h 0 0 (fun v h' => (∃ b : Nat, b ≤ 1 ∧ v = some (.int (nI b))) ∧ h' = h) := by
  obtain ⟨hk, ⟨b1, x1, p1, q1, l1, v1⟩, ⟨b2, x2, p2, q2, l2, v2⟩, -⟩ := F
  have ce : (nI e).toNatClampNeg = e := clampE (by omega)
  refine ft_run_ok k_M_isOwn 6 _ _ _ _ [.ref b1, .long x1] rfl ⟨hk, p1, q1, by rw [l1]; exact vpE he (by decide), by rw [ce]; exact v1, trivial⟩ ?_
  refine r_callS (as := [.long (x1 - x)]) (r := []) k_M_isOwn rfl z_M_around rfl (Nat.le_of_ble_eq_true rfl) (Nat.le_of_ble_eq_true rfl) (Nat.le_of_ble_eq_true rfl) (Nat.le_of_ble_eq_true rfl) (t_M_around) ?_
  rintro v h' ⟨⟨n7, b8, rfl⟩, rfl⟩
  refine ft_run_ok k_M_isOwn 4 _ _ _ _ [] rfl trivial ?_
  refine r_callS (as := [.long (lN n7), .long (lN 1), .long (lN 255)]) (r := []) k_M_isOwn rfl z_M_in rfl (Nat.le_of_ble_eq_true rfl) (Nat.le_of_ble_eq_true rfl) (Nat.le_of_ble_eq_true rfl) (Nat.le_of_ble_eq_true rfl) (t_M_in) ?_
  rintro v h' ⟨⟨n9, b10, rfl, m11⟩, rfl⟩
  refine r_if k_M_isOwn rfl rfl (fun c12 => ?_) (fun c12 => ?_)
  · refine ft_run_ok k_M_isOwn 1 _ _ _ _ [] rfl trivial ?_
    exact r_ret (v := some (.int (nI 0))) k_M_isOwn rfl rfl (Nat.le_of_ble_eq_true rfl) (Nat.le_of_ble_eq_true rfl) ⟨⟨0, by omega, rfl⟩, rfl⟩
  · refine ft_run_ok k_M_isOwn 5 _ _ _ _ [.ref b2, .long x2] rfl ⟨hk, p2, q2, by rw [l2]; exact vpE he (by decide), by rw [ce]; exact v2, trivial⟩ ?_
    refine r_callS (as := [.long x, .long x2]) (r := []) k_M_isOwn rfl z_M_before rfl (Nat.le_of_ble_eq_true rfl) (Nat.le_of_ble_eq_true rfl) (Nat.le_of_ble_eq_true rfl) (Nat.le_of_ble_eq_true rfl) (t_M_before) ?_
    rintro v h' ⟨⟨n21, b22, rfl⟩, rfl⟩
    refine r_if k_M_isOwn rfl rfl (fun c23 => ?_) (fun c23 => ?_)
    · refine ft_run_ok k_M_isOwn 1 _ _ _ _ [] rfl trivial ?_
      exact r_ret (v := some (.int (nI 0))) k_M_isOwn rfl rfl (Nat.le_of_ble_eq_true rfl) (Nat.le_of_ble_eq_true rfl) ⟨⟨0, by omega, rfl⟩, rfl⟩
    · refine ft_run_ok k_M_isOwn 2 _ _ _ _ [] rfl trivial ?_
      exact r_ret (v := some (.int (nI 1))) k_M_isOwn rfl rfl (Nat.le_of_ble_eq_true rfl) (Nat.le_of_ble_eq_true rfl) ⟨⟨1, by omega, rfl⟩, rfl⟩
set_option maxRecDepth 100000 in
theorem t_pipe0 {a e : Nat} (F : PipeF h a e) (he : e < 2) : sm D y_M_pipe 0 (lv_args 0 [.ref a, .int (nI e)]) [] h 0 0 (fun v h' => v = some (.int (nI 0)) ∧ h' = h) := by
  have ce : (nI e).toNatClampNeg = e := clampE (by omega)
  obtain ⟨hk, ⟨b1, x1, p1, q1, l1, v1⟩, -, ⟨b3, p3, q3, l3, v3⟩⟩ := id F
  have L4 : ∀ (t4 : Nat) (j : Nat), j ≤ 256 → 256 - j < t4 → sm D y_M_pipe 4 [(0, .ref a), (1, .int (nI e)), (2, .int (nI 0)), (3, .int (nI j))] [] h 0 0 (fun v h' => v = some (.int (nI 0)) ∧ h' = h) := by
    intro t4
    induction t4 with
    | zero => intro j f4_0 ht4; exact absurd ht4 (Nat.not_lt_zero _)
    | succ t4 ih4 =>
      intro j f4_0 ht4
      refine ft_run_ok k_M_pipe 2 _ _ _ _ [] rfl trivial ?_
      refine r_icmp k_M_pipe rfl rfl (fun c1 => ?_) (fun c1 => ?_)
      · refine ft_run_ok k_M_pipe 1 _ _ _ _ [] rfl trivial ?_
        exact r_ret (v := some (.int (nI 0))) k_M_pipe rfl trivial (Nat.le_of_ble_eq_true rfl) (Nat.le_of_ble_eq_true rfl) ⟨rfl, rfl⟩
      · have g3 := ft_nle (a := j) (b := 256) (by omega) (by omega) c1
        refine ft_run_ok k_M_pipe 7 _ _ _ _ [.ref b1, .long x1] rfl ⟨hk, p1, q1, by rw [l1]; exact vpE he (by decide), by rw [ce]; exact v1, trivial⟩ ?_
        refine r_callS (as := [.long (x1 - ((nI j).toInt64))]) (r := []) k_M_pipe rfl z_M_around rfl (Nat.le_of_ble_eq_true rfl) (Nat.le_of_ble_eq_true rfl) (Nat.le_of_ble_eq_true rfl) (Nat.le_of_ble_eq_true rfl) (t_M_around) ?_
        rintro v h' ⟨⟨n10, b11, rfl⟩, rfl⟩
        refine ft_run_ok k_M_pipe 5 _ _ _ _ [] rfl trivial ?_
        refine r_callV (as := [.int (nI e), .long (lN n10)]) (a := a) (ci := 11) (r := [.int (nI 0)]) k_M_pipe rfl z_M_isOwn rfl (by decide) rfl hk (Nat.le_of_ble_eq_true rfl) (Nat.le_of_ble_eq_true rfl) (Nat.le_of_ble_eq_true rfl) (Nat.le_of_ble_eq_true rfl) (t_isOwnX F he) ?_
        rintro v h' ⟨⟨n12, b13, rfl⟩, rfl⟩
        refine r_if k_M_pipe rfl rfl (fun c14 => ?_) (fun c14 => ?_)
        · refine ft_run_ok k_M_pipe 5 _ _ _ _ [] rfl trivial ?_
          rw [show ((nI j) + nI 1) = nI (j + 1) from by simp only [nI_add], show nI 0 + nI 0 = nI 0 from rfl]
          exact sm_sub [3, 4, 1, 0] rfl (ih4 (j + 1) (by omega) (by omega))
        · refine ft_run_ok k_M_pipe 4 _ _ _ _ [.ref b3] rfl ⟨hk, p3, trivial⟩ ?_
          refine r_callS (as := [.int (nI e), .long (lN n10)]) (r := [.ref b3, .int (nI 0)]) k_M_pipe rfl z_M_at rfl (Nat.le_of_ble_eq_true rfl) (Nat.le_of_ble_eq_true rfl) (Nat.le_of_ble_eq_true rfl) (Nat.le_of_ble_eq_true rfl) (t_M_at (e := e) rfl he) ?_
          rintro v h' ⟨⟨n21, b22, rfl⟩, rfl⟩
          refine ft_run_ok k_M_pipe 2 _ _ _ _ [.int (nI 0)] rfl ⟨q3, by rw [l3]; exact vpE b22 (by decide), by rw [clampE (by omega)]; exact v3 _ b22, trivial⟩ ?_
          refine r_icmp k_M_pipe rfl rfl (fun c25 => ?_) (fun c25 => ?_)
          · refine ft_run_ok k_M_pipe 5 _ _ _ _ [] rfl trivial ?_
            rw [show ((nI j) + nI 1) = nI (j + 1) from by simp only [nI_add], show nI 0 + nI 0 = nI 0 from rfl]
            exact sm_sub [3, 4, 1, 0] rfl (ih4 (j + 1) (by omega) (by omega))
          · exact absurd (show ft_cond2 .ne (nI 0) (nI 1) from (by decide : ¬ nI 0 = nI 1)) c25
  refine ft_run_ok k_M_pipe 4 _ _ _ _ [] rfl trivial ?_
  exact sm_sub [2, 3, 1, 0] rfl (L4 _ 1 (by omega) (Nat.lt_succ_self _))
theorem t_min2 {a b : Nat} (ha : a < 2147483648) (hb : b < 2147483648) : sm D y_Math_min2 0 (lv_args 0 [.int (nI a), .int (nI b)]) [] h 0 0 (fun v h' => v = some (.int (nI (min a b))) ∧ h' = h) := by
  refine ft_run_ok k_Math_min2 2 _ _ _ _ [] rfl trivial ?_
  refine r_icmp k_Math_min2 rfl rfl (fun c1 => ?_) (fun c1 => ?_)
  · have g := ft_lt (a := b) (b := a) (by omega) (by omega) c1
    refine ft_run_ok k_Math_min2 1 _ _ _ _ [] rfl trivial ?_
    exact r_ret (v := some (.int (nI b))) k_Math_min2 rfl trivial (Nat.le_of_ble_eq_true rfl) (Nat.le_of_ble_eq_true rfl) ⟨by rw [Nat.min_eq_right (by omega)], rfl⟩
  · have g := ft_nlt (a := b) (b := a) (by omega) (by omega) c1
    refine ft_run_ok k_Math_min2 2 _ _ _ _ [] rfl trivial ?_
    exact r_ret (v := some (.int (nI a))) k_Math_min2 rfl trivial (Nat.le_of_ble_eq_true rfl) (Nat.le_of_ble_eq_true rfl) ⟨by rw [Nat.min_eq_left (by omega)], rfl⟩
theorem t_max {a b : Nat} (ha : a < 2147483648) (hb : b < 2147483648) : sm D y_Math_max 0 (lv_args 0 [.int (nI a), .int (nI b)]) [] h 0 0 (fun v h' => v = some (.int (nI (max a b))) ∧ h' = h) := by
  refine ft_run_ok k_Math_max 2 _ _ _ _ [] rfl trivial ?_
  refine r_icmp k_Math_max rfl rfl (fun c1 => ?_) (fun c1 => ?_)
  · have g := ft_lt (a := a) (b := b) (by omega) (by omega) c1
    refine ft_run_ok k_Math_max 1 _ _ _ _ [] rfl trivial ?_
    exact r_ret (v := some (.int (nI b))) k_Math_max rfl trivial (Nat.le_of_ble_eq_true rfl) (Nat.le_of_ble_eq_true rfl) ⟨by rw [Nat.max_eq_right (by omega)], rfl⟩
  · have g := ft_nlt (a := a) (b := b) (by omega) (by omega) c1
    refine ft_run_ok k_Math_max 2 _ _ _ _ [] rfl trivial ?_
    exact r_ret (v := some (.int (nI a))) k_Math_max rfl trivial (Nat.le_of_ble_eq_true rfl) (Nat.le_of_ble_eq_true rfl) ⟨by rw [Nat.max_eq_left (by omega)], rfl⟩
theorem ft_set_same {h : ft_H} {a k : Nat} {v : Value} (hv : h.1 a k = v) : ft_set h a k v = h := by
  refine Prod.ext ?_ rfl
  funext b j
  show (if b = a ∧ j = k then v else h.1 b j) = h.1 b j
  by_cases e : b = a ∧ j = k
  · rw [if_pos e, e.1, e.2, hv]
  · rw [if_neg e]
set_option maxRecDepth 100000 in
theorem t_Pa_fill0 {a b c mb mc : Nat} (hk : (h.2.1 a).1 = kd_Pa) (hB : ft_B D ≤ a) (hBb : ft_B D ≤ b) (p0 : h.1 a 0 = .ref b) (p1 : h.1 a 1 = .int (nI 0)) (kb : ft_kd (h.2.1 b).1 = some (.inr .int)) (lb : (h.2.1 b).2 = mb) (kc : ft_kd (h.2.1 c).1 = some (.inr .int)) (lc : (h.2.1 c).2 = mc) (hb : mb < 2147483648) (hc : mc < 2147483648) : sm D y_Pa_fill 0 (lv_args 0 [.ref a, .ref c, .int (nI 0)]) [] h 0 0 (fun v h' => v = none ∧ h' = h) := by
  refine ft_run_ok k_Pa_fill 8 _ _ _ _ [.int (nI mc), .ref b, .int (nI mb)] rfl ⟨⟨_, kc⟩, by rw [lc]; rfl, hk, p0, ⟨_, kb⟩, by rw [lb]; rfl, trivial⟩ ?_
  refine r_callS (as := [.int (nI mc), .int (nI mb)]) (r := [.int (nI 0), .int (nI 0), .ref a]) k_Pa_fill rfl z_Math_min2 rfl (Nat.le_of_ble_eq_true rfl) (Nat.le_of_ble_eq_true rfl) (Nat.le_of_ble_eq_true rfl) (Nat.le_of_ble_eq_true rfl) (t_min2 hc hb) ?_
  rintro v h' ⟨rfl, rfl⟩
  refine r_callS (as := [.int (nI 0), .int (nI (min mc mb))]) (r := [.int (nI 0), .ref a]) k_Pa_fill rfl z_Math_min2 rfl (Nat.le_of_ble_eq_true rfl) (Nat.le_of_ble_eq_true rfl) (Nat.le_of_ble_eq_true rfl) (Nat.le_of_ble_eq_true rfl) (t_min2 (by omega) (by omega)) ?_
  rintro v h' ⟨rfl, rfl⟩
  rw [Nat.zero_min]
  refine r_callS (as := [.int (nI 0), .int (nI 0)]) (r := [.ref a]) k_Pa_fill rfl z_Math_max rfl (Nat.le_of_ble_eq_true rfl) (Nat.le_of_ble_eq_true rfl) (Nat.le_of_ble_eq_true rfl) (Nat.le_of_ble_eq_true rfl) (t_max (by omega) (by omega)) ?_
  rintro v h' ⟨rfl, rfl⟩
  have hs : ft_set h' a 1 (.int (nI (max 0 0))) = h' := ft_set_same p1
  refine ft_run_ok k_Pa_fill 1 _ _ _ _ [] rfl ⟨hk, hB, rfl, rfl, trivial⟩ ?_
  rw [hs]
  refine ft_run_ok k_Pa_fill 7 _ _ _ _ [.ref b, .int (nI 0)] rfl ⟨hk, p0, hk, p1, trivial⟩ ?_
  obtain ⟨hd, hn, -⟩ := ft_row_ok (y := y_Pa_fill) (pc := 33) k_Pa_fill rfl
  have z0 : (nI 0).toNatClampNeg = 0 := rfl
  refine sm_copy (ix := 28) (a0 := c) (a := b) (sp := nI 0) (dp := nI 0) (n := nI 0) hd (ft_has_in (j := 887) (by decide +kernel)) (ft_has_in (j := 889) (by decide +kernel)) (ft_has_in (j := 888) (by decide +kernel)) (ft_has_in (j := 85) (by decide +kernel)) kc kb hBb (by decide) (by decide) (by decide) (by rw [z0]; omega) (by rw [z0]; omega) (fun i hi => by rw [z0] at hi; omega) (by decide +kernel) (by decide +kernel) ?_
  rw [z0, ft_row_self (fun j => by simp [va_cpy])]
  exact r_ret (v := none) k_Pa_fill rfl trivial (Nat.le_of_ble_eq_true rfl) (Nat.le_of_ble_eq_true rfl) ⟨rfl, rfl⟩
end TOLD
