/-! CHANGES BY HAND: THE CLASS'S PARTS -/
def up (s : Nat → Nat) (k v : Nat) : Nat → Nat := fun j => if j = k then v else s j
def tgl (o p : Nat) : Nat := if bt o p = 0 then o + 2 ^ p else o - 2 ^ p
theorem xor_t : ∀ o, o < 128 → ∀ p, p < 7 → nI o ^^^ (nI 1 <<< (nI p &&& nI 31)) = nI (tgl o p) := by decide +kernel
theorem or_t : ∀ o, o < 16 → ∀ p, p < 4 → nI o ||| (nI 1 <<< (nI p &&& nI 31)) = nI (if bt o p = 0 then o + 2 ^ p else o) := by decide +kernel
theorem or_b : ∀ o, o < 16 → ∀ p, p < 4 → (if bt o p = 0 then o + 2 ^ p else o) < 16 ∧ ∀ q, q < 4 → bt (if bt o p = 0 then o + 2 ^ p else o) q = if q = p then 1 else bt o q := by decide +kernel
section T1
variable {d : Nat} {μ : PM} {Q : Option Value → PM → Prop} {pa : Nat → Nat} {lw : LW} {s : Nat → Nat} {un : List (Nat → Nat)} {mk : Nat → Option (Nat → Nat)} {tp : List Nat} {n : Nat}
theorem c64 : R d 64 0 [some (.ref 41000006)] [] μ Q = Q none (wI μ 41000006 2 (nI 0)) := by
  simp (disch := first | assumption | omega) only [r64_0, r64_1, r64_2, r64_5, rI_wI, rL_wL, rR_wR, rI_wL, rI_wR, rL_wI, rL_wR, rR_wI, rR_wL, va_rf_some, va_rf_none, Option.toList_some, Option.toList_none, List.nil_append, List.cons_append, true_and, and_true, false_and, and_false, and_self, if_true, if_false, not_true_eq_false, not_false_eq_true, or_false, false_or, or_true, true_or, or_self, ite_true, ite_false, Option.some.injEq, reduceCtorEq, Nat.reduceMod, Nat.reduceDiv, Nat.reduceLeDiff, Nat.reduceEqDiff, Nat.reduceAdd, Nat.reduceMul, Nat.reduceSub, Nat.reduceLT, sw_nil, sw_int, sw_long, sw_ref, li, lo, nI_m1, ng_eq, nn_eq, en_eq, ng_le, ng_lt, Int32.neg_neg, nI_add, pk_mul, nI_clampO, nI_ltO, nI_leO, nI_eqO, nI_subO, nle_t, nle_f, nlt_t, nlt_f, neq_f]
theorem CPs_0 (h : CPs μ n un) : CPs (wI μ 41000006 2 (nI 0)) n [] := by
  obtain ⟨-, nx, h2, h3, -⟩ := h
  refine ⟨by simp only [rI_wI, and_self, if_true, List.length_nil], nx, h2, ?_, fun i hi => absurd hi (Nat.not_lt_zero i)⟩
  rw [rI_wI, if_neg (by omega)]; exact h3
def kp (μ : PM) (nx z : Nat) : PM := wI (wI (tk μ (pstA nx) (pstO nx) 39000008 40000720) 41000006 1 (nI ((nx + 1) % 20))) 41000006 2 (nI z)
theorem pst_m (nx : Nat) : pstA nx % 100 = 8 ∧ pstO nx % 100 = 20 ∧ pstO nx / 100 % 10000 = 7 ∧ 2000000 ≤ pstO nx := by
  unfold pstA pstO; omega
theorem pst_n (nx : Nat) : pstA nx ≠ 39000008 ∧ pstO nx ≠ 39000008 ∧ pstA nx ≠ 41000006 ∧ pstO nx ≠ 41000006 ∧ pstA nx ≠ pstO nx ∧ pstA nx ≠ 40000720 ∧ pstO nx ≠ 40000720 := by
  unfold pstA pstO; omega
theorem pst_d {i j : Nat} (h : i ≠ j) : pstA i ≠ pstA j ∧ pstO i ≠ pstO j ∧ pstA i ≠ pstO j ∧ pstO i ≠ pstA j := by
  unfold pstA pstO; omega
theorem kp_EX (μ : PM) (nx z : Nat) : EX [pstO nx, pstA nx, 41000006] μ (kp μ nx z) := by
  refine EX_mo (EX_tr (EX_tr (tk_EX μ (pstA nx) (pstO nx) 39000008 40000720) (EX_wI _ _ _ _)) (EX_wI _ _ _ _)) ?_
  intro x hx
  simp only [List.mem_append, List.mem_cons, List.not_mem_nil, or_false] at hx ⊢
  rcases hx with ((h | h) | h) | h
  · exact Or.inl h
  · exact Or.inr (Or.inl h)
  · exact Or.inr (Or.inr h)
  · exact Or.inr (Or.inr h)
theorem ni3 {x a b c : Nat} (h1 : x ≠ a) (h2 : x ≠ b) (h3 : x ≠ c) : x ∉ [a, b, c] := by
  simp only [List.mem_cons, List.not_mem_nil, or_false, h1, h2, h3, not_false_eq_true]
theorem ni2 {x a b : Nat} (h1 : x ≠ a) (h2 : x ≠ b) : x ∉ [a, b] := by
  simp only [List.mem_cons, List.not_mem_nil, or_false, h1, h2, not_false_eq_true]
theorem ni1 {x a : Nat} (h1 : x ≠ a) : x ∉ [a] := by
  simp only [List.mem_cons, List.not_mem_nil, or_false, h1, not_false_eq_true]
theorem kp_new {z nx : Nat} (hS : CSt μ n s) (hn : n ≤ 7) : CSg (kp μ nx z) (pstA nx) (pstO nx) n s := by
  have q := pst_n nx
  exact EX_CSg (EX_wI _ _ _ _) (ni1 q.2.2.1) (ni1 q.2.2.2.1) (EX_CSg (EX_wI _ _ _ _) (ni1 q.2.2.1) (ni1 q.2.2.2.1) (tk_CSg q.2.2.2.2.1 hn hS))
theorem kp_old {nx i z : Nat} (h2 : nx < 20) (hi : i < 19) (h4 : CSg μ (pstA ((nx + 19 - i) % 20)) (pstO ((nx + 19 - i) % 20)) n s) : CSg (kp μ nx z) (pstA (((nx + 1) % 20 + 19 - (i + 1)) % 20)) (pstO (((nx + 1) % 20 + 19 - (i + 1)) % 20)) n s := by
  have e : ((nx + 1) % 20 + 19 - (i + 1)) % 20 = (nx + 19 - i) % 20 := by omega
  have hne : (nx + 19 - i) % 20 ≠ nx := by omega
  rw [e]
  have q := pst_d hne
  have q2 := pst_n ((nx + 19 - i) % 20)
  exact EX_CSg (kp_EX μ nx z) (ni3 q.2.2.1 q.1 q2.2.2.1) (ni3 q.2.1 q.2.2.2 q2.2.2.2.1) h4
theorem kp_1 (nx z : Nat) : rI (kp μ nx z) 41000006 2 = nI z := by
  unfold kp
  rw [rI_wI, if_pos ⟨rfl, rfl⟩]
theorem kp_2 (nx z : Nat) : rI (kp μ nx z) 41000006 1 = nI ((nx + 1) % 20) := by
  unfold kp
  rw [rI_wI, if_neg (by decide), rI_wI, if_pos ⟨rfl, rfl⟩]
theorem tk_len (un : List (Nat → Nat)) (s : Nat → Nat) : ((s :: un).take 20).length = if 20 < un.length + 1 then 20 else un.length + 1 := by
  rw [List.length_take, List.length_cons]; split <;> omega
theorem tk_get (un : List (Nat → Nat)) (s : Nat → Nat) {i : Nat} (hi : i + 1 < 20) : ((s :: un).take 20).getD (i + 1) (fun _ => 0) = un.getD i (fun _ => 0) := by
  simp only [List.getD_eq_getElem?_getD, List.getElem?_take, if_pos hi, List.getElem?_cons_succ]
theorem tk_get0 (un : List (Nat → Nat)) (s : Nat → Nat) : ((s :: un).take 20).getD 0 (fun _ => 0) = s := by
  simp only [List.take_succ_cons, List.getD_cons_zero]
theorem kp_all {nx z : Nat} (hS : CSt μ n s) (hn : n ≤ 7) (h2 : nx < 20) (h4 : ∀ i, i < un.length → CSg μ (pstA ((nx + 19 - i) % 20)) (pstO ((nx + 19 - i) % 20)) n (un.getD i (fun _ => 0))) (i : Nat) (hi : i < ((s :: un).take 20).length) : CSg (kp μ nx z) (pstA (((nx + 1) % 20 + 19 - i) % 20)) (pstO (((nx + 1) % 20 + 19 - i) % 20)) n (((s :: un).take 20).getD i (fun _ => 0)) := by
  have hi2 : i < 20 ∧ i < un.length + 1 := by rw [tk_len] at hi; split at hi <;> omega
  clear hi
  cases i with
  | zero =>
    have e : ((nx + 1) % 20 + 19 - 0) % 20 = nx := by omega
    rw [tk_get0, e]
    exact kp_new hS hn
  | succ i =>
    rw [tk_get un s hi2.1]
    exact kp_old h2 (by omega) (h4 i (by omega))
theorem kp_CPs {nx z : Nat} (hz : ((s :: un).take 20).length = z) (hS : CSt μ n s) (hn : n ≤ 7) (h2 : nx < 20) (h4 : ∀ i, i < un.length → CSg μ (pstA ((nx + 19 - i) % 20)) (pstO ((nx + 19 - i) % 20)) n (un.getD i (fun _ => 0))) : CPs (kp μ nx z) n ((s :: un).take 20) := by
  have e1 : rI (kp μ nx z) 41000006 2 = nI ((s :: un).take 20).length := by rw [hz]; exact kp_1 nx z
  exact ⟨e1, (nx + 1) % 20, Nat.mod_lt _ (by decide), kp_2 nx z, kp_all hS hn h2 h4⟩
theorem c65r {nx z : Nat} (hF : FX μ) (h1 : rI μ 41000006 2 = nI z) (h2 : nx < 20) (h3 : rI μ 41000006 1 = nI nx) (hz : z ≤ 20) : R (d + 1) 65 0 [some (.ref 41000006), some (.ref 39000008)] [] μ Q = Q none (kp μ nx (if 20 < z + 1 then 20 else z + 1)) := by
  obtain ⟨hA, hO, hO2, hO3⟩ := pst_m nx
  have q := pst_n nx
  have hX := tk_EX μ (pstA nx) (pstO nx) 39000008 40000720
  have e1 : ∀ j, rI (tk μ (pstA nx) (pstO nx) 39000008 40000720) 41000006 j = rI μ 41000006 j := fun j => hX.1 _ _ (ni2 (Ne.symm q.2.2.2.1) (Ne.symm q.2.2.1))
  have g1 := fx_pst hF h2
  have cc := fun Q => c83 (d := d) (μ := μ) (Q := Q) hA (show 39000008 % 100 = 8 by decide) q.1 q.2.1 hO (show 40000720 % 100 = 20 by decide) hO2 (show 40000720 / 100 % 10000 = 7 by decide) hO3 (show 2000000 ≤ 40000720 by decide) (fx_pso hF h2) (fx_39000008_0 hF)
  by_cases hq : 20 < z + 1
  · rw [if_pos hq]
    simp (disch := first | assumption | omega) only [r65_0, r65_1, r65_4, r65_5, r65_8, r65_9, r65_10, r65_13, r65_14, r65_15, r65_18, r65_19, r65_20, r65_22, r65_23, r65_26, r65_27, r65_28, r65_31, r65_32, r65_33, r65_35, r65_38, r65_41, rI_wI, rL_wL, rR_wR, rI_wL, rI_wR, rL_wI, rL_wR, rR_wI, rR_wL, va_rf_some, va_rf_none, Option.toList_some, Option.toList_none, List.nil_append, List.cons_append, true_and, and_true, false_and, and_false, and_self, if_true, if_false, not_true_eq_false, not_false_eq_true, or_false, false_or, or_true, true_or, or_self, ite_true, ite_false, Option.some.injEq, reduceCtorEq, Nat.reduceMod, Nat.reduceDiv, Nat.reduceLeDiff, Nat.reduceEqDiff, Nat.reduceAdd, Nat.reduceMul, Nat.reduceSub, Nat.reduceLT, sw_nil, sw_int, sw_long, sw_ref, li, lo, nI_m1, ng_eq, nn_eq, en_eq, ng_le, ng_lt, Int32.neg_neg, nI_add, pk_mul, nI_clampO, nI_ltO, nI_leO, nI_eqO, nI_subO, nle_t, nle_f, nlt_t, nlt_f, neq_f, fx_2000010_0, fx_2000010_1, fx_2000010_4, fx_2000010_5, fx_2000010_6, fx_2000010_8, fx_2000010_10, fx_2000010_11, fx_2000010_12, fx_2000010_13, fx_2000010_14, fx_2000010_15, fx_2000010_16, fx_2000010_17, fx_2000010_18, fx_3000009_0, fx_5000007_0, fx_5000007_1, fx_5000007_2, fx_5000007_3, fx_7000001_0, fx_11000005_1, fx_11000005_2, fx_11000005_3, fx_11000005_4, fx_11000005_5, fx_11000005_6, fx_11000005_10, fx_11000005_11, fx_11000005_12, fx_20000002_0, fx_20000002_2, fx_20000002_3, fx_20000002_4, fx_25000005_1, fx_25000005_2, fx_25000005_3, fx_25000005_4, fx_25000005_5, fx_25000005_6, fx_25000005_10, fx_25000005_11, fx_25000005_12, fx_34000002_0, fx_34000002_2, fx_34000002_3, fx_34000002_4, fx_39000008_0, fx_41000006_0, fx_42002024_0, fx_42002024_1, fx_42002024_2, fx_42002024_3, fx_42002024_4, fx_42002024_5, fx_42002024_6, fx_42002024_7, fx_42002024_8, fx_42002024_9, fx_42002024_10, fx_42002024_11, fx_42002024_12, fx_42002024_13, fx_42002024_14, fx_42002024_15, fx_42002024_16, fx_42002024_17, fx_42002024_18, fx_42002024_19, fx_43000008_0, fx_45000008_0, fx_47000008_0, fx_49000008_0, fx_51000008_0, fx_53000008_0, fx_55000008_0, fx_57000008_0, fx_59000008_0, fx_61000008_0, fx_63000008_0, fx_65000008_0, fx_67000008_0, fx_69000008_0, fx_71000008_0, fx_73000008_0, fx_75000008_0, fx_77000008_0, fx_79000008_0, fx_81000008_0, fx_83000424_0, fx_83000424_1, fx_83000424_2, fx_83000424_3, fx_85000004_0, fx_85000004_1, fx_85000004_2, fx_85000004_3, fx_85000004_4, fx_85000004_5, fx_85000004_6, fx_85000004_10, fx_102000008_0, fx_104000008_0, fx_106000008_0, fx_108000008_0, fx_110000011_1, fx_110000011_4, fx_110000011_5, fx_110000011_6, fx_110000011_9, fx_110000011_10, fx_110000011_11, fx_110000011_12, fx_110000011_14, fx_110000011_15, fx_110000011_20, fx_110000011_21, fx_110000011_22, fx_110000011_23, fx_110000011_25, fx_110000011_26, fx_110000011_31, fx_110000011_32, fx_110000011_37, fx_110000011_38, fx_110000011_39, fx_110000011_40, h1, h3, g1, hA, cc, e1, pk_rem]
    rfl
  · rw [if_neg hq]
    simp (disch := first | assumption | omega) only [r65_0, r65_1, r65_4, r65_5, r65_8, r65_9, r65_10, r65_13, r65_14, r65_15, r65_18, r65_19, r65_20, r65_22, r65_23, r65_26, r65_27, r65_28, r65_31, r65_32, r65_33, r65_35, r65_38, r65_41, rI_wI, rL_wL, rR_wR, rI_wL, rI_wR, rL_wI, rL_wR, rR_wI, rR_wL, va_rf_some, va_rf_none, Option.toList_some, Option.toList_none, List.nil_append, List.cons_append, true_and, and_true, false_and, and_false, and_self, if_true, if_false, not_true_eq_false, not_false_eq_true, or_false, false_or, or_true, true_or, or_self, ite_true, ite_false, Option.some.injEq, reduceCtorEq, Nat.reduceMod, Nat.reduceDiv, Nat.reduceLeDiff, Nat.reduceEqDiff, Nat.reduceAdd, Nat.reduceMul, Nat.reduceSub, Nat.reduceLT, sw_nil, sw_int, sw_long, sw_ref, li, lo, nI_m1, ng_eq, nn_eq, en_eq, ng_le, ng_lt, Int32.neg_neg, nI_add, pk_mul, nI_clampO, nI_ltO, nI_leO, nI_eqO, nI_subO, nle_t, nle_f, nlt_t, nlt_f, neq_f, fx_2000010_0, fx_2000010_1, fx_2000010_4, fx_2000010_5, fx_2000010_6, fx_2000010_8, fx_2000010_10, fx_2000010_11, fx_2000010_12, fx_2000010_13, fx_2000010_14, fx_2000010_15, fx_2000010_16, fx_2000010_17, fx_2000010_18, fx_3000009_0, fx_5000007_0, fx_5000007_1, fx_5000007_2, fx_5000007_3, fx_7000001_0, fx_11000005_1, fx_11000005_2, fx_11000005_3, fx_11000005_4, fx_11000005_5, fx_11000005_6, fx_11000005_10, fx_11000005_11, fx_11000005_12, fx_20000002_0, fx_20000002_2, fx_20000002_3, fx_20000002_4, fx_25000005_1, fx_25000005_2, fx_25000005_3, fx_25000005_4, fx_25000005_5, fx_25000005_6, fx_25000005_10, fx_25000005_11, fx_25000005_12, fx_34000002_0, fx_34000002_2, fx_34000002_3, fx_34000002_4, fx_39000008_0, fx_41000006_0, fx_42002024_0, fx_42002024_1, fx_42002024_2, fx_42002024_3, fx_42002024_4, fx_42002024_5, fx_42002024_6, fx_42002024_7, fx_42002024_8, fx_42002024_9, fx_42002024_10, fx_42002024_11, fx_42002024_12, fx_42002024_13, fx_42002024_14, fx_42002024_15, fx_42002024_16, fx_42002024_17, fx_42002024_18, fx_42002024_19, fx_43000008_0, fx_45000008_0, fx_47000008_0, fx_49000008_0, fx_51000008_0, fx_53000008_0, fx_55000008_0, fx_57000008_0, fx_59000008_0, fx_61000008_0, fx_63000008_0, fx_65000008_0, fx_67000008_0, fx_69000008_0, fx_71000008_0, fx_73000008_0, fx_75000008_0, fx_77000008_0, fx_79000008_0, fx_81000008_0, fx_83000424_0, fx_83000424_1, fx_83000424_2, fx_83000424_3, fx_85000004_0, fx_85000004_1, fx_85000004_2, fx_85000004_3, fx_85000004_4, fx_85000004_5, fx_85000004_6, fx_85000004_10, fx_102000008_0, fx_104000008_0, fx_106000008_0, fx_108000008_0, fx_110000011_1, fx_110000011_4, fx_110000011_5, fx_110000011_6, fx_110000011_9, fx_110000011_10, fx_110000011_11, fx_110000011_12, fx_110000011_14, fx_110000011_15, fx_110000011_20, fx_110000011_21, fx_110000011_22, fx_110000011_23, fx_110000011_25, fx_110000011_26, fx_110000011_31, fx_110000011_32, fx_110000011_37, fx_110000011_38, fx_110000011_39, fx_110000011_40, h1, h3, g1, hA, cc, e1, pk_rem]
    rfl
theorem c65 (hF : FX μ) (hS : CSt μ n s) (hP : CPs μ n un) (hn : n ≤ 7) (hu : un.length ≤ 20) :
    ∃ ν i, i < 20 ∧ EX [pstO i, pstA i, 41000006] μ ν ∧ CPs ν n ((s :: un).take 20) ∧ ∀ Q, R (d + 1) 65 0 [some (.ref 41000006), some (.ref 39000008)] [] μ Q = Q none ν := by
  obtain ⟨h1, nx, h2, h3, h4⟩ := hP
  exact ⟨_, nx, h2, kp_EX μ nx _, kp_CPs (tk_len un s) hS hn h2 h4, fun Q => c65r hF h1 h2 h3 hu⟩
def gv (μ : PM) (w z : Nat) : PM := tk (wI (wI μ 41000006 1 (nI w)) 41000006 2 (nI z)) 39000008 40000720 (pstA w) (pstO w)
theorem gv_EX0 (μ : PM) (w z : Nat) : EX [41000006] μ (wI (wI μ 41000006 1 (nI w)) 41000006 2 (nI z)) := EX_mo (EX_tr (EX_wI _ _ _ _) (EX_wI _ _ _ _)) (by simp)
theorem gv_EX (μ : PM) (w z : Nat) : EX [41000006, 40000720, 39000008] μ (gv μ w z) := EX_tr (gv_EX0 μ w z) (tk_EX _ _ _ _ _)
theorem c66r {nx z : Nat} (hF : FX μ) (h1 : rI μ 41000006 2 = nI (z + 1)) (h2 : nx < 20) (h3 : rI μ 41000006 1 = nI nx) (hz : z < 20) : R (d + 1) 66 0 [some (.ref 41000006), some (.ref 39000008)] [] μ Q = Q (some (.int (nI 1))) (gv μ ((nx + 19) % 20) z) := by
  have hw : (nx + 19) % 20 < 20 := Nat.mod_lt _ (by omega)
  obtain ⟨hA, hO, hO2, hO3⟩ := pst_m ((nx + 19) % 20)
  have q := pst_n ((nx + 19) % 20)
  have g1 := fx_pst hF hw
  have cc := fun Q => c83 (d := d) (μ := wI (wI μ 41000006 1 (nI ((nx + 19) % 20))) 41000006 2 (nI z)) (Q := Q) (show 39000008 % 100 = 8 by decide) hA (Ne.symm q.1) (Ne.symm q.2.2.2.2.2.1) (show 40000720 % 100 = 20 by decide) hO (show 40000720 / 100 % 10000 = 7 by decide) hO2 (show 2000000 ≤ 40000720 by decide) hO3 (fx_39000008_0 hF) (fx_pso hF hw)
  have e : nx + 20 - 1 = nx + 19 := by omega
  simp (disch := first | assumption | omega) only [r66_0, r66_1, r66_4, r66_7, r66_8, r66_9, r66_10, r66_11, r66_14, r66_16, r66_17, r66_18, r66_19, r66_21, r66_22, r66_25, r66_26, r66_26i, r66_27, r66_30, r66_31, r66_32, r66_35, r66_36, r66_37, r66_40, r66_41, r66_44, r66_45, r66_48, r66_49, rI_wI, rL_wL, rR_wR, rI_wL, rI_wR, rL_wI, rL_wR, rR_wI, rR_wL, va_rf_some, va_rf_none, Option.toList_some, Option.toList_none, List.nil_append, List.cons_append, true_and, and_true, false_and, and_false, and_self, if_true, if_false, not_true_eq_false, not_false_eq_true, or_false, false_or, or_true, true_or, or_self, ite_true, ite_false, Option.some.injEq, reduceCtorEq, Nat.reduceMod, Nat.reduceDiv, Nat.reduceLeDiff, Nat.reduceEqDiff, Nat.reduceAdd, Nat.reduceMul, Nat.reduceSub, Nat.reduceLT, sw_nil, sw_int, sw_long, sw_ref, li, lo, nI_m1, ng_eq, nn_eq, en_eq, ng_le, ng_lt, Int32.neg_neg, nI_add, pk_mul, nI_clampO, nI_ltO, nI_leO, nI_eqO, nI_subO, nle_t, nle_f, nlt_t, nlt_f, neq_f, fx_2000010_0, fx_2000010_1, fx_2000010_4, fx_2000010_5, fx_2000010_6, fx_2000010_8, fx_2000010_10, fx_2000010_11, fx_2000010_12, fx_2000010_13, fx_2000010_14, fx_2000010_15, fx_2000010_16, fx_2000010_17, fx_2000010_18, fx_3000009_0, fx_5000007_0, fx_5000007_1, fx_5000007_2, fx_5000007_3, fx_7000001_0, fx_11000005_1, fx_11000005_2, fx_11000005_3, fx_11000005_4, fx_11000005_5, fx_11000005_6, fx_11000005_10, fx_11000005_11, fx_11000005_12, fx_20000002_0, fx_20000002_2, fx_20000002_3, fx_20000002_4, fx_25000005_1, fx_25000005_2, fx_25000005_3, fx_25000005_4, fx_25000005_5, fx_25000005_6, fx_25000005_10, fx_25000005_11, fx_25000005_12, fx_34000002_0, fx_34000002_2, fx_34000002_3, fx_34000002_4, fx_39000008_0, fx_41000006_0, fx_42002024_0, fx_42002024_1, fx_42002024_2, fx_42002024_3, fx_42002024_4, fx_42002024_5, fx_42002024_6, fx_42002024_7, fx_42002024_8, fx_42002024_9, fx_42002024_10, fx_42002024_11, fx_42002024_12, fx_42002024_13, fx_42002024_14, fx_42002024_15, fx_42002024_16, fx_42002024_17, fx_42002024_18, fx_42002024_19, fx_43000008_0, fx_45000008_0, fx_47000008_0, fx_49000008_0, fx_51000008_0, fx_53000008_0, fx_55000008_0, fx_57000008_0, fx_59000008_0, fx_61000008_0, fx_63000008_0, fx_65000008_0, fx_67000008_0, fx_69000008_0, fx_71000008_0, fx_73000008_0, fx_75000008_0, fx_77000008_0, fx_79000008_0, fx_81000008_0, fx_83000424_0, fx_83000424_1, fx_83000424_2, fx_83000424_3, fx_85000004_0, fx_85000004_1, fx_85000004_2, fx_85000004_3, fx_85000004_4, fx_85000004_5, fx_85000004_6, fx_85000004_10, fx_102000008_0, fx_104000008_0, fx_106000008_0, fx_108000008_0, fx_110000011_1, fx_110000011_4, fx_110000011_5, fx_110000011_6, fx_110000011_9, fx_110000011_10, fx_110000011_11, fx_110000011_12, fx_110000011_14, fx_110000011_15, fx_110000011_20, fx_110000011_21, fx_110000011_22, fx_110000011_23, fx_110000011_25, fx_110000011_26, fx_110000011_31, fx_110000011_32, fx_110000011_37, fx_110000011_38, fx_110000011_39, fx_110000011_40, h1, h3, e, pk_rem, Nat.add_sub_cancel, g1, hA, cc]
  rfl
theorem c66 (hF : FX μ) (hn : n ≤ 7) (hu : un.length ≤ 20) (t : Nat → Nat) (r : List (Nat → Nat)) (he : un = t :: r) (hP : CPs μ n un) :
    ∃ ν, EX [41000006, 40000720, 39000008] μ ν ∧ CSt ν n t ∧ CPs ν n r ∧ ∀ Q, R (d + 1) 66 0 [some (.ref 41000006), some (.ref 39000008)] [] μ Q = Q (some (.int (nI 1))) ν := by
  subst he
  obtain ⟨h1, nx, h2, h3, h4⟩ := hP
  rw [List.length_cons] at h1 hu
  have hX0 := gv_EX0 μ ((nx + 19) % 20) r.length
  have q := pst_n ((nx + 19) % 20)
  refine ⟨gv μ ((nx + 19) % 20) r.length, gv_EX _ _ _, ?_, ?_, fun Q => c66r hF h1 h2 h3 (by omega)⟩
  · have hc := h4 0 (by simp)
    rw [Nat.sub_zero] at hc
    exact tk_CSg (by decide) hn (EX_CSg hX0 (ni1 q.2.2.1) (ni1 q.2.2.2.1) hc)
  · have hX := tk_EX (wI (wI μ 41000006 1 (nI ((nx + 19) % 20))) 41000006 2 (nI r.length)) 39000008 40000720 (pstA ((nx + 19) % 20)) (pstO ((nx + 19) % 20))
    refine ⟨?_, (nx + 19) % 20, Nat.mod_lt _ (by omega), ?_, fun i hi => ?_⟩
    · unfold gv
      rw [EX_I hX (ni2 (by decide) (by decide))]
      simp only [rI_wI, and_self, if_true]
    · unfold gv
      rw [EX_I hX (ni2 (by decide) (by decide))]
      simp only [rI_wI, and_self, if_true, Nat.reduceEqDiff, and_false, if_false]
    · have hc := h4 (i + 1) (by rw [List.length_cons]; omega)
      have e : ((nx + 19) % 20 + 19 - i) % 20 = (nx + 19 - (i + 1)) % 20 := by omega
      rw [e]
      rw [List.getD_cons_succ] at hc
      have q2 := pst_n ((nx + 19 - (i + 1)) % 20)
      exact EX_CSg (gv_EX μ _ _) (ni3 q2.2.2.1 q2.2.2.2.2.2.1 q2.1) (ni3 q2.2.2.2.1 q2.2.2.2.2.2.2 q2.2.1) hc
theorem c66n (h : rI μ 41000006 2 = nI 0) : R (d + 1) 66 0 [some (.ref 41000006), some (.ref 39000008)] [] μ Q = Q (some (.int (nI 0))) μ := by
  simp (disch := first | assumption | omega) only [r66_0, r66_1, r66_4, r66_7, r66_8, r66_9, r66_10, r66_11, r66_14, r66_16, r66_17, r66_18, r66_19, r66_21, r66_22, r66_25, r66_26, r66_26i, r66_27, r66_30, r66_31, r66_32, r66_35, r66_36, r66_37, r66_40, r66_41, r66_44, r66_45, r66_48, r66_49, rI_wI, rL_wL, rR_wR, rI_wL, rI_wR, rL_wI, rL_wR, rR_wI, rR_wL, va_rf_some, va_rf_none, Option.toList_some, Option.toList_none, List.nil_append, List.cons_append, true_and, and_true, false_and, and_false, and_self, if_true, if_false, not_true_eq_false, not_false_eq_true, or_false, false_or, or_true, true_or, or_self, ite_true, ite_false, Option.some.injEq, reduceCtorEq, Nat.reduceMod, Nat.reduceDiv, Nat.reduceLeDiff, Nat.reduceEqDiff, Nat.reduceAdd, Nat.reduceMul, Nat.reduceSub, Nat.reduceLT, sw_nil, sw_int, sw_long, sw_ref, li, lo, nI_m1, ng_eq, nn_eq, en_eq, ng_le, ng_lt, Int32.neg_neg, nI_add, pk_mul, nI_clampO, nI_ltO, nI_leO, nI_eqO, nI_subO, nle_t, nle_f, nlt_t, nlt_f, neq_f, h]
def swI (a b x : Int32) : Int32 := if x = a then b else if x = b then a else x
theorem c85_l (hF : FX μ) {a b : Int32} : ∀ (r k : Nat) (g : Nat → Int32), k + r = 7 → ∃ g' : Nat → Int32, (∀ i, i < k → g' i = g i) ∧ (∀ i, k ≤ i → i < 7 → g' i = swI a b (g i)) ∧ ∀ Q, R d 85 2 [some (.ref 39000008), some (.int a), some (.int b), some (.int (nI k))] [] (wA μ 40000720 g) Q = Q none (wA μ 40000720 g') := by
  intro r
  induction r with
  | zero =>
    intro k g hk
    refine ⟨g, fun _ _ => rfl, fun i h1 h2 => by omega, fun Q => ?_⟩
    rw [r85_2]
    simp (disch := first | assumption | omega) only [r85_0, r85_1, r85_3, r85_5, r85_8, r85_9, r85_12, r85_13, r85_14, r85_15, r85_18, r85_19, r85_22, r85_23, r85_24, r85_25, r85_28, r85_29, r85_32, r85_33, r85_34, r85_35, r85_38, r85_39, r85_42, r85_43, r85_44, r85_45, r85_48, r85_51, rI_wI, rL_wL, rR_wR, rI_wL, rI_wR, rL_wI, rL_wR, rR_wI, rR_wL, va_rf_some, va_rf_none, Option.toList_some, Option.toList_none, List.nil_append, List.cons_append, true_and, and_true, false_and, and_false, and_self, if_true, if_false, not_true_eq_false, not_false_eq_true, or_false, false_or, or_true, true_or, or_self, ite_true, ite_false, Option.some.injEq, reduceCtorEq, Nat.reduceMod, Nat.reduceDiv, Nat.reduceLeDiff, Nat.reduceEqDiff, Nat.reduceAdd, Nat.reduceMul, Nat.reduceSub, Nat.reduceLT, sw_nil, sw_int, sw_long, sw_ref, li, lo, nI_m1, ng_eq, nn_eq, en_eq, ng_le, ng_lt, Int32.neg_neg, nI_add, pk_mul, nI_clampO, nI_ltO, nI_leO, nI_eqO, nI_subO, nle_t, nle_f, nlt_t, nlt_f, neq_f]
  | succ r ih =>
    intro k g hk
    have hF1 : FX (wA μ 40000720 g) := hF
    by_cases h1 : g k = a
    · obtain ⟨g', e1, e2, e3⟩ := ih (k + 1) (upd g k b) (by omega)
      refine ⟨g', fun i hi => ?_, fun i h2 h3 => ?_, fun Q => ?_⟩
      · rw [e1 i (by omega), upd_at, if_neg (by omega)]
      · by_cases hik : i = k
        · rw [hik, e1 k (by omega), upd_at, if_pos rfl, swI, if_pos h1]
        · rw [e2 i (by omega) h3, upd_at, if_neg hik]
      · rw [r85_2]
        simp (disch := first | assumption | omega) only [r85_0, r85_1, r85_3, r85_5, r85_8, r85_9, r85_12, r85_13, r85_14, r85_15, r85_18, r85_19, r85_22, r85_23, r85_24, r85_25, r85_28, r85_29, r85_32, r85_33, r85_34, r85_35, r85_38, r85_39, r85_42, r85_43, r85_44, r85_45, r85_48, r85_51, rI_wI, rL_wL, rR_wR, rI_wL, rI_wR, rL_wI, rL_wR, rR_wI, rR_wL, va_rf_some, va_rf_none, Option.toList_some, Option.toList_none, List.nil_append, List.cons_append, true_and, and_true, false_and, and_false, and_self, if_true, if_false, not_true_eq_false, not_false_eq_true, or_false, false_or, or_true, true_or, or_self, ite_true, ite_false, Option.some.injEq, reduceCtorEq, Nat.reduceMod, Nat.reduceDiv, Nat.reduceLeDiff, Nat.reduceEqDiff, Nat.reduceAdd, Nat.reduceMul, Nat.reduceSub, Nat.reduceLT, sw_nil, sw_int, sw_long, sw_ref, li, lo, nI_m1, ng_eq, nn_eq, en_eq, ng_le, ng_lt, Int32.neg_neg, nI_add, pk_mul, nI_clampO, nI_ltO, nI_leO, nI_eqO, nI_subO, nle_t, nle_f, nlt_t, nlt_f, neq_f, fx_2000010_0, fx_2000010_1, fx_2000010_4, fx_2000010_5, fx_2000010_6, fx_2000010_8, fx_2000010_10, fx_2000010_11, fx_2000010_12, fx_2000010_13, fx_2000010_14, fx_2000010_15, fx_2000010_16, fx_2000010_17, fx_2000010_18, fx_3000009_0, fx_5000007_0, fx_5000007_1, fx_5000007_2, fx_5000007_3, fx_7000001_0, fx_11000005_1, fx_11000005_2, fx_11000005_3, fx_11000005_4, fx_11000005_5, fx_11000005_6, fx_11000005_10, fx_11000005_11, fx_11000005_12, fx_20000002_0, fx_20000002_2, fx_20000002_3, fx_20000002_4, fx_25000005_1, fx_25000005_2, fx_25000005_3, fx_25000005_4, fx_25000005_5, fx_25000005_6, fx_25000005_10, fx_25000005_11, fx_25000005_12, fx_34000002_0, fx_34000002_2, fx_34000002_3, fx_34000002_4, fx_39000008_0, fx_41000006_0, fx_42002024_0, fx_42002024_1, fx_42002024_2, fx_42002024_3, fx_42002024_4, fx_42002024_5, fx_42002024_6, fx_42002024_7, fx_42002024_8, fx_42002024_9, fx_42002024_10, fx_42002024_11, fx_42002024_12, fx_42002024_13, fx_42002024_14, fx_42002024_15, fx_42002024_16, fx_42002024_17, fx_42002024_18, fx_42002024_19, fx_43000008_0, fx_45000008_0, fx_47000008_0, fx_49000008_0, fx_51000008_0, fx_53000008_0, fx_55000008_0, fx_57000008_0, fx_59000008_0, fx_61000008_0, fx_63000008_0, fx_65000008_0, fx_67000008_0, fx_69000008_0, fx_71000008_0, fx_73000008_0, fx_75000008_0, fx_77000008_0, fx_79000008_0, fx_81000008_0, fx_83000424_0, fx_83000424_1, fx_83000424_2, fx_83000424_3, fx_85000004_0, fx_85000004_1, fx_85000004_2, fx_85000004_3, fx_85000004_4, fx_85000004_5, fx_85000004_6, fx_85000004_10, fx_102000008_0, fx_104000008_0, fx_106000008_0, fx_108000008_0, fx_110000011_1, fx_110000011_4, fx_110000011_5, fx_110000011_6, fx_110000011_9, fx_110000011_10, fx_110000011_11, fx_110000011_12, fx_110000011_14, fx_110000011_15, fx_110000011_20, fx_110000011_21, fx_110000011_22, fx_110000011_23, fx_110000011_25, fx_110000011_26, fx_110000011_31, fx_110000011_32, fx_110000011_37, fx_110000011_38, fx_110000011_39, fx_110000011_40, rI_wA, rR_wA, h1, wI_wA]
        exact e3 Q
    · by_cases h2 : g k = b
      · obtain ⟨g', e1, e2, e3⟩ := ih (k + 1) (upd g k a) (by omega)
        refine ⟨g', fun i hi => ?_, fun i h3 h4 => ?_, fun Q => ?_⟩
        · rw [e1 i (by omega), upd_at, if_neg (by omega)]
        · by_cases hik : i = k
          · rw [hik, e1 k (by omega), upd_at, if_pos rfl, swI, if_neg h1, if_pos h2]
          · rw [e2 i (by omega) h4, upd_at, if_neg hik]
        · have h1' : ¬ b = a := fun q => h1 (h2.trans q)
          rw [r85_2]
          simp (disch := first | assumption | omega) only [r85_0, r85_1, r85_3, r85_5, r85_8, r85_9, r85_12, r85_13, r85_14, r85_15, r85_18, r85_19, r85_22, r85_23, r85_24, r85_25, r85_28, r85_29, r85_32, r85_33, r85_34, r85_35, r85_38, r85_39, r85_42, r85_43, r85_44, r85_45, r85_48, r85_51, rI_wI, rL_wL, rR_wR, rI_wL, rI_wR, rL_wI, rL_wR, rR_wI, rR_wL, va_rf_some, va_rf_none, Option.toList_some, Option.toList_none, List.nil_append, List.cons_append, true_and, and_true, false_and, and_false, and_self, if_true, if_false, not_true_eq_false, not_false_eq_true, or_false, false_or, or_true, true_or, or_self, ite_true, ite_false, Option.some.injEq, reduceCtorEq, Nat.reduceMod, Nat.reduceDiv, Nat.reduceLeDiff, Nat.reduceEqDiff, Nat.reduceAdd, Nat.reduceMul, Nat.reduceSub, Nat.reduceLT, sw_nil, sw_int, sw_long, sw_ref, li, lo, nI_m1, ng_eq, nn_eq, en_eq, ng_le, ng_lt, Int32.neg_neg, nI_add, pk_mul, nI_clampO, nI_ltO, nI_leO, nI_eqO, nI_subO, nle_t, nle_f, nlt_t, nlt_f, neq_f, fx_2000010_0, fx_2000010_1, fx_2000010_4, fx_2000010_5, fx_2000010_6, fx_2000010_8, fx_2000010_10, fx_2000010_11, fx_2000010_12, fx_2000010_13, fx_2000010_14, fx_2000010_15, fx_2000010_16, fx_2000010_17, fx_2000010_18, fx_3000009_0, fx_5000007_0, fx_5000007_1, fx_5000007_2, fx_5000007_3, fx_7000001_0, fx_11000005_1, fx_11000005_2, fx_11000005_3, fx_11000005_4, fx_11000005_5, fx_11000005_6, fx_11000005_10, fx_11000005_11, fx_11000005_12, fx_20000002_0, fx_20000002_2, fx_20000002_3, fx_20000002_4, fx_25000005_1, fx_25000005_2, fx_25000005_3, fx_25000005_4, fx_25000005_5, fx_25000005_6, fx_25000005_10, fx_25000005_11, fx_25000005_12, fx_34000002_0, fx_34000002_2, fx_34000002_3, fx_34000002_4, fx_39000008_0, fx_41000006_0, fx_42002024_0, fx_42002024_1, fx_42002024_2, fx_42002024_3, fx_42002024_4, fx_42002024_5, fx_42002024_6, fx_42002024_7, fx_42002024_8, fx_42002024_9, fx_42002024_10, fx_42002024_11, fx_42002024_12, fx_42002024_13, fx_42002024_14, fx_42002024_15, fx_42002024_16, fx_42002024_17, fx_42002024_18, fx_42002024_19, fx_43000008_0, fx_45000008_0, fx_47000008_0, fx_49000008_0, fx_51000008_0, fx_53000008_0, fx_55000008_0, fx_57000008_0, fx_59000008_0, fx_61000008_0, fx_63000008_0, fx_65000008_0, fx_67000008_0, fx_69000008_0, fx_71000008_0, fx_73000008_0, fx_75000008_0, fx_77000008_0, fx_79000008_0, fx_81000008_0, fx_83000424_0, fx_83000424_1, fx_83000424_2, fx_83000424_3, fx_85000004_0, fx_85000004_1, fx_85000004_2, fx_85000004_3, fx_85000004_4, fx_85000004_5, fx_85000004_6, fx_85000004_10, fx_102000008_0, fx_104000008_0, fx_106000008_0, fx_108000008_0, fx_110000011_1, fx_110000011_4, fx_110000011_5, fx_110000011_6, fx_110000011_9, fx_110000011_10, fx_110000011_11, fx_110000011_12, fx_110000011_14, fx_110000011_15, fx_110000011_20, fx_110000011_21, fx_110000011_22, fx_110000011_23, fx_110000011_25, fx_110000011_26, fx_110000011_31, fx_110000011_32, fx_110000011_37, fx_110000011_38, fx_110000011_39, fx_110000011_40, rI_wA, rR_wA, h2, h1', wI_wA]
          exact e3 Q
      · obtain ⟨g', e1, e2, e3⟩ := ih (k + 1) g (by omega)
        refine ⟨g', fun i hi => e1 i (by omega), fun i h3 h4 => ?_, fun Q => ?_⟩
        · by_cases hik : i = k
          · rw [hik, e1 k (by omega), swI, if_neg h1, if_neg h2]
          · exact e2 i (by omega) h4
        · rw [r85_2]
          simp (disch := first | assumption | omega) only [r85_0, r85_1, r85_3, r85_5, r85_8, r85_9, r85_12, r85_13, r85_14, r85_15, r85_18, r85_19, r85_22, r85_23, r85_24, r85_25, r85_28, r85_29, r85_32, r85_33, r85_34, r85_35, r85_38, r85_39, r85_42, r85_43, r85_44, r85_45, r85_48, r85_51, rI_wI, rL_wL, rR_wR, rI_wL, rI_wR, rL_wI, rL_wR, rR_wI, rR_wL, va_rf_some, va_rf_none, Option.toList_some, Option.toList_none, List.nil_append, List.cons_append, true_and, and_true, false_and, and_false, and_self, if_true, if_false, not_true_eq_false, not_false_eq_true, or_false, false_or, or_true, true_or, or_self, ite_true, ite_false, Option.some.injEq, reduceCtorEq, Nat.reduceMod, Nat.reduceDiv, Nat.reduceLeDiff, Nat.reduceEqDiff, Nat.reduceAdd, Nat.reduceMul, Nat.reduceSub, Nat.reduceLT, sw_nil, sw_int, sw_long, sw_ref, li, lo, nI_m1, ng_eq, nn_eq, en_eq, ng_le, ng_lt, Int32.neg_neg, nI_add, pk_mul, nI_clampO, nI_ltO, nI_leO, nI_eqO, nI_subO, nle_t, nle_f, nlt_t, nlt_f, neq_f, fx_2000010_0, fx_2000010_1, fx_2000010_4, fx_2000010_5, fx_2000010_6, fx_2000010_8, fx_2000010_10, fx_2000010_11, fx_2000010_12, fx_2000010_13, fx_2000010_14, fx_2000010_15, fx_2000010_16, fx_2000010_17, fx_2000010_18, fx_3000009_0, fx_5000007_0, fx_5000007_1, fx_5000007_2, fx_5000007_3, fx_7000001_0, fx_11000005_1, fx_11000005_2, fx_11000005_3, fx_11000005_4, fx_11000005_5, fx_11000005_6, fx_11000005_10, fx_11000005_11, fx_11000005_12, fx_20000002_0, fx_20000002_2, fx_20000002_3, fx_20000002_4, fx_25000005_1, fx_25000005_2, fx_25000005_3, fx_25000005_4, fx_25000005_5, fx_25000005_6, fx_25000005_10, fx_25000005_11, fx_25000005_12, fx_34000002_0, fx_34000002_2, fx_34000002_3, fx_34000002_4, fx_39000008_0, fx_41000006_0, fx_42002024_0, fx_42002024_1, fx_42002024_2, fx_42002024_3, fx_42002024_4, fx_42002024_5, fx_42002024_6, fx_42002024_7, fx_42002024_8, fx_42002024_9, fx_42002024_10, fx_42002024_11, fx_42002024_12, fx_42002024_13, fx_42002024_14, fx_42002024_15, fx_42002024_16, fx_42002024_17, fx_42002024_18, fx_42002024_19, fx_43000008_0, fx_45000008_0, fx_47000008_0, fx_49000008_0, fx_51000008_0, fx_53000008_0, fx_55000008_0, fx_57000008_0, fx_59000008_0, fx_61000008_0, fx_63000008_0, fx_65000008_0, fx_67000008_0, fx_69000008_0, fx_71000008_0, fx_73000008_0, fx_75000008_0, fx_77000008_0, fx_79000008_0, fx_81000008_0, fx_83000424_0, fx_83000424_1, fx_83000424_2, fx_83000424_3, fx_85000004_0, fx_85000004_1, fx_85000004_2, fx_85000004_3, fx_85000004_4, fx_85000004_5, fx_85000004_6, fx_85000004_10, fx_102000008_0, fx_104000008_0, fx_106000008_0, fx_108000008_0, fx_110000011_1, fx_110000011_4, fx_110000011_5, fx_110000011_6, fx_110000011_9, fx_110000011_10, fx_110000011_11, fx_110000011_12, fx_110000011_14, fx_110000011_15, fx_110000011_20, fx_110000011_21, fx_110000011_22, fx_110000011_23, fx_110000011_25, fx_110000011_26, fx_110000011_31, fx_110000011_32, fx_110000011_37, fx_110000011_38, fx_110000011_39, fx_110000011_40, rI_wA, rR_wA, h1, h2, wI_wA]
          exact e3 Q
theorem c85 (hF : FX μ) {a b : Int32} : ∃ g' : Nat → Int32, (∀ i, i < 7 → g' i = swI a b (rI μ 40000720 i)) ∧ ∀ Q, R d 85 0 [some (.ref 39000008), some (.int a), some (.int b), none] [] μ Q = Q none (wA μ 40000720 g') := by
  obtain ⟨g', -, e2, e3⟩ := c85_l (d := d) hF (a := a) (b := b) 7 0 (fun j => rI μ 40000720 j) (by omega)
  refine ⟨g', fun i hi => e2 i (by omega) hi, fun Q => ?_⟩
  have := e3 Q
  rw [wA_eta] at this
  simp (disch := first | assumption | omega) only [r85_0, r85_1, rI_wI, rL_wL, rR_wR, rI_wL, rI_wR, rL_wI, rL_wR, rR_wI, rR_wL, va_rf_some, va_rf_none, Option.toList_some, Option.toList_none, List.nil_append, List.cons_append, true_and, and_true, false_and, and_false, and_self, if_true, if_false, not_true_eq_false, not_false_eq_true, or_false, false_or, or_true, true_or, or_self, ite_true, ite_false, Option.some.injEq, reduceCtorEq, Nat.reduceMod, Nat.reduceDiv, Nat.reduceLeDiff, Nat.reduceEqDiff, Nat.reduceAdd, Nat.reduceMul, Nat.reduceSub, Nat.reduceLT, sw_nil, sw_int, sw_long, sw_ref, li, lo, nI_m1, ng_eq, nn_eq, en_eq, ng_le, ng_lt, Int32.neg_neg, nI_add, pk_mul, nI_clampO, nI_ltO, nI_leO, nI_eqO, nI_subO, nle_t, nle_f, nlt_t, nlt_f, neq_f, this]
end T1
