/-! EQUATIONS OF R, part two -/
section EQ
variable {d y pc : Nat} {ls : PL} {st : List Value} {μ : PM} {Q : Option Value → PM → Prop}
theorem e_iadd {x z : Int32} (hd : decode (bN y) pc = .ok (.iadd, 1)) : R d y pc ls (.int z :: .int x :: st) μ Q = R d y (pc + 1) ls (.int (x + z) :: st) μ Q := R_nx (by simp only [st1, hd, exI, ck, if_true, pI, pL, pA, pV, bI, bL])
theorem e_isub {x z : Int32} (hd : decode (bN y) pc = .ok (.isub, 1)) : R d y pc ls (.int z :: .int x :: st) μ Q = R d y (pc + 1) ls (.int (x - z) :: st) μ Q := R_nx (by simp only [st1, hd, exI, ck, if_true, pI, pL, pA, pV, bI, bL])
theorem e_imul {x z : Int32} (hd : decode (bN y) pc = .ok (.imul, 1)) : R d y pc ls (.int z :: .int x :: st) μ Q = R d y (pc + 1) ls (.int (x * z) :: st) μ Q := R_nx (by simp only [st1, hd, exI, ck, if_true, pI, pL, pA, pV, bI, bL])
theorem e_iand {x z : Int32} (hd : decode (bN y) pc = .ok (.iand, 1)) : R d y pc ls (.int z :: .int x :: st) μ Q = R d y (pc + 1) ls (.int (x &&& z) :: st) μ Q := R_nx (by simp only [st1, hd, exI, ck, if_true, pI, pL, pA, pV, bI, bL])
theorem e_ior {x z : Int32} (hd : decode (bN y) pc = .ok (.ior, 1)) : R d y pc ls (.int z :: .int x :: st) μ Q = R d y (pc + 1) ls (.int (x ||| z) :: st) μ Q := R_nx (by simp only [st1, hd, exI, ck, if_true, pI, pL, pA, pV, bI, bL])
theorem e_ixor {x z : Int32} (hd : decode (bN y) pc = .ok (.ixor, 1)) : R d y pc ls (.int z :: .int x :: st) μ Q = R d y (pc + 1) ls (.int (x ^^^ z) :: st) μ Q := R_nx (by simp only [st1, hd, exI, ck, if_true, pI, pL, pA, pV, bI, bL])
theorem e_ishl {x z : Int32} (hd : decode (bN y) pc = .ok (.ishl, 1)) : R d y pc ls (.int z :: .int x :: st) μ Q = R d y (pc + 1) ls (.int (x <<< (z &&& 31)) :: st) μ Q := R_nx (by simp only [st1, hd, exI, ck, if_true, pI, pL, pA, pV, bI, bL])
theorem e_ishr {x z : Int32} (hd : decode (bN y) pc = .ok (.ishr, 1)) : R d y pc ls (.int z :: .int x :: st) μ Q = R d y (pc + 1) ls (.int (x >>> (z &&& 31)) :: st) μ Q := R_nx (by simp only [st1, hd, exI, ck, if_true, pI, pL, pA, pV, bI, bL])
theorem e_iushr {x z : Int32} (hd : decode (bN y) pc = .ok (.iushr, 1)) : R d y pc ls (.int z :: .int x :: st) μ Q = R d y (pc + 1) ls (.int ((x.toUInt32 >>> (z.toUInt32 &&& Int32.toUInt32 31)).toInt32) :: st) μ Q := R_nx (by simp only [st1, hd, exI, ck, if_true, pI, pL, pA, pV, bI, bL])
theorem e_ladd {x z : Int64} (hd : decode (bN y) pc = .ok (.ladd, 1)) : R d y pc ls (.long z :: .long x :: st) μ Q = R d y (pc + 1) ls (.long (x + z) :: st) μ Q := R_nx (by simp only [st1, hd, exI, ck, if_true, pI, pL, pA, pV, bI, bL])
theorem e_lsub {x z : Int64} (hd : decode (bN y) pc = .ok (.lsub, 1)) : R d y pc ls (.long z :: .long x :: st) μ Q = R d y (pc + 1) ls (.long (x - z) :: st) μ Q := R_nx (by simp only [st1, hd, exI, ck, if_true, pI, pL, pA, pV, bI, bL])
theorem e_lmul {x z : Int64} (hd : decode (bN y) pc = .ok (.lmul, 1)) : R d y pc ls (.long z :: .long x :: st) μ Q = R d y (pc + 1) ls (.long (x * z) :: st) μ Q := R_nx (by simp only [st1, hd, exI, ck, if_true, pI, pL, pA, pV, bI, bL])
theorem e_land {x z : Int64} (hd : decode (bN y) pc = .ok (.land, 1)) : R d y pc ls (.long z :: .long x :: st) μ Q = R d y (pc + 1) ls (.long (x &&& z) :: st) μ Q := R_nx (by simp only [st1, hd, exI, ck, if_true, pI, pL, pA, pV, bI, bL])
theorem e_lor {x z : Int64} (hd : decode (bN y) pc = .ok (.lor, 1)) : R d y pc ls (.long z :: .long x :: st) μ Q = R d y (pc + 1) ls (.long (x ||| z) :: st) μ Q := R_nx (by simp only [st1, hd, exI, ck, if_true, pI, pL, pA, pV, bI, bL])
theorem e_lshl {x : Int64} {z : Int32} (hd : decode (bN y) pc = .ok (.lshl, 1)) : R d y pc ls (.int z :: .long x :: st) μ Q = R d y (pc + 1) ls (.long (x <<< (z.toInt64 &&& 63)) :: st) μ Q := R_nx (by simp only [st1, hd, exI, ck, if_true, pI, pL, pA, pV, bI, bL])
theorem e_lshr {x : Int64} {z : Int32} (hd : decode (bN y) pc = .ok (.lshr, 1)) : R d y pc ls (.int z :: .long x :: st) μ Q = R d y (pc + 1) ls (.long (x >>> (z.toInt64 &&& 63)) :: st) μ Q := R_nx (by simp only [st1, hd, exI, ck, if_true, pI, pL, pA, pV, bI, bL])
theorem e_lushr {x : Int64} {z : Int32} (hd : decode (bN y) pc = .ok (.lushr, 1)) : R d y pc ls (.int z :: .long x :: st) μ Q = R d y (pc + 1) ls (.long ((x.toUInt64 >>> (z.toInt64.toUInt64 &&& Int64.toUInt64 63)).toInt64) :: st) μ Q := R_nx (by simp only [st1, hd, exI, ck, if_true, pI, pL, pA, pV, bI, bL])
theorem e_idiv {x z : Int32} (hd : decode (bN y) pc = .ok (.idiv, 1)) : R d y pc ls (.int z :: .int x :: st) μ Q = (¬ z = 0 ∧ R d y (pc + 1) ls (.int (x / z) :: st) μ Q) := e_no (by simp only [st1, hd, exI, ck, if_true, pI, pL, pA, pV, bI, bL]; rfl) (fun _ => R_nx (by simp only [st1, hd, exI, ck, if_true, pI, pL, pA, pV, bI, bL]; simp_all))
theorem e_irem {x z : Int32} (hd : decode (bN y) pc = .ok (.irem, 1)) : R d y pc ls (.int z :: .int x :: st) μ Q = (¬ z = 0 ∧ R d y (pc + 1) ls (.int (x - x / z * z) :: st) μ Q) := e_no (by simp only [st1, hd, exI, ck, if_true, pI, pL, pA, pV, bI, bL]; rfl) (fun _ => R_nx (by simp only [st1, hd, exI, ck, if_true, pI, pL, pA, pV, bI, bL]; simp_all))
theorem e_ldiv {x z : Int64} (hd : decode (bN y) pc = .ok (.ldiv, 1)) : R d y pc ls (.long z :: .long x :: st) μ Q = (¬ z = 0 ∧ R d y (pc + 1) ls (.long (x / z) :: st) μ Q) := e_no (by simp only [st1, hd, exI, ck, if_true, pI, pL, pA, pV, bI, bL]; rfl) (fun _ => R_nx (by simp only [st1, hd, exI, ck, if_true, pI, pL, pA, pV, bI, bL]; simp_all))
theorem e_lrem {x z : Int64} (hd : decode (bN y) pc = .ok (.lrem, 1)) : R d y pc ls (.long z :: .long x :: st) μ Q = (¬ z = 0 ∧ R d y (pc + 1) ls (.long (x - x / z * z) :: st) μ Q) := e_no (by simp only [st1, hd, exI, ck, if_true, pI, pL, pA, pV, bI, bL]; rfl) (fun _ => R_nx (by simp only [st1, hd, exI, ck, if_true, pI, pL, pA, pV, bI, bL]; simp_all))
theorem e_ineg {x : Int32} (hd : decode (bN y) pc = .ok (.ineg, 1)) : R d y pc ls (.int x :: st) μ Q = R d y (pc + 1) ls (.int (-x) :: st) μ Q := R_nx (by simp only [st1, hd, exI, ck, if_true, pI, pL, pA, pV, bI, bL])
theorem e_i2l {x : Int32} (hd : decode (bN y) pc = .ok (.i2l, 1)) : R d y pc ls (.int x :: st) μ Q = R d y (pc + 1) ls (.long (x.toInt64) :: st) μ Q := R_nx (by simp only [st1, hd, exI, ck, if_true, pI, pL, pA, pV, bI, bL])
theorem e_l2i {x : Int64} (hd : decode (bN y) pc = .ok (.l2i, 1)) : R d y pc ls (.long x :: st) μ Q = R d y (pc + 1) ls (.int (x.toInt32) :: st) μ Q := R_nx (by simp only [st1, hd, exI, ck, if_true, pI, pL, pA, pV, bI, bL])
theorem e_i2c {x : Int32} (hd : decode (bN y) pc = .ok (.i2c, 1)) : R d y pc ls (.int x :: st) μ Q = R d y (pc + 1) ls (.int ((x.toUInt32 % 65536).toInt32) :: st) μ Q := R_nx (by simp only [st1, hd, exI, ck, if_true, pI, pL, pA, pV, bI, bL])
theorem e_lcmp {x z : Int64} (hd : decode (bN y) pc = .ok (.lcmp, 1)) : R d y pc ls (.long z :: .long x :: st) μ Q = R d y (pc + 1) ls (.int (lg_cmp x z) :: st) μ Q := R_nx (by simp only [st1, hd, exI, ck, if_true, pI, pL, pA, pV, bI, bL])
theorem e_dupI {x : Int32} (hd : decode (bN y) pc = .ok (.dup, 1)) : R d y pc ls (.int x :: st) μ Q = R d y (pc + 1) ls (.int x :: .int x :: st) μ Q := R_nx (by simp only [st1, hd, exI, ck, if_true, pI, pL, pA, pV, bI, bL, Value.category])
theorem e_dupA {x : Nat} (hd : decode (bN y) pc = .ok (.dup, 1)) : R d y pc ls (.ref x :: st) μ Q = R d y (pc + 1) ls (.ref x :: .ref x :: st) μ Q := R_nx (by simp only [st1, hd, exI, ck, if_true, pI, pL, pA, pV, bI, bL, Value.category])
theorem e_dup2 {x : Nat} {i : Int32} (hd : decode (bN y) pc = .ok (.dup2, 1)) : R d y pc ls (.int i :: .ref x :: st) μ Q = R d y (pc + 1) ls (.int i :: .ref x :: .int i :: .ref x :: st) μ Q := R_nx (by simp only [st1, hd, exI, ck, if_true, pI, pL, pA, pV, bI, bL, Value.category])
theorem e_goto {off : Int} {t : Nat} (hd : decode (bN y) pc = .ok (.goto off, 3)) (ht : (pc : Int) + off = (t : Int)) : R d y pc ls st μ Q = R d y t ls st μ Q := R_nx (by simp only [st1, hd, exI, ck, if_true, pI, pL, pA, pV, bI, bL, jmp, ht]; simp)
theorem e_if_eq {x : Int32} {off : Int} {t : Nat} (hd : decode (bN y) pc = .ok (.ifCond .eq off, 3)) (ht : (pc : Int) + off = (t : Int)) : R d y pc ls (.int x :: st) μ Q = if x = 0 then R d y t ls st μ Q else R d y (pc + 3) ls st μ Q := by
  by_cases h : x = 0
  · rw [if_pos h]; exact R_nx (by simp only [st1, hd, exI, ck, if_true, pI, pL, pA, pV, bI, bL, br, jmp, ht]; simp [h])
  · rw [if_neg h]; exact R_nx (by simp only [st1, hd, exI, ck, if_true, pI, pL, pA, pV, bI, bL, br, jmp, ht]; simp [h])
theorem e_ic_eq {x z : Int32} {off : Int} {t : Nat} (hd : decode (bN y) pc = .ok (.if_icmp .eq off, 3)) (ht : (pc : Int) + off = (t : Int)) : R d y pc ls (.int z :: .int x :: st) μ Q = if x = z then R d y t ls st μ Q else R d y (pc + 3) ls st μ Q := by
  by_cases h : x = z
  · rw [if_pos h]; exact R_nx (by simp only [st1, hd, exI, ck, if_true, pI, pL, pA, pV, bI, bL, br, jmp, ht]; simp [h])
  · rw [if_neg h]; exact R_nx (by simp only [st1, hd, exI, ck, if_true, pI, pL, pA, pV, bI, bL, br, jmp, ht]; simp [h])
theorem e_if_ne {x : Int32} {off : Int} {t : Nat} (hd : decode (bN y) pc = .ok (.ifCond .ne off, 3)) (ht : (pc : Int) + off = (t : Int)) : R d y pc ls (.int x :: st) μ Q = if ¬ x = 0 then R d y t ls st μ Q else R d y (pc + 3) ls st μ Q := by
  by_cases h : ¬ x = 0
  · rw [if_pos h]; exact R_nx (by simp only [st1, hd, exI, ck, if_true, pI, pL, pA, pV, bI, bL, br, jmp, ht]; simp [h])
  · rw [if_neg h]; exact R_nx (by simp only [st1, hd, exI, ck, if_true, pI, pL, pA, pV, bI, bL, br, jmp, ht]; simp [h])
theorem e_ic_ne {x z : Int32} {off : Int} {t : Nat} (hd : decode (bN y) pc = .ok (.if_icmp .ne off, 3)) (ht : (pc : Int) + off = (t : Int)) : R d y pc ls (.int z :: .int x :: st) μ Q = if ¬ x = z then R d y t ls st μ Q else R d y (pc + 3) ls st μ Q := by
  by_cases h : ¬ x = z
  · rw [if_pos h]; exact R_nx (by simp only [st1, hd, exI, ck, if_true, pI, pL, pA, pV, bI, bL, br, jmp, ht]; simp [h])
  · rw [if_neg h]; exact R_nx (by simp only [st1, hd, exI, ck, if_true, pI, pL, pA, pV, bI, bL, br, jmp, ht]; simp [h])
theorem e_if_lt {x : Int32} {off : Int} {t : Nat} (hd : decode (bN y) pc = .ok (.ifCond .lt off, 3)) (ht : (pc : Int) + off = (t : Int)) : R d y pc ls (.int x :: st) μ Q = if x < 0 then R d y t ls st μ Q else R d y (pc + 3) ls st μ Q := by
  by_cases h : x < 0
  · rw [if_pos h]; exact R_nx (by simp only [st1, hd, exI, ck, if_true, pI, pL, pA, pV, bI, bL, br, jmp, ht]; simp [h])
  · rw [if_neg h]; exact R_nx (by simp only [st1, hd, exI, ck, if_true, pI, pL, pA, pV, bI, bL, br, jmp, ht]; simp [h])
theorem e_ic_lt {x z : Int32} {off : Int} {t : Nat} (hd : decode (bN y) pc = .ok (.if_icmp .lt off, 3)) (ht : (pc : Int) + off = (t : Int)) : R d y pc ls (.int z :: .int x :: st) μ Q = if x < z then R d y t ls st μ Q else R d y (pc + 3) ls st μ Q := by
  by_cases h : x < z
  · rw [if_pos h]; exact R_nx (by simp only [st1, hd, exI, ck, if_true, pI, pL, pA, pV, bI, bL, br, jmp, ht]; simp [h])
  · rw [if_neg h]; exact R_nx (by simp only [st1, hd, exI, ck, if_true, pI, pL, pA, pV, bI, bL, br, jmp, ht]; simp [h])
theorem e_if_ge {x : Int32} {off : Int} {t : Nat} (hd : decode (bN y) pc = .ok (.ifCond .ge off, 3)) (ht : (pc : Int) + off = (t : Int)) : R d y pc ls (.int x :: st) μ Q = if 0 ≤ x then R d y t ls st μ Q else R d y (pc + 3) ls st μ Q := by
  by_cases h : 0 ≤ x
  · rw [if_pos h]; exact R_nx (by simp only [st1, hd, exI, ck, if_true, pI, pL, pA, pV, bI, bL, br, jmp, ht]; simp [h])
  · rw [if_neg h]; exact R_nx (by simp only [st1, hd, exI, ck, if_true, pI, pL, pA, pV, bI, bL, br, jmp, ht]; simp [h])
theorem e_ic_ge {x z : Int32} {off : Int} {t : Nat} (hd : decode (bN y) pc = .ok (.if_icmp .ge off, 3)) (ht : (pc : Int) + off = (t : Int)) : R d y pc ls (.int z :: .int x :: st) μ Q = if z ≤ x then R d y t ls st μ Q else R d y (pc + 3) ls st μ Q := by
  by_cases h : z ≤ x
  · rw [if_pos h]; exact R_nx (by simp only [st1, hd, exI, ck, if_true, pI, pL, pA, pV, bI, bL, br, jmp, ht]; simp [h])
  · rw [if_neg h]; exact R_nx (by simp only [st1, hd, exI, ck, if_true, pI, pL, pA, pV, bI, bL, br, jmp, ht]; simp [h])
theorem e_if_gt {x : Int32} {off : Int} {t : Nat} (hd : decode (bN y) pc = .ok (.ifCond .gt off, 3)) (ht : (pc : Int) + off = (t : Int)) : R d y pc ls (.int x :: st) μ Q = if 0 < x then R d y t ls st μ Q else R d y (pc + 3) ls st μ Q := by
  by_cases h : 0 < x
  · rw [if_pos h]; exact R_nx (by simp only [st1, hd, exI, ck, if_true, pI, pL, pA, pV, bI, bL, br, jmp, ht]; simp [h])
  · rw [if_neg h]; exact R_nx (by simp only [st1, hd, exI, ck, if_true, pI, pL, pA, pV, bI, bL, br, jmp, ht]; simp [h])
theorem e_ic_gt {x z : Int32} {off : Int} {t : Nat} (hd : decode (bN y) pc = .ok (.if_icmp .gt off, 3)) (ht : (pc : Int) + off = (t : Int)) : R d y pc ls (.int z :: .int x :: st) μ Q = if z < x then R d y t ls st μ Q else R d y (pc + 3) ls st μ Q := by
  by_cases h : z < x
  · rw [if_pos h]; exact R_nx (by simp only [st1, hd, exI, ck, if_true, pI, pL, pA, pV, bI, bL, br, jmp, ht]; simp [h])
  · rw [if_neg h]; exact R_nx (by simp only [st1, hd, exI, ck, if_true, pI, pL, pA, pV, bI, bL, br, jmp, ht]; simp [h])
theorem e_if_le {x : Int32} {off : Int} {t : Nat} (hd : decode (bN y) pc = .ok (.ifCond .le off, 3)) (ht : (pc : Int) + off = (t : Int)) : R d y pc ls (.int x :: st) μ Q = if x ≤ 0 then R d y t ls st μ Q else R d y (pc + 3) ls st μ Q := by
  by_cases h : x ≤ 0
  · rw [if_pos h]; exact R_nx (by simp only [st1, hd, exI, ck, if_true, pI, pL, pA, pV, bI, bL, br, jmp, ht]; simp [h])
  · rw [if_neg h]; exact R_nx (by simp only [st1, hd, exI, ck, if_true, pI, pL, pA, pV, bI, bL, br, jmp, ht]; simp [h])
theorem e_ic_le {x z : Int32} {off : Int} {t : Nat} (hd : decode (bN y) pc = .ok (.if_icmp .le off, 3)) (ht : (pc : Int) + off = (t : Int)) : R d y pc ls (.int z :: .int x :: st) μ Q = if x ≤ z then R d y t ls st μ Q else R d y (pc + 3) ls st μ Q := by
  by_cases h : x ≤ z
  · rw [if_pos h]; exact R_nx (by simp only [st1, hd, exI, ck, if_true, pI, pL, pA, pV, bI, bL, br, jmp, ht]; simp [h])
  · rw [if_neg h]; exact R_nx (by simp only [st1, hd, exI, ck, if_true, pI, pL, pA, pV, bI, bL, br, jmp, ht]; simp [h])
theorem e_ifnull {v : Option Nat} {off : Int} {t : Nat} (hd : decode (bN y) pc = .ok (.ifnull off, 3)) (ht : (pc : Int) + off = (t : Int)) : R d y pc ls (va_rf v :: st) μ Q = if v = none then R d y t ls st μ Q else R d y (pc + 3) ls st μ Q := by
  cases v with
  | none => rw [if_pos rfl]; exact R_nx (by simp only [st1, hd, exI, ck, if_true, pI, pL, pA, pV, bI, bL, va_rf, jmp, ht]; simp)
  | some a => rw [if_neg (by simp)]; exact R_nx (by simp only [st1, hd, exI, ck, if_true, pI, pL, pA, pV, bI, bL, va_rf])
theorem e_tsw {dflt lo hi : Int} {offs : Array Int} {len : Nat} {x : Int32} {off : Int} {t : Nat} (hd : decode (bN y) pc = .ok (.tableswitch dflt lo hi offs, len)) (hj : jT dflt lo hi offs x = some off) (ht : (pc : Int) + off = (t : Int)) : R d y pc ls (.int x :: st) μ Q = R d y t ls st μ Q := R_nx (by simp only [st1, hd, exI, ck, if_true, pI, pL, pA, pV, bI, bL, hj, jmp, ht]; simp)
theorem e_lsw {dflt : Int} {ps : Array (Int × Int)} {len : Nat} {x : Int32} {off : Int} {t : Nat} (hd : decode (bN y) pc = .ok (.lookupswitch dflt ps, len)) (hp : (ps.toList.zip (ps.toList.drop 1)).all (fun (a, next) => a.1 < next.1) = true) (hj : Op.lookupswitch.offset ps.toList dflt x.toInt = off) (ht : (pc : Int) + off = (t : Int)) : R d y pc ls (.int x :: st) μ Q = R d y t ls st μ Q := R_nx (by simp only [st1, hd, exI, ck, hp, if_true, pI, hj, jmp, ht]; simp)
theorem e_getfield {k c j a : Nat} {v : Value} (hd : decode (bN y) pc = .ok (.getfield k, 3)) (hl : lookF (oN y) k = some (c, j)) (hv : fv μ a (tyN c j) j = v) : R d y pc ls (.ref a :: st) μ Q = (a % 100 = c ∧ R d y (pc + 3) ls (v :: st) μ Q) := by
  subst hv
  exact e_no (by simp only [st1, hd, exI, ck, if_true, pI, pL, pA, pV, bI, bL, hl]; rfl) (fun h => R_nx (by simp only [st1, hd, exI, ck, if_true, pI, pL, pA, pV, bI, bL, hl]; simp [h]))
theorem e_putfield {k c j a : Nat} {v : Value} {μ' : PM} (hd : decode (bN y) pc = .ok (.putfield k, 3)) (hl : lookF (oN y) k = some (c, j)) (hf : (TN c j).2.2.2 = false ∨ (kN y = 2 ∧ oN y = c)) (hv : putV μ a j (tyN c j) v = some μ') : R d y pc ls (v :: .ref a :: st) μ Q = (a % 100 = c ∧ R d y (pc + 3) ls st μ' Q) := by
  by_cases h : a % 100 = c
  · rw [R_nx (pc' := pc + 3) (ls' := ls) (st' := st) (μ' := μ') (by simp only [st1, hd, exI, ck, if_true, pI, pL, pA, pV, bI, bL, hl, h, hf, and_self, hv]), eq_true h, true_and]
  · rw [R_no (by simp only [st1, hd, exI, ck, if_true, pI, pL, pA, pV, bI, bL, hl, h, false_and, if_false]), eq_false h, false_and]
theorem e_putfieldZ {k c j a : Nat} {x : Int32} (hd : decode (bN y) pc = .ok (.putfield k, 3)) (hl : lookF (oN y) k = some (c, j)) (hf : (TN c j).2.2.2 = false ∨ (kN y = 2 ∧ oN y = c)) (ht : tyN c j = .boolean) : R d y pc ls (.int x :: .ref a :: st) μ Q = ((a % 100 = c ∧ (x = 0 ∨ x = 1)) ∧ R d y (pc + 3) ls st (wI μ a j x) Q) := by
  by_cases h : x = 0 ∨ x = 1
  · rw [e_putfield hd hl hf (μ' := wI μ a j x) (by simp only [ht, putV, h, if_true]), eq_true h, and_true]
  · rw [R_no, eq_false h, and_false, false_and]
    simp only [st1, hd, exI, ck, if_true, pI, pL, pA, pV, bI, bL, hl, hf, ht, putV, h, if_false, and_true]
    split <;> rfl
theorem e_kw (hd : decode (bN y) pc = .ok (.getstatic 55, 3)) (ho : oN y = 3) : R d y pc ls st μ Q = R d y (pc + 3) ls (.ref kwA :: st) μ Q := R_nx (by simp only [st1, hd, exI, ck, ho, and_self, if_true])
theorem e_iaload {i : Int32} {a : Nat} (hd : decode (bN y) pc = .ok (.iaload, 1)) : R d y pc ls (.int i :: .ref a :: st) μ Q = ((a % 100 = 20 ∧ ¬ (i < 0 ∨ a / 100 % 10000 ≤ i.toNatClampNeg)) ∧ R d y (pc + 1) ls (.int (rI μ a i.toNatClampNeg) :: st) μ Q) := e_no (by simp only [st1, hd, exI, ck, if_true, pI, pL, pA, pV, bI, bL]; rfl) (fun h => R_nx (by simp only [st1, hd, exI, ck, if_true, pI, pL, pA, pV, bI, bL]; rw [if_pos h]))
theorem e_laload {i : Int32} {a : Nat} (hd : decode (bN y) pc = .ok (.laload, 1)) : R d y pc ls (.int i :: .ref a :: st) μ Q = ((a % 100 = 21 ∧ ¬ (i < 0 ∨ a / 100 % 10000 ≤ i.toNatClampNeg)) ∧ R d y (pc + 1) ls (.long (rL μ a i.toNatClampNeg) :: st) μ Q) := e_no (by simp only [st1, hd, exI, ck, if_true, pI, pL, pA, pV, bI, bL]; rfl) (fun h => R_nx (by simp only [st1, hd, exI, ck, if_true, pI, pL, pA, pV, bI, bL]; rw [if_pos h]))
theorem e_caload {i : Int32} {a : Nat} (hd : decode (bN y) pc = .ok (.caload, 1)) : R d y pc ls (.int i :: .ref a :: st) μ Q = ((a % 100 = 22 ∧ ¬ (i < 0 ∨ a / 100 % 10000 ≤ i.toNatClampNeg)) ∧ R d y (pc + 1) ls (.int (rI μ a i.toNatClampNeg) :: st) μ Q) := e_no (by simp only [st1, hd, exI, ck, if_true, pI, pL, pA, pV, bI, bL]; rfl) (fun h => R_nx (by simp only [st1, hd, exI, ck, if_true, pI, pL, pA, pV, bI, bL]; rw [if_pos h]))
theorem e_baload {i : Int32} {a : Nat} (hd : decode (bN y) pc = .ok (.baload, 1)) : R d y pc ls (.int i :: .ref a :: st) μ Q = ((a % 100 = 23 ∧ ¬ (i < 0 ∨ a / 100 % 10000 ≤ i.toNatClampNeg)) ∧ R d y (pc + 1) ls (.int (rI μ a i.toNatClampNeg) :: st) μ Q) := e_no (by simp only [st1, hd, exI, ck, if_true, pI, pL, pA, pV, bI, bL]; rfl) (fun h => R_nx (by simp only [st1, hd, exI, ck, if_true, pI, pL, pA, pV, bI, bL]; rw [if_pos h]))
theorem e_aaload {i : Int32} {a : Nat} (hd : decode (bN y) pc = .ok (.aaload, 1)) : R d y pc ls (.int i :: .ref a :: st) μ Q = ((a % 100 = 24 ∧ ¬ (i < 0 ∨ a / 100 % 10000 ≤ i.toNatClampNeg)) ∧ R d y (pc + 1) ls (va_rf (rR μ a i.toNatClampNeg) :: st) μ Q) := e_no (by simp only [st1, hd, exI, ck, if_true, pI, pL, pA, pV, bI, bL]; rfl) (fun h => R_nx (by simp only [st1, hd, exI, ck, if_true, pI, pL, pA, pV, bI, bL]; rw [if_pos h]))
theorem e_iastore {i : Int32} {x : Int32} {a : Nat} (hd : decode (bN y) pc = .ok (.iastore, 1)) : R d y pc ls (.int x :: .int i :: .ref a :: st) μ Q = ((a % 100 = 20 ∧ 2000000 ≤ a ∧ ¬ (i < 0 ∨ a / 100 % 10000 ≤ i.toNatClampNeg)) ∧ R d y (pc + 1) ls st (wI μ a i.toNatClampNeg x) Q) := e_no (by simp only [st1, hd, exI, ck, if_true, pI, pL, pA, pV, bI, bL]; rfl) (fun h => R_nx (by simp only [st1, hd, exI, ck, if_true, pI, pL, pA, pV, bI, bL]; rw [if_pos h]))
theorem e_lastore {i : Int32} {x : Int64} {a : Nat} (hd : decode (bN y) pc = .ok (.lastore, 1)) : R d y pc ls (.long x :: .int i :: .ref a :: st) μ Q = ((a % 100 = 21 ∧ 2000000 ≤ a ∧ ¬ (i < 0 ∨ a / 100 % 10000 ≤ i.toNatClampNeg)) ∧ R d y (pc + 1) ls st (wL μ a i.toNatClampNeg x) Q) := e_no (by simp only [st1, hd, exI, ck, if_true, pI, pL, pA, pV, bI, bL]; rfl) (fun h => R_nx (by simp only [st1, hd, exI, ck, if_true, pI, pL, pA, pV, bI, bL]; rw [if_pos h]))
theorem e_castore {i : Int32} {x : Int32} {a : Nat} (hd : decode (bN y) pc = .ok (.castore, 1)) : R d y pc ls (.int x :: .int i :: .ref a :: st) μ Q = ((a % 100 = 22 ∧ 2000000 ≤ a ∧ ¬ (i < 0 ∨ a / 100 % 10000 ≤ i.toNatClampNeg)) ∧ R d y (pc + 1) ls st (wI μ a i.toNatClampNeg (vp_nar .char x)) Q) := e_no (by simp only [st1, hd, exI, ck, if_true, pI, pL, pA, pV, bI, bL]; rfl) (fun h => R_nx (by simp only [st1, hd, exI, ck, if_true, pI, pL, pA, pV, bI, bL]; rw [if_pos h]))
theorem e_bastore {i : Int32} {x : Int32} {a : Nat} (hd : decode (bN y) pc = .ok (.bastore, 1)) : R d y pc ls (.int x :: .int i :: .ref a :: st) μ Q = ((a % 100 = 23 ∧ 2000000 ≤ a ∧ ¬ (i < 0 ∨ a / 100 % 10000 ≤ i.toNatClampNeg)) ∧ R d y (pc + 1) ls st (wI μ a i.toNatClampNeg (vp_nar .boolean x)) Q) := e_no (by simp only [st1, hd, exI, ck, if_true, pI, pL, pA, pV, bI, bL]; rfl) (fun h => R_nx (by simp only [st1, hd, exI, ck, if_true, pI, pL, pA, pV, bI, bL]; rw [if_pos h]))
theorem e_aastore {i : Int32} {v a : Nat} (hd : decode (bN y) pc = .ok (.aastore, 1)) : R d y pc ls (.ref v :: .int i :: .ref a :: st) μ Q = ((a % 100 = 24 ∧ v % 100 = 8 ∧ 2000000 ≤ a ∧ ¬ (i < 0 ∨ a / 100 % 10000 ≤ i.toNatClampNeg)) ∧ R d y (pc + 1) ls st (wR μ a i.toNatClampNeg (some v)) Q) := e_no (by simp only [st1, hd, exI, ck, if_true, pI, pL, pA, pV, bI, bL]; rfl) (fun h => R_nx (by simp only [st1, hd, exI, ck, if_true, pI, pL, pA, pV, bI, bL]; rw [if_pos h]))
theorem e_alen {a : Nat} (hd : decode (bN y) pc = .ok (.arraylength, 1)) : R d y pc ls (.ref a :: st) μ Q = ((20 ≤ a % 100 ∧ a % 100 ≤ 24) ∧ R d y (pc + 1) ls (.int (Int32.ofNat (a / 100 % 10000)) :: st) μ Q) := e_no (by simp only [st1, hd, exI, ck, if_true, pI, pL, pA, pV, bI, bL]; rfl) (fun h => R_nx (by simp only [st1, hd, exI, ck, if_true, pI, pL, pA, pV, bI, bL]; rw [if_pos h]))
theorem e_new {k c : Nat} (hd : decode (bN y) pc = .ok (.new k, 3)) (hl : lookC (oN y) k = some c) : R d y pc ls st μ Q = R d y (pc + 3) ls (.ref (nx μ 0 c) :: st) (nw μ (nx μ 0 c)) Q := R_nx (by simp only [st1, hd, exI, ck, if_true, pI, pL, pA, pV, bI, bL, hl])
theorem e_newa {t : ArrayType} {g : Nat} {n : Int32} (hd : decode (bN y) pc = .ok (.newarray t, 2)) (hl : tgT t = some g) : R d y pc ls (.int n :: st) μ Q = ((¬ n < 0 ∧ n.toNatClampNeg < 10000) ∧ R d y (pc + 2) ls (.ref (nx μ n.toNatClampNeg g) :: st) (nw μ (nx μ n.toNatClampNeg g)) Q) := e_no (by simp only [st1, hd, exI, ck, if_true, pI, pL, pA, pV, bI, bL, hl]; rfl) (fun h => R_nx (by simp only [st1, hd, exI, ck, if_true, pI, pL, pA, pV, bI, bL, hl]; rw [if_pos h]))
theorem e_newq {k : Nat} {n : Int32} (hd : decode (bN y) pc = .ok (.anewarray k, 3)) (hl : lookC (oN y) k = some 8) : R d y pc ls (.int n :: st) μ Q = ((¬ n < 0 ∧ n.toNatClampNeg < 10000) ∧ R d y (pc + 3) ls (.ref (nx μ n.toNatClampNeg 24) :: st) (nw μ (nx μ n.toNatClampNeg 24)) Q) := e_no (by simp only [st1, hd, exI, ck, if_true, pI, pL, pA, pV, bI, bL, hl]; rfl) (fun h => R_nx (by simp only [st1, hd, exI, ck, if_true, pI, pL, pA, pV, bI, bL, hl]; rw [if_pos h]))
theorem e_oinit {k a : Nat} (hd : decode (bN y) pc = .ok (.invokespecial k, 3)) (hl : lookM (oN y) k = none) (hh : lookH (oN y) k = some 901) : R d y pc ls (.ref a :: st) μ Q = (sw st ≤ 8 ∧ R d y (pc + 3) ls st μ Q) := e_no (by simp only [st1, hd, exI, ck, if_true, pI, pL, pA, pV, bI, bL, hl, hh]; rfl) (fun h => R_nx (by simp only [st1, hd, exI, ck, if_true, pI, pL, pA, pV, bI, bL, hl, hh]; rw [if_pos h]))
theorem e_max {k : Nat} {x z : Int32} (hd : decode (bN y) pc = .ok (.invokestatic k, 3)) (hl : lookM (oN y) k = none) (hh : lookH (oN y) k = some 902) : R d y pc ls (.int z :: .int x :: st) μ Q = (sw st ≤ 8 ∧ R d y (pc + 3) ls (.int (if x < z then z else x) :: st) μ Q) := e_no (by simp only [st1, hd, exI, ck, if_true, pI, pL, pA, pV, bI, bL, exC, hl, hh]; rfl) (fun h => R_nx (by simp only [st1, hd, exI, ck, if_true, pI, pL, pA, pV, bI, bL, exC, hl, hh]; rw [if_pos h]))
theorem e_min {k : Nat} {x z : Int32} (hd : decode (bN y) pc = .ok (.invokestatic k, 3)) (hl : lookM (oN y) k = none) (hh : lookH (oN y) k = some 903) : R d y pc ls (.int z :: .int x :: st) μ Q = (sw st ≤ 8 ∧ R d y (pc + 3) ls (.int (if z < x then z else x) :: st) μ Q) := e_no (by simp only [st1, hd, exI, ck, if_true, pI, pL, pA, pV, bI, bL, exC, hl, hh]; rfl) (fun h => R_nx (by simp only [st1, hd, exI, ck, if_true, pI, pL, pA, pV, bI, bL, exC, hl, hh]; rw [if_pos h]))
theorem e_abs {k : Nat} {x : Int32} (hd : decode (bN y) pc = .ok (.invokestatic k, 3)) (hl : lookM (oN y) k = none) (hh : lookH (oN y) k = some 904) : R d y pc ls (.int x :: st) μ Q = (sw st ≤ 8 ∧ R d y (pc + 3) ls (.int (if 0 ≤ x then x else 0 - x) :: st) μ Q) := e_no (by simp only [st1, hd, exI, ck, if_true, pI, pL, pA, pV, bI, bL, exC, hl, hh]; rfl) (fun h => R_nx (by simp only [st1, hd, exI, ck, if_true, pI, pL, pA, pV, bI, bL, exC, hl, hh]; rw [if_pos h]))
theorem e_copy {k a b : Nat} {n dp sp : Int32} (hd : decode (bN y) pc = .ok (.invokestatic k, 3)) (hl : lookM (oN y) k = none) (hh : lookH (oN y) k = some 900) : R d y pc ls (.int n :: .int dp :: .ref b :: .int sp :: .ref a :: st) μ Q = ((a % 100 = 20 ∧ b % 100 = 20 ∧ 2000000 ≤ a ∧ 2000000 ≤ b ∧ ¬ sp < 0 ∧ ¬ dp < 0 ∧ ¬ n < 0 ∧ sp.toNatClampNeg + n.toNatClampNeg ≤ a / 100 % 10000 ∧ dp.toNatClampNeg + n.toNatClampNeg ≤ b / 100 % 10000 ∧ sw st ≤ 8) ∧ R d y (pc + 3) ls st (cI μ a sp.toNatClampNeg b dp.toNatClampNeg n.toNatClampNeg) Q) := e_no (by simp only [st1, hd, exI, ck, if_true, pI, pL, pA, pV, bI, bL, exC, hl, hh]; rfl) (fun h => R_nx (by simp only [st1, hd, exI, ck, if_true, pI, pL, pA, pV, bI, bL, exC, hl, hh]; rw [if_pos h]))
theorem e_callV {k z a n : Nat} {as rest : List Value} (hd : decode (bN y) pc = .ok (.invokevirtual k, 3)) (hl : lookM (oN y) k = some z) (hk : kN z = 0) (ho : oN z = n) (hn : as.length = aN z) (hg : entG z 0 (.ref a :: as.reverse) = true) : R (d + 1) y pc ls (as ++ .ref a :: rest) μ Q = ((a % 100 = n ∧ sw rest ≤ 8) ∧ R d z 0 (ent z (.ref a :: as.reverse)) [] μ (fun v μ' => R (d + 1) y (pc + 3) ls (v.toList ++ rest) μ' Q)) := by
  have g : (as ++ Value.ref a :: rest)[aN z]? = some (.ref a) := by rw [← hn]; simp
  have t1 : (as ++ Value.ref a :: rest).take (aN z + 1) = as ++ [.ref a] := by rw [← hn, List.take_append, List.take_of_length_le (by omega)]; simp
  have t2 : (as ++ Value.ref a :: rest).drop (aN z + 1) = rest := by rw [← hn, List.drop_append]; simp
  have t3 : aN z + 1 ≤ (as ++ Value.ref a :: rest).length := by rw [← hn]; simp
  have t4 : (as ++ [Value.ref a]).reverse = .ref a :: as.reverse := by simp
  by_cases h1 : a % 100 = n
  · by_cases h2 : sw rest ≤ 8
    · rw [R_call (z := z) (as := .ref a :: as.reverse) (rest := rest), eq_true h1, eq_true h2, and_self, true_and]
      simp only [st1, hd, exI, ck, if_true, hl, hk, g, isOf, h1, ho, beq_self_eq_true, and_self, cal, t1, t2, t3, t4, h2, hg]
      simp [t1, t2, h2, hg]
      omega
    · rw [R_no, eq_false h2, and_false, false_and]
      simp only [st1, hd, exI, ck, if_true, hl, hk, g, isOf, h1, ho, beq_self_eq_true, and_self, cal, t1, t2, t3, t4, h2, hg]
      simp [t2, h2]
  · rw [R_no, eq_false h1, false_and, false_and]
    simp only [st1, hd, exI, ck, if_true, hl, hk, g, isOf, ho]
    rw [if_neg]
    simp [h1]
theorem e_callI {k z a n : Nat} {as rest : List Value} (hd : decode (bN y) pc = .ok (.invokespecial k, 3)) (hl : lookM (oN y) k = some z) (hk : kN z = 2) (ho : oN z = n) (hn : as.length = aN z) (hg : entG z 0 (.ref a :: as.reverse) = true) : R (d + 1) y pc ls (as ++ .ref a :: rest) μ Q = ((a % 100 = n ∧ sw rest ≤ 8) ∧ R d z 0 (ent z (.ref a :: as.reverse)) [] μ (fun v μ' => R (d + 1) y (pc + 3) ls (v.toList ++ rest) μ' Q)) := by
  have g : (as ++ Value.ref a :: rest)[aN z]? = some (.ref a) := by rw [← hn]; simp
  have t1 : (as ++ Value.ref a :: rest).take (aN z + 1) = as ++ [.ref a] := by rw [← hn, List.take_append, List.take_of_length_le (by omega)]; simp
  have t2 : (as ++ Value.ref a :: rest).drop (aN z + 1) = rest := by rw [← hn, List.drop_append]; simp
  have t3 : aN z + 1 ≤ (as ++ Value.ref a :: rest).length := by rw [← hn]; simp
  have t4 : (as ++ [Value.ref a]).reverse = .ref a :: as.reverse := by simp
  by_cases h1 : a % 100 = n
  · by_cases h2 : sw rest ≤ 8
    · rw [R_call (z := z) (as := .ref a :: as.reverse) (rest := rest), eq_true h1, eq_true h2, and_self, true_and]
      simp only [st1, hd, exI, ck, if_true, hl, hk, g, isOf, h1, ho, beq_self_eq_true, and_self, cal, t1, t2, t3, t4, h2, hg]
      simp [t1, t2, h2, hg]
      omega
    · rw [R_no, eq_false h2, and_false, false_and]
      simp only [st1, hd, exI, ck, if_true, hl, hk, g, isOf, h1, ho, beq_self_eq_true, and_self, cal, t1, t2, t3, t4, h2, hg]
      simp [t2, h2]
  · rw [R_no, eq_false h1, false_and, false_and]
    simp only [st1, hd, exI, ck, if_true, hl, hk, g, isOf, ho]
    rw [if_neg]
    simp [h1]
theorem e_callS {k z : Nat} {as rest : List Value} (hd : decode (bN y) pc = .ok (.invokestatic k, 3)) (hl : lookM (oN y) k = some z) (hk : kN z = 1) (hn : as.length = aN z) (hg : entG z 0 as.reverse = true) : R (d + 1) y pc ls (as ++ rest) μ Q = (sw rest ≤ 8 ∧ R d z 0 (ent z as.reverse) [] μ (fun v μ' => R (d + 1) y (pc + 3) ls (v.toList ++ rest) μ' Q)) := by
  have t1 : (as ++ rest).take (aN z) = as := by rw [← hn, List.take_left]
  have t2 : (as ++ rest).drop (aN z) = rest := by rw [← hn, List.drop_left]
  have t3 : aN z ≤ (as ++ rest).length := by rw [← hn]; simp
  by_cases h2 : sw rest ≤ 8
  · rw [R_call (z := z) (as := as.reverse) (rest := rest), eq_true h2, true_and]
    simp only [st1, hd, exI, ck, if_true, exC, hl, hk, cal, t1, t2, t3, h2, hg, and_self]
  · rw [R_no, eq_false h2, false_and]
    simp only [st1, hd, exI, ck, if_true, exC, hl, hk, cal, t1, t2, t3, h2, false_and, and_false, if_false]
theorem e_ireturn {x : Int32} (hd : decode (bN y) pc = .ok (.ireturn, 1)) (ht : tN y = some .int) : R d y pc ls [.int x] μ Q = Q (some (.int x)) μ := R_ret (by simp only [st1, hd, exI, ck, if_true, pI, pL, pA, pV, bI, bL, ht])
theorem e_zreturn {x : Int32} (hd : decode (bN y) pc = .ok (.ireturn, 1)) (ht : tN y = some .boolean) : R d y pc ls [.int x] μ Q = ((x = 0 ∨ x = 1) ∧ Q (some (.int x)) μ) := e_no (by simp only [st1, hd, exI, ht]; rfl) (fun h => R_ret (by simp only [st1, hd, exI, ck, if_true, pI, pL, pA, pV, bI, bL, ht]; rw [if_pos h]))
theorem e_lreturn {x : Int64} (hd : decode (bN y) pc = .ok (.lreturn, 1)) (ht : tN y = some .long) : R d y pc ls [.long x] μ Q = Q (some (.long x)) μ := R_ret (by simp only [st1, hd, exI, ck, if_true, pI, pL, pA, pV, bI, bL, ht])
theorem e_return (hd : decode (bN y) pc = .ok (.return_, 1)) (ht : tN y = none) : R d y pc ls [] μ Q = Q none μ := R_ret (by simp only [st1, hd, exI, ck, if_true, pI, pL, pA, pV, bI, bL, ht])
end EQ
