/-! ===== no NaN ===== -/
theorem q_t32 : Jvm.FP.Core.b32.tails = 8388608 := by decide
theorem q_e32 : Jvm.FP.Core.b32.exps = 256 := by decide
theorem q_x32 : Jvm.FP.Core.b32.qmax = 104 := by decide
theorem q_m32 : Jvm.FP.Core.b32.qmin = -149 := by decide
theorem q_p32 : Jvm.FP.Core.b32.p = 24 := rfl
def q_ok32 (n : Nat) : Prop := n % 2147483648 ≤ 2139095040
theorem q_of32 {s : Bool} {c : Nat} {q : Int} (hc : c < 16777216) (hq : q ≤ 104) : q_ok32 (Jvm.FP.Core.encode Jvm.FP.Core.b32 (.fin s c q)) := by
  show (if c < Jvm.FP.Core.b32.tails then Jvm.FP.Core.assemble Jvm.FP.Core.b32 s 0 c else Jvm.FP.Core.assemble Jvm.FP.Core.b32 s ((q - Jvm.FP.Core.b32.qmin).toNat + 1) (c - Jvm.FP.Core.b32.tails)) % 2147483648 ≤ 2139095040
  rw [q_t32, q_m32]
  unfold Jvm.FP.Core.assemble
  rw [q_t32, q_e32]
  cases s
  · show (if c < 8388608 then ((0 : Nat) * 256 + 0) * 8388608 + c else ((0 : Nat) * 256 + ((q - (-149)).toNat + 1)) * 8388608 + (c - 8388608)) % 2147483648 ≤ 2139095040
    split <;> omega
  · show (if c < 8388608 then ((1 : Nat) * 256 + 0) * 8388608 + c else ((1 : Nat) * 256 + ((q - (-149)).toNat + 1)) * 8388608 + (c - 8388608)) % 2147483648 ≤ 2139095040
    split <;> omega
theorem q_oi32 (s : Bool) : q_ok32 (Jvm.FP.Core.encode Jvm.FP.Core.b32 (.inf s)) := by
  unfold q_ok32
  cases s <;> decide
theorem q_ob32 {s : Bool} {c : Nat} {q : Int} (hc : c < 16777216) : q_ok32 (Jvm.FP.Core.encode Jvm.FP.Core.b32 (Jvm.FP.Core.bound Jvm.FP.Core.b32 s c q)) := by
  unfold Jvm.FP.Core.bound
  rw [q_x32]
  split
  · next z => exact q_of32 hc z
  · exact q_oi32 s
theorem q_or32 (s : Bool) (n d : Nat) (e : Int) : q_ok32 (Jvm.FP.Core.encode Jvm.FP.Core.b32 (Jvm.FP.Core.roundRatio Jvm.FP.Core.b32 s n d e)) := by
  unfold Jvm.FP.Core.roundRatio
  split
  · exact q_of32 (by decide) (by decide)
  · unfold Jvm.FP.Core.roundAt Jvm.FP.Core.settle
    rw [q_p32, q_t32]
    split
    · next z => exact q_ob32 z
    · exact q_ob32 (by decide)
theorem q_od32 {n : Nat} (h : q_ok32 n) : Jvm.FP.Core.decode Jvm.FP.Core.b32 n ≠ .nan := by
  unfold q_ok32 at h
  unfold Jvm.FP.Core.decode Jvm.FP.Core.fieldE Jvm.FP.Core.fieldT
  rw [q_t32, q_e32]
  split
  · next z =>
    rw [if_pos (by omega)]
    exact fun q => by cases q
  · split
    · exact fun q => by cases q
    · exact fun q => by cases q
theorem q_oq32 {x y : Jvm.FP.Core.Datum} (hx : x ≠ .nan) (hy : ∃ s d r, y = .fin s d r ∧ d ≠ 0) : q_ok32 (Jvm.FP.Core.encode Jvm.FP.Core.b32 (Jvm.FP.Core.quotient Jvm.FP.Core.b32 x y)) := by
  obtain ⟨s, d, r, rfl, hd⟩ := hy
  match x, hx with
  | .inf t, _ => exact q_oi32 _
  | .fin t c q, _ =>
    show q_ok32 (Jvm.FP.Core.encode Jvm.FP.Core.b32 (if d = 0 then _ else _))
    rw [if_neg hd]
    exact q_or32 _ _ _ _
theorem q_oU32 {n : Nat} (h : q_ok32 n) : q_ok32 (UInt32.ofNat n).toNat := by
  unfold q_ok32 at h ⊢
  rw [UInt32.toNat_ofNat']
  omega
theorem q_oV32 {a : UInt32} (h : q_ok32 a.toNat) : vf_n32 a := by
  unfold q_ok32 at h
  show a &&& 0x7fffffff ≤ 0x7f800000
  rw [UInt32.le_iff_toNat_le, UInt32.toNat_and]
  show a.toNat &&& (2 ^ 31 - 1) ≤ 2139095040
  rw [Nat.and_two_pow_sub_one_eq_mod]
  exact h
theorem q_t64 : Jvm.FP.Core.b64.tails = 4503599627370496 := by decide
theorem q_e64 : Jvm.FP.Core.b64.exps = 2048 := by decide
theorem q_x64 : Jvm.FP.Core.b64.qmax = 971 := by decide
theorem q_m64 : Jvm.FP.Core.b64.qmin = -1074 := by decide
theorem q_p64 : Jvm.FP.Core.b64.p = 53 := rfl
def q_ok64 (n : Nat) : Prop := n % 9223372036854775808 ≤ 9218868437227405312
theorem q_of64 {s : Bool} {c : Nat} {q : Int} (hc : c < 9007199254740992) (hq : q ≤ 971) : q_ok64 (Jvm.FP.Core.encode Jvm.FP.Core.b64 (.fin s c q)) := by
  show (if c < Jvm.FP.Core.b64.tails then Jvm.FP.Core.assemble Jvm.FP.Core.b64 s 0 c else Jvm.FP.Core.assemble Jvm.FP.Core.b64 s ((q - Jvm.FP.Core.b64.qmin).toNat + 1) (c - Jvm.FP.Core.b64.tails)) % 9223372036854775808 ≤ 9218868437227405312
  rw [q_t64, q_m64]
  unfold Jvm.FP.Core.assemble
  rw [q_t64, q_e64]
  cases s
  · show (if c < 4503599627370496 then ((0 : Nat) * 2048 + 0) * 4503599627370496 + c else ((0 : Nat) * 2048 + ((q - (-1074)).toNat + 1)) * 4503599627370496 + (c - 4503599627370496)) % 9223372036854775808 ≤ 9218868437227405312
    split <;> omega
  · show (if c < 4503599627370496 then ((1 : Nat) * 2048 + 0) * 4503599627370496 + c else ((1 : Nat) * 2048 + ((q - (-1074)).toNat + 1)) * 4503599627370496 + (c - 4503599627370496)) % 9223372036854775808 ≤ 9218868437227405312
    split <;> omega
theorem q_oi64 (s : Bool) : q_ok64 (Jvm.FP.Core.encode Jvm.FP.Core.b64 (.inf s)) := by
  unfold q_ok64
  cases s <;> decide
theorem q_ob64 {s : Bool} {c : Nat} {q : Int} (hc : c < 9007199254740992) : q_ok64 (Jvm.FP.Core.encode Jvm.FP.Core.b64 (Jvm.FP.Core.bound Jvm.FP.Core.b64 s c q)) := by
  unfold Jvm.FP.Core.bound
  rw [q_x64]
  split
  · next z => exact q_of64 hc z
  · exact q_oi64 s
theorem q_or64 (s : Bool) (n d : Nat) (e : Int) : q_ok64 (Jvm.FP.Core.encode Jvm.FP.Core.b64 (Jvm.FP.Core.roundRatio Jvm.FP.Core.b64 s n d e)) := by
  unfold Jvm.FP.Core.roundRatio
  split
  · exact q_of64 (by decide) (by decide)
  · unfold Jvm.FP.Core.roundAt Jvm.FP.Core.settle
    rw [q_p64, q_t64]
    split
    · next z => exact q_ob64 z
    · exact q_ob64 (by decide)
theorem q_od64 {n : Nat} (h : q_ok64 n) : Jvm.FP.Core.decode Jvm.FP.Core.b64 n ≠ .nan := by
  unfold q_ok64 at h
  unfold Jvm.FP.Core.decode Jvm.FP.Core.fieldE Jvm.FP.Core.fieldT
  rw [q_t64, q_e64]
  split
  · next z =>
    rw [if_pos (by omega)]
    exact fun q => by cases q
  · split
    · exact fun q => by cases q
    · exact fun q => by cases q
theorem q_oq64 {x y : Jvm.FP.Core.Datum} (hx : x ≠ .nan) (hy : ∃ s d r, y = .fin s d r ∧ d ≠ 0) : q_ok64 (Jvm.FP.Core.encode Jvm.FP.Core.b64 (Jvm.FP.Core.quotient Jvm.FP.Core.b64 x y)) := by
  obtain ⟨s, d, r, rfl, hd⟩ := hy
  match x, hx with
  | .inf t, _ => exact q_oi64 _
  | .fin t c q, _ =>
    show q_ok64 (Jvm.FP.Core.encode Jvm.FP.Core.b64 (if d = 0 then _ else _))
    rw [if_neg hd]
    exact q_or64 _ _ _ _
theorem q_oU64 {n : Nat} (h : q_ok64 n) : q_ok64 (UInt64.ofNat n).toNat := by
  unfold q_ok64 at h ⊢
  rw [UInt64.toNat_ofNat']
  omega
theorem q_oV64 {a : UInt64} (h : q_ok64 a.toNat) : vf_n64 a := by
  unfold q_ok64 at h
  show a &&& 0x7fffffffffffffff ≤ 0x7ff0000000000000
  rw [UInt64.le_iff_toNat_le, UInt64.toNat_and]
  show a.toNat &&& (2 ^ 63 - 1) ≤ 9218868437227405312
  rw [Nat.and_two_pow_sub_one_eq_mod]
  exact h
theorem q_i2f (x : Int32) : q_ok32 (FP.i2f x).toNat := q_oU32 (q_or32 _ _ _ _)
theorem q_i2d (x : Int32) : q_ok64 (FP.i2d x).toNat := q_oU64 (q_or64 _ _ _ _)
theorem q_v3 : Jvm.FP.Core.decode Jvm.FP.Core.b32 (1077936128 : UInt32).toNat = .fin false 12582912 (-22) := by decide +kernel
theorem q_fd3 (x : Int32) : q_ok32 (FP.fdiv (FP.i2f x) (1077936128 : UInt32)).toNat := q_oU32 (q_oq32 (q_od32 (q_i2f x)) ⟨_, _, _, q_v3, by decide⟩)
theorem q_f2d {a : UInt32} (h : q_ok32 a.toNat) : q_ok64 (FP.f2d a).toNat := by
  have hd := q_od32 h
  have e : FP.f2d a = Jvm.FP.Core.f2d a := if_neg (fun q => hd (of_decide_eq_true q))
  rw [e]
  refine q_oU64 ?_
  unfold Jvm.FP.Core.convert
  match Jvm.FP.Core.decode Jvm.FP.Core.b32 a.toNat, hd with
  | .inf s, _ => exact q_oi64 s
  | .fin _ _ _, _ => exact q_or64 _ _ _ _
def q_isFin (d : Jvm.FP.Core.Datum) : Bool := match d with
  | .fin _ c _ => !(c == 0)
  | _ => false
theorem q_isFin_s {d : Jvm.FP.Core.Datum} (h : q_isFin d = true) : ∃ s c r, d = .fin s c r ∧ c ≠ 0 := by
  match d, h with
  | .fin s c r, h => exact ⟨s, c, r, rfl, by simpa [q_isFin] using h⟩
theorem q_3n : ∀ n, n < 13 → 1 ≤ n → q_isFin (Jvm.FP.Core.decode Jvm.FP.Core.b64 (FP.i2d ((3 : Int32) * nI n)).toNat) = true := by decide +kernel
theorem q_dd3 (x : Int32) {n : Nat} (h1 : 1 ≤ n) (h2 : n ≤ 12) : q_ok64 (FP.ddiv (FP.i2d x) (FP.i2d ((3 : Int32) * nI n))).toNat := q_oU64 (q_oq64 (q_od64 (q_i2d x)) (q_isFin_s (q_3n n (by omega) h1)))
