/-! HOW MANY BITS: the stopped paddles -/
def ushL (x : Int64) (z : Int32) : Int64 := (x.toUInt64 >>> (z.toInt64.toUInt64 &&& Int64.toUInt64 63)).toInt64
def nL (x : Int64) : Nat := x.toBitVec.toNat
theorem nL_lt (x : Int64) : nL x < 18446744073709551616 := x.toBitVec.isLt
theorem nL_and (x z : Int64) : nL (x &&& z) = nL x &&& nL z := by
  unfold nL; rw [Int64.toBitVec_and, BitVec.toNat_and]
theorem nL_or (x z : Int64) : nL (x ||| z) = nL x ||| nL z := by
  unfold nL; rw [Int64.toBitVec_or, BitVec.toNat_or]
theorem nL_add (x z : Int64) (h : nL x + nL z < 18446744073709551616) : nL (x + z) = nL x + nL z := by
  unfold nL at *; rw [Int64.toBitVec_add, BitVec.toNat_add, Nat.mod_eq_of_lt (by omega)]
theorem nL_sub (x z : Int64) (h : nL z ≤ nL x) : nL (x - z) = nL x - nL z := by
  have := nL_lt x
  unfold nL at *; rw [Int64.toBitVec_sub, BitVec.toNat_sub_of_le h]
theorem ush_cnt : ∀ k, k < 64 → ((nI k).toInt64.toUInt64 &&& Int64.toUInt64 63).toNat % 64 = k := by decide +kernel
theorem nL_ush (x : Int64) {k : Nat} (hk : k < 64) : nL (ushL x (nI k)) = nL x / 2 ^ k := by
  unfold nL ushL
  show (x.toUInt64 >>> ((nI k).toInt64.toUInt64 &&& Int64.toUInt64 63)).toNat = x.toUInt64.toNat / 2 ^ k
  rw [UInt64.toNat_shiftRight, ush_cnt k hk, Nat.shiftRight_eq_div_pow]
theorem and_two {w u m : Nat} (v n : Nat) (hu : u < 2 ^ w) (hm : m < 2 ^ w) : (2 ^ w * v + u) &&& (2 ^ w * n + m) = 2 ^ w * (v &&& n) + (u &&& m) := by
  apply Nat.eq_of_testBit_eq
  intro i
  rw [Nat.testBit_and, Nat.testBit_two_pow_mul_add _ hu, Nat.testBit_two_pow_mul_add _ hm, Nat.testBit_two_pow_mul_add _ (Nat.lt_of_le_of_lt Nat.and_le_left hu)]
  split <;> rw [Nat.testBit_and]
theorem and_5 {a b c d e m : Nat} (ha : a < 256) (hb : b < 256) (hc : c < 256) (hd : d < 256) (hm : m < 256) {r q : Nat} (hq : q = m + 256 * m + 65536 * m + 16777216 * m + 4294967296 * (m + 256 * r)) : (a + 256 * b + 65536 * c + 16777216 * d + 4294967296 * e) &&& q = (a &&& m) + 256 * (b &&& m) + 65536 * (c &&& m) + 16777216 * (d &&& m) + 4294967296 * (e &&& (m + 256 * r)) := by
  subst hq
  have e1 := @and_two 8 a m (b + 256 * (c + 256 * (d + 256 * e))) (m + 256 * (m + 256 * (m + 256 * (m + 256 * r)))) (by omega) (by omega)
  have e2 := @and_two 8 b m (c + 256 * (d + 256 * e)) (m + 256 * (m + 256 * (m + 256 * r))) (by omega) (by omega)
  have e3 := @and_two 8 c m (d + 256 * e) (m + 256 * (m + 256 * r)) (by omega) (by omega)
  have e4 := @and_two 8 d m e (m + 256 * r) (by omega) (by omega)
  rw [show a + 256 * b + 65536 * c + 16777216 * d + 4294967296 * e = 2 ^ 8 * (b + 256 * (c + 256 * (d + 256 * e))) + a by omega, show m + 256 * m + 65536 * m + 16777216 * m + 4294967296 * (m + 256 * r) = 2 ^ 8 * (m + 256 * (m + 256 * (m + 256 * (m + 256 * r)))) + m by omega, e1,
    show b + 256 * (c + 256 * (d + 256 * e)) = 2 ^ 8 * (c + 256 * (d + 256 * e)) + b by omega, show m + 256 * (m + 256 * (m + 256 * (m + 256 * r))) = 2 ^ 8 * (m + 256 * (m + 256 * (m + 256 * r))) + m by omega, e2,
    show c + 256 * (d + 256 * e) = 2 ^ 8 * (d + 256 * e) + c by omega, show m + 256 * (m + 256 * (m + 256 * r)) = 2 ^ 8 * (m + 256 * (m + 256 * r)) + m by omega, e3,
    show d + 256 * e = 2 ^ 8 * e + d by omega, show m + 256 * (m + 256 * r) = 2 ^ 8 * (m + 256 * r) + m by omega, e4]
  omega
theorem and_top {e m : Nat} (r : Nat) (he : e < 256) (hm : m < 256) : e &&& (m + 256 * r) = e &&& m := by
  have := @and_two 8 e m 0 r (by omega) (by omega)
  rw [show 2 ^ 8 * 0 + e = e by omega, show 2 ^ 8 * r + m = m + 256 * r by omega, Nat.zero_and] at this
  omega
/-- the byte's rows -/
def y1 (a : Nat) : Nat := a - (a / 2 &&& 85)
def y2 (a : Nat) : Nat := (a &&& 51) + (a / 4 &&& 51)
def y3 (a : Nat) : Nat := (a + a / 16) &&& 15
theorem y_1 : ∀ a, a < 256 → ∀ z, z < 2 → (a / 2 + 128 * z) &&& 85 = a / 2 &&& 85 := by decide +kernel
theorem y_1b : ∀ a, a < 256 → (a / 2 &&& 85) ≤ a := by decide +kernel
theorem y_2 : ∀ a, a < 256 → ∀ z, z < 4 → (a / 4 + 64 * z) &&& 51 = a / 4 &&& 51 := by decide +kernel
theorem y_2b : ∀ a, a < 256 → y1 a < 256 ∧ y2 (y1 a) < 69 ∧ y2 (y1 a) % 16 < 5 ∧ y3 (y2 (y1 a)) ≤ 8 := by decide +kernel
theorem y_3 : ∀ a, a < 69 → ∀ z, z < 5 → (a + a / 16 + 16 * z) &&& 15 = (a + a / 16) &&& 15 := by decide +kernel
def popB (a : Nat) : Nat := y3 (y2 (y1 a))
def pp1 (x : Int64) : Int64 := x - (ushL x 1 &&& 6148914691236517205)
def pp2 (x : Int64) : Int64 := (x &&& 3689348814741910323) + (ushL x 2 &&& 3689348814741910323)
def pp3 (x : Int64) : Int64 := (x + ushL x 4) &&& 1085102592571150095
def pp4 (z : Int32) (x : Int64) : Int64 := x + ushL x z
def popF (x : Int64) : Int32 := (pp4 32 (pp4 16 (pp4 8 (pp3 (pp2 (pp1 x)))))).toInt32 &&& 127
theorem popF_at {x : Int64} {a b c d e : Nat} (ha : a < 256) (hb : b < 256) (hc : c < 256) (hd : d < 256) (he : e < 256) (hx : nL x = a + 256 * b + 65536 * c + 16777216 * d + 4294967296 * e) : popF x = nI (popB a + popB b + popB c + popB d + popB e) := by
  have A := y_2b a ha
  have B := y_2b b hb
  have C := y_2b c hc
  have D := y_2b d hd
  have E := y_2b e he
  have h1 : nL (ushL x 1 &&& 6148914691236517205) = (a / 2 &&& 85) + 256 * (b / 2 &&& 85) + 65536 * (c / 2 &&& 85) + 16777216 * (d / 2 &&& 85) + 4294967296 * (e / 2 &&& 85) := by
    rw [nL_and, show (1 : Int32) = nI 1 from rfl, nL_ush _ (by omega), hx, show nL 6148914691236517205 = 6148914691236517205 from rfl, show (a + 256 * b + 65536 * c + 16777216 * d + 4294967296 * e) / 2 ^ 1 = (a / 2 + 128 * (b % 2)) + 256 * (b / 2 + 128 * (c % 2)) + 65536 * (c / 2 + 128 * (d % 2)) + 16777216 * (d / 2 + 128 * (e % 2)) + 4294967296 * (e / 2) by omega,
      and_5 (m := 85) (r := 5592405) (by omega) (by omega) (by omega) (by omega) (by omega) (by decide), and_top _ (by omega) (by omega), y_1 a ha _ (by omega), y_1 b hb _ (by omega), y_1 c hc _ (by omega), y_1 d hd _ (by omega)]
  have h2 : nL (x - (ushL x 1 &&& 6148914691236517205)) = y1 a + 256 * y1 b + 65536 * y1 c + 16777216 * y1 d + 4294967296 * y1 e := by
    have := y_1b a ha
    have := y_1b b hb
    have := y_1b c hc
    have := y_1b d hd
    have := y_1b e he
    rw [nL_sub _ _ (by omega), h1, hx]
    unfold y1
    omega
  unfold popF
  change nL (pp1 x) = _ at h2
  generalize pp1 x = x1 at *
  have h3 : nL ((x1 &&& 3689348814741910323) + (ushL x1 2 &&& 3689348814741910323)) = y2 (y1 a) + 256 * y2 (y1 b) + 65536 * y2 (y1 c) + 16777216 * y2 (y1 d) + 4294967296 * y2 (y1 e) := by
    have f1 : nL (x1 &&& 3689348814741910323) = (y1 a &&& 51) + 256 * (y1 b &&& 51) + 65536 * (y1 c &&& 51) + 16777216 * (y1 d &&& 51) + 4294967296 * (y1 e &&& 51) := by
      rw [nL_and, h2, show nL 3689348814741910323 = 3689348814741910323 from rfl, and_5 (m := 51) (r := 3355443) A.1 B.1 C.1 D.1 (by omega) (by decide), and_top _ E.1 (by omega)]
    have f2 : nL (ushL x1 2 &&& 3689348814741910323) = (y1 a / 4 &&& 51) + 256 * (y1 b / 4 &&& 51) + 65536 * (y1 c / 4 &&& 51) + 16777216 * (y1 d / 4 &&& 51) + 4294967296 * (y1 e / 4 &&& 51) := by
      rw [nL_and, show (2 : Int32) = nI 2 from rfl, nL_ush _ (by omega), h2, show nL 3689348814741910323 = 3689348814741910323 from rfl, show (y1 a + 256 * y1 b + 65536 * y1 c + 16777216 * y1 d + 4294967296 * y1 e) / 2 ^ 2 = (y1 a / 4 + 64 * (y1 b % 4)) + 256 * (y1 b / 4 + 64 * (y1 c % 4)) + 65536 * (y1 c / 4 + 64 * (y1 d % 4)) + 16777216 * (y1 d / 4 + 64 * (y1 e % 4)) + 4294967296 * (y1 e / 4) by omega,
        and_5 (m := 51) (r := 3355443) (by omega) (by omega) (by omega) (by omega) (by omega) (by decide), and_top _ (by omega) (by omega), y_2 _ A.1 _ (by omega), y_2 _ B.1 _ (by omega), y_2 _ C.1 _ (by omega), y_2 _ D.1 _ (by omega)]
    unfold y2 at A B C D E
    rw [nL_add _ _ (by omega), f1, f2]
    unfold y2
    omega
  change nL (pp2 x1) = _ at h3
  generalize pp2 x1 = x2 at *
  have h4 : nL ((x2 + ushL x2 4) &&& 1085102592571150095) = popB a + 256 * popB b + 65536 * popB c + 16777216 * popB d + 4294967296 * popB e := by
    unfold popB
    generalize y2 (y1 a) = s at *
    generalize y2 (y1 b) = t at *
    generalize y2 (y1 c) = u at *
    generalize y2 (y1 d) = v at *
    generalize y2 (y1 e) = w at *
    have f1 : nL (ushL x2 4) = (s / 16 + 16 * (t % 16)) + 256 * (t / 16 + 16 * (u % 16)) + 65536 * (u / 16 + 16 * (v % 16)) + 16777216 * (v / 16 + 16 * (w % 16)) + 4294967296 * (w / 16) := by
      rw [show (4 : Int32) = nI 4 from rfl, nL_ush _ (by omega), h3]
      omega
    rw [nL_and, nL_add _ _ (by omega), h3, f1, show nL 1085102592571150095 = 1085102592571150095 from rfl, show s + 256 * t + 65536 * u + 16777216 * v + 4294967296 * w + ((s / 16 + 16 * (t % 16)) + 256 * (t / 16 + 16 * (u % 16)) + 65536 * (u / 16 + 16 * (v % 16)) + 16777216 * (v / 16 + 16 * (w % 16)) + 4294967296 * (w / 16)) = (s + s / 16 + 16 * (t % 16)) + 256 * (t + t / 16 + 16 * (u % 16)) + 65536 * (u + u / 16 + 16 * (v % 16)) + 16777216 * (v + v / 16 + 16 * (w % 16)) + 4294967296 * (w + w / 16) by omega,
      and_5 (m := 15) (r := 986895) (by omega) (by omega) (by omega) (by omega) (by omega) (by decide), and_top _ (by omega) (by omega), y_3 s (by omega) _ (by omega), y_3 t (by omega) _ (by omega), y_3 u (by omega) _ (by omega), y_3 v (by omega) _ (by omega)]
    rfl
  change nL (pp3 x2) = _ at h4
  generalize pp3 x2 = x3 at *
  have A' : popB a ≤ 8 := A.2.2.2
  have B' : popB b ≤ 8 := B.2.2.2
  have C' : popB c ≤ 8 := C.2.2.2
  have D' : popB d ≤ 8 := D.2.2.2
  have E' : popB e ≤ 8 := E.2.2.2
  generalize popB a = s at *
  generalize popB b = t at *
  generalize popB c = u at *
  generalize popB d = v at *
  generalize popB e = w at *
  clear h1 h2 h3 A B C D E
  have h5 : nL (x3 + ushL x3 8) = (s + t) + 256 * (t + u) + 65536 * (u + v) + 16777216 * (v + w) + 4294967296 * w := by
    have : nL (ushL x3 8) = t + 256 * u + 65536 * v + 16777216 * w := by
      rw [show (8 : Int32) = nI 8 from rfl, nL_ush _ (by omega), h4]
      omega
    rw [nL_add _ _ (by omega), h4, this]
    omega
  have h6 : nL (x3 + ushL x3 8 + ushL (x3 + ushL x3 8) 16) = (s + t + u + v) + 256 * (t + u + v + w) + 65536 * (u + v + w) + 16777216 * (v + w) + 4294967296 * w := by
    have : nL (ushL (x3 + ushL x3 8) 16) = (u + v) + 256 * (v + w) + 65536 * w := by
      rw [show (16 : Int32) = nI 16 from rfl, nL_ush _ (by omega), h5]
      omega
    rw [nL_add _ _ (by omega), h5, this]
    omega
  have h7 : nL (x3 + ushL x3 8 + ushL (x3 + ushL x3 8) 16 + ushL (x3 + ushL x3 8 + ushL (x3 + ushL x3 8) 16) 32) = (s + t + u + v + w) + 256 * (t + u + v + w) + 65536 * (u + v + w) + 16777216 * (v + w) + 4294967296 * w := by
    have : nL (ushL (x3 + ushL x3 8 + ushL (x3 + ushL x3 8) 16) 32) = w := by
      rw [show (32 : Int32) = nI 32 from rfl, nL_ush _ (by omega), h6]
      omega
    rw [nL_add _ _ (by omega), h6, this]
    omega
  show (x3 + ushL x3 8 + ushL (x3 + ushL x3 8) 16 + ushL (x3 + ushL x3 8 + ushL (x3 + ushL x3 8) 16) 32).toInt32 &&& 127 = _
  generalize x3 + ushL x3 8 + ushL (x3 + ushL x3 8) 16 + ushL (x3 + ushL x3 8 + ushL (x3 + ushL x3 8) 16) 32 = z at *
  apply Int32.toBitVec_inj.1
  apply BitVec.eq_of_toNat_eq
  rw [Int32.toBitVec_and, BitVec.toNat_and]
  have f : z.toInt32.toBitVec.toNat = nL z % 4294967296 := by
    show (z.toBitVec.signExtend 32).toNat = _
    rw [BitVec.signExtend_eq_setWidth_of_le _ (by omega), BitVec.toNat_setWidth]
    rfl
  rw [f, h7, show (127 : Int32).toBitVec.toNat = 2 ^ 7 - 1 from rfl, Nat.and_two_pow_sub_one_eq_mod]
  show _ = (BitVec.ofNat 32 (s + t + u + v + w)).toNat
  rw [BitVec.toNat_ofNat]
  have g1 : s + t + u + v + w < 41 := by omega
  rw [show (s + t + u + v + w) + 256 * (t + u + v + w) + 65536 * (u + v + w) + 16777216 * (v + w) + 4294967296 * w = (s + t + u + v + w) + 256 * (t + u + v + w + 256 * (u + v + w) + 65536 * (v + w) + 16777216 * w) by omega]
  clear h4 h5 h6 h7 f hx hb ha hc hd he A' B' C' D' E'
  generalize s + t + u + v + w = p at *
  generalize t + u + v + w + 256 * (u + v + w) + 65536 * (v + w) + 16777216 * w = q at *
  omega
/-- a byte of eight bits -/
theorem popB_f : ∀ a b c d e f g h : Fin 2, popB (a.val + 2 * b.val + 4 * c.val + 8 * d.val + 16 * e.val + 32 * f.val + 64 * g.val + 128 * h.val) = a.val + b.val + c.val + d.val + e.val + f.val + g.val + h.val := by decide +kernel
theorem popB_8 (a : Nat) (ha : a < 2) (b : Nat) (hb : b < 2) (c : Nat) (hc : c < 2) (d : Nat) (hd : d < 2) (e : Nat) (he : e < 2) (f : Nat) (hf : f < 2) (g : Nat) (hg : g < 2) (h : Nat) (hh : h < 2) : popB (a + 2 * b + 4 * c + 8 * d + 16 * e + 32 * f + 64 * g + 128 * h) = a + b + c + d + e + f + g + h := popB_f ⟨a, ha⟩ ⟨b, hb⟩ ⟨c, hc⟩ ⟨d, hd⟩ ⟨e, he⟩ ⟨f, hf⟩ ⟨g, hg⟩ ⟨h, hh⟩
def sgm (f : Nat → Nat) : Nat → Nat
  | 0 => 0
  | n + 1 => sgm f n + f n
def bts (f : Nat → Nat) : Nat → Nat
  | 0 => 0
  | n + 1 => bts f n + 2 ^ n * f n
theorem popF_bits {x : Int64} {f : Nat → Nat} (hf : ∀ n, f n < 2) (hx : nL x = bts f 40) : popF x = nI (sgm f 40) := by
  have h0 := hf 0; have h1 := hf 1; have h2 := hf 2; have h3 := hf 3; have h4 := hf 4; have h5 := hf 5; have h6 := hf 6; have h7 := hf 7; have h8 := hf 8; have h9 := hf 9
  have h10 := hf 10; have h11 := hf 11; have h12 := hf 12; have h13 := hf 13; have h14 := hf 14; have h15 := hf 15; have h16 := hf 16; have h17 := hf 17; have h18 := hf 18; have h19 := hf 19
  have h20 := hf 20; have h21 := hf 21; have h22 := hf 22; have h23 := hf 23; have h24 := hf 24; have h25 := hf 25; have h26 := hf 26; have h27 := hf 27; have h28 := hf 28; have h29 := hf 29
  have h30 := hf 30; have h31 := hf 31; have h32 := hf 32; have h33 := hf 33; have h34 := hf 34; have h35 := hf 35; have h36 := hf 36; have h37 := hf 37; have h38 := hf 38; have h39 := hf 39
  have e := popF_at (x := x) (a := f 0 + 2 * f 1 + 4 * f 2 + 8 * f 3 + 16 * f 4 + 32 * f 5 + 64 * f 6 + 128 * f 7) (b := f 8 + 2 * f 9 + 4 * f 10 + 8 * f 11 + 16 * f 12 + 32 * f 13 + 64 * f 14 + 128 * f 15) (c := f 16 + 2 * f 17 + 4 * f 18 + 8 * f 19 + 16 * f 20 + 32 * f 21 + 64 * f 22 + 128 * f 23) (d := f 24 + 2 * f 25 + 4 * f 26 + 8 * f 27 + 16 * f 28 + 32 * f 29 + 64 * f 30 + 128 * f 31) (e := f 32 + 2 * f 33 + 4 * f 34 + 8 * f 35 + 16 * f 36 + 32 * f 37 + 64 * f 38 + 128 * f 39) (by omega) (by omega) (by omega) (by omega) (by omega) (by rw [hx]; simp only [bts]; omega)
  rw [e, popB_8 _ h0 _ h1 _ h2 _ h3 _ h4 _ h5 _ h6 _ h7, popB_8 _ h8 _ h9 _ h10 _ h11 _ h12 _ h13 _ h14 _ h15, popB_8 _ h16 _ h17 _ h18 _ h19 _ h20 _ h21 _ h22 _ h23, popB_8 _ h24 _ h25 _ h26 _ h27 _ h28 _ h29 _ h30 _ h31, popB_8 _ h32 _ h33 _ h34 _ h35 _ h36 _ h37 _ h38 _ h39]
  congr 1
  simp only [sgm]
  omega
theorem bts_lt {f : Nat → Nat} (hf : ∀ n, f n < 2) : ∀ n, bts f n < 2 ^ n
  | 0 => by simp [bts]
  | n + 1 => by
    have := bts_lt hf n
    have := hf n
    rw [bts, Nat.pow_succ]
    have : 2 ^ n * f n ≤ 2 ^ n * 1 := Nat.mul_le_mul_left _ (by omega)
    omega
theorem nL_bit : ∀ c, c < 40 → nL ((1 : Int64) <<< ((nI c).toInt64 &&& 63)) = 2 ^ c := by decide +kernel
theorem or_bit {a c : Nat} (h : a < 2 ^ c) : a ||| 2 ^ c = a + 2 ^ c := by
  have := Nat.two_pow_add_eq_or_of_lt h 1
  rw [Nat.mul_one, Nat.or_comm] at this
  omega
theorem nL_plcM (sg : Nat → Int32) (np : Nat) (w : Int32) : ∀ c, c ≤ 40 → nL (plcM sg np w c) = bts (fun c => if plcV sg np c w = 0 then 0 else 1) c
  | 0, _ => rfl
  | c + 1, h => by
    have ih := nL_plcM sg np w c (by omega)
    have hl := bts_lt (f := fun c => if plcV sg np c w = 0 then 0 else 1) (fun n => by by_cases h : plcV sg np n w = 0 <;> simp [h]) c
    rw [plcM, nL_or, ih, bts]
    by_cases h1 : plcV sg np c w = 0
    · rw [if_pos h1, if_pos h1, show nL 0 = 0 from rfl, Nat.or_zero, Nat.mul_zero, Nat.add_zero]
    · rw [if_neg h1, if_neg h1, nL_bit c (by omega), or_bit hl, Nat.mul_one]
def stW (sg : Nat → Int32) (m c : Nat) : Nat := if rkU sg (nI c) m = -6 then 0 else if sg (86 + 6 * (rkU sg (nI c) m).toNatClampNeg + 5) = 0 then 1 else 0
theorem sgm_add (f g : Nat → Nat) (a e : Nat) : ∀ n, (∀ c, c < n → ¬ c = a → f c = g c) → (a < n → f a = g a + e) → sgm f n = sgm g n + if a < n then e else 0
  | 0, _, _ => by simp [sgm]
  | n + 1, h, h2 => by
    have ih := sgm_add f g a e n (fun c hc => h c (by omega)) (fun ha => h2 (by omega))
    rw [sgm, sgm, ih]
    by_cases ha : a < n
    · rw [if_pos ha, if_pos (by omega), h n (by omega) (by omega)]
      omega
    · rw [if_neg ha]
      by_cases hb : a = n
      · rw [if_pos (by omega), ← hb, h2 (by omega)]
        omega
      · rw [if_neg (by omega), h n (by omega) (fun e => hb e.symm)]
        omega
theorem sgm_0 : ∀ n, sgm (fun _ => 0) n = 0
  | 0 => rfl
  | n + 1 => by rw [sgm, sgm_0 n]
theorem stp_sgm {sg : Nat → Int32} {np ng : Nat} (ho : Ok0 sg np ng) : ∀ m, m ≤ np → stpN sg m = nI (sgm (stW sg m) 40) ∧ sgm (stW sg m) 40 ≤ m
  | 0, _ => by
    have : sgm (stW sg 0) 40 = 0 := sgm_0 40
    rw [this]
    exact ⟨rfl, Nat.le_refl _⟩
  | m + 1, h => by
    obtain ⟨ih, ih2⟩ := stp_sgm ho m (by omega)
    have h6 := ho.1.2
    obtain ⟨⟨c, hc, hce⟩, -, -, -, -, hg⟩ := ho.2.2.1 m (by omega)
    have hno : rkU sg (nI c) m = -6 := rkU_none fun k hk e => by
      have := ho.cell1 (i := k) (j := m) (by omega) (by omega) (e.trans hce.symm)
      omega
    have hk := sgm_add (stW sg (m + 1)) (stW sg m) c (if sg (86 + 6 * m + 5) = 0 then 1 else 0) 40 (fun a ha hne => by
        have e0 : rkU sg (nI a) (m + 1) = rkU sg (nI a) m := if_neg (fun e => hne (by
          have e := (nI_eq (a := c) (b := a) (by omega) (by omega)).mp (hce.symm.trans e)
          omega))
        unfold stW
        rw [e0])
      (fun _ => by
        have e0 : rkU sg (nI c) (m + 1) = nI m := if_pos hce
        unfold stW
        rw [if_pos hno, e0, if_neg (nI_m6 (by omega)), nI_clamp (by omega)]
        omega)
    rw [if_pos (by omega)] at hk
    rw [hk, stpN, ih]
    rcases hg with e | e
    · rw [e, if_pos rfl]
      exact ⟨nI_add _ 1, by omega⟩
    · rw [e, if_neg (by decide)]
      exact ⟨by rw [Nat.add_zero]; simp, by omega⟩
theorem pop_stop {sg : Nat → Int32} {np ng : Nat} (ho : Ok0 sg np ng) : popF (plcM sg np (nI 4) 40) = stpN sg np := by
  have e1 : ∀ n, stW sg np n < 2 := fun n => by
    unfold stW
    by_cases h1 : rkU sg (nI n) np = -6
    · rw [if_pos h1]
      omega
    · rw [if_neg h1]
      by_cases h2 : sg (86 + 6 * (rkU sg (nI n) np).toNatClampNeg + 5) = 0
      · rw [if_pos h2]
        omega
      · rw [if_neg h2]
        omega
  have e2 : nL (plcM sg np (nI 4) 40) = bts (stW sg np) 40 := by
    rw [nL_plcM sg np (nI 4) 40 (Nat.le_refl _)]
    congr 1
    funext c
    have e : plcV sg np c (nI 4) = if rkU sg (nI c) np = -6 then 0 else if sg (86 + 6 * (rkU sg (nI c) np).toNatClampNeg + 5) = 0 then 1 else 0 := rfl
    rw [e]
    unfold stW
    by_cases h1 : rkU sg (nI c) np = -6
    · rw [if_pos h1, if_pos h1, if_pos rfl]
    · rw [if_neg h1, if_neg h1]
      by_cases h2 : sg (86 + 6 * (rkU sg (nI c) np).toNatClampNeg + 5) = 0
      · rw [if_pos h2, if_pos h2, if_neg (by decide)]
      · rw [if_neg h2, if_neg h2, if_pos rfl]
  rw [popF_bits e1 e2, (stp_sgm ho np (Nat.le_refl _)).1]
set_option maxRecDepth 100000 in
set_option maxHeartbeats 4000000 in
theorem s_J13_bitCount_95d88 {γ : Gm} {l : Launch} {M : Mm} {R : Rm} {K : KT} {x : Int64} (hK : K (some (.int (popF x))) 247 M R) : CL γ l mJ13_bitCount_95d88 0 247 247 [.long x] M R K := by
  show WP γ l mJ13_bitCount_95d88 0 247 247 0 [some (.long x), none] [] 247 M R K
  refine wp_lload_n dJ13_bitCount_95d88_0 rfl ?_
  refine wp_lload_n dJ13_bitCount_95d88_1 rfl ?_
  refine wp_iconst (v := 1) dJ13_bitCount_95d88_2 (by decide) ?_
  refine wp_lushr dJ13_bitCount_95d88_3 ?_
  refine wp_ldc2 (v := 6148914691236517205) dJ13_bitCount_95d88_4 q441 ?_
  refine wp_land dJ13_bitCount_95d88_7 ?_
  refine wp_lsub dJ13_bitCount_95d88_8 ?_
  refine wp_lstore_n (L' := [some (.long _), none]) dJ13_bitCount_95d88_9 (by decide) rfl ?_
  refine wp_lload_n dJ13_bitCount_95d88_10 rfl ?_
  refine wp_ldc2 (v := 3689348814741910323) dJ13_bitCount_95d88_11 q442 ?_
  refine wp_land dJ13_bitCount_95d88_14 ?_
  refine wp_lload_n dJ13_bitCount_95d88_15 rfl ?_
  refine wp_iconst (v := 2) dJ13_bitCount_95d88_16 (by decide) ?_
  refine wp_lushr dJ13_bitCount_95d88_17 ?_
  refine wp_ldc2 (v := 3689348814741910323) dJ13_bitCount_95d88_18 q442 ?_
  refine wp_land dJ13_bitCount_95d88_21 ?_
  refine wp_ladd dJ13_bitCount_95d88_22 ?_
  refine wp_lstore_n (L' := [some (.long _), none]) dJ13_bitCount_95d88_23 (by decide) rfl ?_
  refine wp_lload_n dJ13_bitCount_95d88_24 rfl ?_
  refine wp_lload_n dJ13_bitCount_95d88_25 rfl ?_
  refine wp_iconst (v := 4) dJ13_bitCount_95d88_26 (by decide) ?_
  refine wp_lushr dJ13_bitCount_95d88_27 ?_
  refine wp_ladd dJ13_bitCount_95d88_28 ?_
  refine wp_ldc2 (v := 1085102592571150095) dJ13_bitCount_95d88_29 q443 ?_
  refine wp_land dJ13_bitCount_95d88_32 ?_
  refine wp_lstore_n (L' := [some (.long _), none]) dJ13_bitCount_95d88_33 (by decide) rfl ?_
  refine wp_lload_n dJ13_bitCount_95d88_34 rfl ?_
  refine wp_lload_n dJ13_bitCount_95d88_35 rfl ?_
  refine wp_bipush (v := 8) dJ13_bitCount_95d88_36 (by decide) ?_
  refine wp_lushr dJ13_bitCount_95d88_38 ?_
  refine wp_ladd dJ13_bitCount_95d88_39 ?_
  refine wp_lstore_n (L' := [some (.long _), none]) dJ13_bitCount_95d88_40 (by decide) rfl ?_
  refine wp_lload_n dJ13_bitCount_95d88_41 rfl ?_
  refine wp_lload_n dJ13_bitCount_95d88_42 rfl ?_
  refine wp_bipush (v := 16) dJ13_bitCount_95d88_43 (by decide) ?_
  refine wp_lushr dJ13_bitCount_95d88_45 ?_
  refine wp_ladd dJ13_bitCount_95d88_46 ?_
  refine wp_lstore_n (L' := [some (.long _), none]) dJ13_bitCount_95d88_47 (by decide) rfl ?_
  refine wp_lload_n dJ13_bitCount_95d88_48 rfl ?_
  refine wp_lload_n dJ13_bitCount_95d88_49 rfl ?_
  refine wp_bipush (v := 32) dJ13_bitCount_95d88_50 (by decide) ?_
  refine wp_lushr dJ13_bitCount_95d88_52 ?_
  refine wp_ladd dJ13_bitCount_95d88_53 ?_
  refine wp_lstore_n (L' := [some (.long _), none]) dJ13_bitCount_95d88_54 (by decide) rfl ?_
  refine wp_lload_n dJ13_bitCount_95d88_55 rfl ?_
  refine wp_l2i dJ13_bitCount_95d88_56 ?_
  refine wp_bipush (v := 127) dJ13_bitCount_95d88_57 (by decide) ?_
  refine wp_iand dJ13_bitCount_95d88_59 ?_
  exact wp_iret dJ13_bitCount_95d88_60 rfl rfl rfl (hK)
