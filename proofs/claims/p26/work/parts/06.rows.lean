/-! A ROW AN INSTRUCTION -/
section ROWS
variable {γ : Gm} {l : Launch} {y : Mt} {d nE nX pc n : Nat} {L : List (Option Value)} {S : List Value} {M : Mm} {R : Rm} {K : Option Value → Nat → Mm → Rm → Prop}
theorem wp_iconst {i : Int} {v : Int32} (hd : decode y.2.1 pc = .ok (.iconst i, 1)) (hv : Int32.ofInt i = v) (k : WP γ l y d nE nX (pc + 1) L (.int v :: S) n M R K) : WP γ l y d nE nX pc L (S) n M R K :=
  fun p e R0 s m args below meth c Q H locs ls C hr hW h1 h2 hl => lv_iconst C.1 C.2.1 hd hv (k p e R0 s m args below meth c Q H locs ls C hr hW h1 h2 hl)
theorem wp_bipush {i : Int} {v : Int32} (hd : decode y.2.1 pc = .ok (.bipush i, 2)) (hv : (Int8.ofInt i).toInt32 = v) (k : WP γ l y d nE nX (pc + 2) L (.int v :: S) n M R K) : WP γ l y d nE nX pc L (S) n M R K :=
  fun p e R0 s m args below meth c Q H locs ls C hr hW h1 h2 hl => lv_bipush C.1 C.2.1 hd hv (k p e R0 s m args below meth c Q H locs ls C hr hW h1 h2 hl)
theorem wp_sipush {i : Int} {v : Int32} (hd : decode y.2.1 pc = .ok (.sipush i, 3)) (hv : (Int16.ofInt i).toInt32 = v) (k : WP γ l y d nE nX (pc + 3) L (.int v :: S) n M R K) : WP γ l y d nE nX pc L (S) n M R K :=
  fun p e R0 s m args below meth c Q H locs ls C hr hW h1 h2 hl => lv_sipush C.1 C.2.1 hd hv (k p e R0 s m args below meth c Q H locs ls C hr hW h1 h2 hl)
theorem wp_lconst {i : Fin 2} {v : Int64} (hd : decode y.2.1 pc = .ok (.lconst i, 1)) (hv : Int64.ofNat (i : Nat) = v) (k : WP γ l y d nE nX (pc + 1) L (.long v :: S) n M R K) : WP γ l y d nE nX pc L (S) n M R K :=
  fun p e R0 s m args below meth c Q H locs ls C hr hW h1 h2 hl => lv_lconst C.1 C.2.1 hd hv (k p e R0 s m args below meth c Q H locs ls C hr hW h1 h2 hl)
theorem wp_ldc {i : Nat} {v : Int32} (hd : decode y.2.1 pc = .ok (.ldc i, 2)) (hc : Cond.constant y.1.cls i v ∈ WS) (k : WP γ l y d nE nX (pc + 2) L (.int v :: S) n M R K) : WP γ l y d nE nX pc L (S) n M R K :=
  fun p e R0 s m args below meth c Q H locs ls C hr hW h1 h2 hl => lv_ldc C.1 C.2.1 C.2.2.2.1 (C.2.2.2.2.1 _ hc) hd (k p e R0 s m args below meth c Q H locs ls C hr hW h1 h2 hl)
theorem wp_ldc2 {i : Nat} {v : Int64} (hd : decode y.2.1 pc = .ok (.ldc2_w i, 3)) (hc : Cond.constantLong y.1.cls i v ∈ WS) (k : WP γ l y d nE nX (pc + 3) L (.long v :: S) n M R K) : WP γ l y d nE nX pc L (S) n M R K :=
  fun p e R0 s m args below meth c Q H locs ls C hr hW h1 h2 hl => lv_ldc2 C.1 C.2.1 C.2.2.2.1 (C.2.2.2.2.1 _ hc) hd (k p e R0 s m args below meth c Q H locs ls C hr hW h1 h2 hl)
theorem wp_iload_n {i : Fin 4} {x : Int32} (hd : decode y.2.1 pc = .ok (.iload_n i, 1)) (hx : L[(i : Nat)]? = some (some (.int x))) (k : WP γ l y d nE nX (pc + 1) L (.int x :: S) n M R K) : WP γ l y d nE nX pc L (S) n M R K :=
  fun p e R0 s m args below meth c Q H locs ls C hr hW h1 h2 hl => lv_iload_n C.1 C.2.1 hd rfl (lvh_at hl hx) (k p e R0 s m args below meth c Q H locs ls C hr hW h1 h2 hl)
theorem wp_iload {i : Nat} {x : Int32} (hd : decode y.2.1 pc = .ok (.iload i, 2)) (hx : L[i]? = some (some (.int x))) (k : WP γ l y d nE nX (pc + 2) L (.int x :: S) n M R K) : WP γ l y d nE nX pc L (S) n M R K :=
  fun p e R0 s m args below meth c Q H locs ls C hr hW h1 h2 hl => lv_iload C.1 C.2.1 hd (lvh_at hl hx) (k p e R0 s m args below meth c Q H locs ls C hr hW h1 h2 hl)
theorem wp_aload_n {i : Fin 4} {x : Nat} (hd : decode y.2.1 pc = .ok (.aload_n i, 1)) (hx : L[(i : Nat)]? = some (some (.ref x))) (k : WP γ l y d nE nX (pc + 1) L (.ref x :: S) n M R K) : WP γ l y d nE nX pc L (S) n M R K :=
  fun p e R0 s m args below meth c Q H locs ls C hr hW h1 h2 hl => lv_aload_n C.1 C.2.1 hd rfl (lvh_at hl hx) (k p e R0 s m args below meth c Q H locs ls C hr hW h1 h2 hl)
theorem wp_aload {i : Nat} {x : Nat} (hd : decode y.2.1 pc = .ok (.aload i, 2)) (hx : L[i]? = some (some (.ref x))) (k : WP γ l y d nE nX (pc + 2) L (.ref x :: S) n M R K) : WP γ l y d nE nX pc L (S) n M R K :=
  fun p e R0 s m args below meth c Q H locs ls C hr hW h1 h2 hl => lv_aload C.1 C.2.1 hd (lvh_at hl hx) (k p e R0 s m args below meth c Q H locs ls C hr hW h1 h2 hl)
theorem wp_lload_n {i : Fin 4} {x : Int64} (hd : decode y.2.1 pc = .ok (.lload_n i, 1)) (hx : L[(i : Nat)]? = some (some (.long x))) (k : WP γ l y d nE nX (pc + 1) L (.long x :: S) n M R K) : WP γ l y d nE nX pc L (S) n M R K :=
  fun p e R0 s m args below meth c Q H locs ls C hr hW h1 h2 hl => lv_lload_n C.1 C.2.1 hd rfl (lvh_at hl hx) (k p e R0 s m args below meth c Q H locs ls C hr hW h1 h2 hl)
theorem wp_lload {i : Nat} {x : Int64} (hd : decode y.2.1 pc = .ok (.lload i, 2)) (hx : L[i]? = some (some (.long x))) (k : WP γ l y d nE nX (pc + 2) L (.long x :: S) n M R K) : WP γ l y d nE nX pc L (S) n M R K :=
  fun p e R0 s m args below meth c Q H locs ls C hr hW h1 h2 hl => lv_lload C.1 C.2.1 hd (lvh_at hl hx) (k p e R0 s m args below meth c Q H locs ls C hr hW h1 h2 hl)
theorem wp_istore_n {i : Fin 4} {x : Int32} {L' : List (Option Value)} (hd : decode y.2.1 pc = .ok (.istore_n i, 1)) (hi : (i : Nat) < y.2.2.1) (hL : stA L (i : Nat) (.int x) = L') (k : WP γ l y d nE nX (pc + 1) L' S n M R K) : WP γ l y d nE nX pc L (.int x :: S) n M R K := by
  subst hL
  exact fun p e R0 s m args below meth c Q H locs ls C hr hW h1 h2 hl => lv_istore_n C.1 C.2.1 hd rfl hl hi rfl (fun ls' hl' => k p e R0 s m args below meth c Q H locs ls' C hr hW h1 h2 (lvh_stA hl'))
theorem wp_istore {i : Nat} {x : Int32} {L' : List (Option Value)} (hd : decode y.2.1 pc = .ok (.istore i, 2)) (hi : (i : Nat) < y.2.2.1) (hL : stA L (i : Nat) (.int x) = L') (k : WP γ l y d nE nX (pc + 2) L' S n M R K) : WP γ l y d nE nX pc L (.int x :: S) n M R K := by
  subst hL
  exact fun p e R0 s m args below meth c Q H locs ls C hr hW h1 h2 hl => lv_istore C.1 C.2.1 hd hl hi rfl (fun ls' hl' => k p e R0 s m args below meth c Q H locs ls' C hr hW h1 h2 (lvh_stA hl'))
theorem wp_astore_n {i : Fin 4} {x : Nat} {L' : List (Option Value)} (hd : decode y.2.1 pc = .ok (.astore_n i, 1)) (hi : (i : Nat) < y.2.2.1) (hL : stA L (i : Nat) (.ref x) = L') (k : WP γ l y d nE nX (pc + 1) L' S n M R K) : WP γ l y d nE nX pc L (.ref x :: S) n M R K := by
  subst hL
  exact fun p e R0 s m args below meth c Q H locs ls C hr hW h1 h2 hl => lv_astore_n C.1 C.2.1 hd rfl hl hi rfl (fun ls' hl' => k p e R0 s m args below meth c Q H locs ls' C hr hW h1 h2 (lvh_stA hl'))
theorem wp_astore {i : Nat} {x : Nat} {L' : List (Option Value)} (hd : decode y.2.1 pc = .ok (.astore i, 2)) (hi : (i : Nat) < y.2.2.1) (hL : stA L (i : Nat) (.ref x) = L') (k : WP γ l y d nE nX (pc + 2) L' S n M R K) : WP γ l y d nE nX pc L (.ref x :: S) n M R K := by
  subst hL
  exact fun p e R0 s m args below meth c Q H locs ls C hr hW h1 h2 hl => lv_astore C.1 C.2.1 hd hl hi rfl (fun ls' hl' => k p e R0 s m args below meth c Q H locs ls' C hr hW h1 h2 (lvh_stA hl'))
theorem wp_lstore_n {i : Fin 4} {x : Int64} {L' : List (Option Value)} (hd : decode y.2.1 pc = .ok (.lstore_n i, 1)) (hi : (i : Nat) + 1 < y.2.2.1) (hL : stB L (i : Nat) (.long x) = L') (k : WP γ l y d nE nX (pc + 1) L' S n M R K) : WP γ l y d nE nX pc L (.long x :: S) n M R K := by
  subst hL
  exact fun p e R0 s m args below meth c Q H locs ls C hr hW h1 h2 hl => lv_lstore_n C.1 C.2.1 hd rfl hl hi rfl (fun ls' hl' => k p e R0 s m args below meth c Q H locs ls' C hr hW h1 h2 (lvh_stB hl'))
theorem wp_lstore {i : Nat} {x : Int64} {L' : List (Option Value)} (hd : decode y.2.1 pc = .ok (.lstore i, 2)) (hi : (i : Nat) + 1 < y.2.2.1) (hL : stB L (i : Nat) (.long x) = L') (k : WP γ l y d nE nX (pc + 2) L' S n M R K) : WP γ l y d nE nX pc L (.long x :: S) n M R K := by
  subst hL
  exact fun p e R0 s m args below meth c Q H locs ls C hr hW h1 h2 hl => lv_lstore C.1 C.2.1 hd hl hi rfl (fun ls' hl' => k p e R0 s m args below meth c Q H locs ls' C hr hW h1 h2 (lvh_stB hl'))
theorem asc_at {γ : Gm} {L : List (Option Value)} {i : Nat} {v : Value} (h : L[i]? = some (some v)) : ∃ k : Nat, (asc γ 0 L)[k]? = some (i, pv γ v) := by
  have h1 := asc_mem (γ := γ) (i := 0) h
  rw [Nat.zero_add] at h1
  obtain ⟨k, hk⟩ := List.getElem?_of_mem h1
  exact ⟨k, hk⟩
theorem wp_iinc {i : Nat} {j : Int} {x v : Int32} {L' : List (Option Value)} (hd : decode y.2.1 pc = .ok (.iinc i j, 3)) (hi : i < y.2.2.1) (hx : L[i]? = some (some (.int x))) (hv : x + Int32.ofInt j = v) (hL : stA L i (.int v) = L') (k : WP γ l y d nE nX (pc + 3) L' S n M R K) : WP γ l y d nE nX pc L S n M R K := by
  subst hL
  intro p e R0 s m args below meth c Q H locs ls C hr hW h1 h2 hl
  obtain ⟨q, hq⟩ := asc_at (γ := γ) hx
  exact lv_iinc C.1 C.2.1 hd hl hq hv hi rfl (fun ls' hl' => k p e R0 s m args below meth c Q H locs ls' C hr hW h1 h2 (lvh_stA hl'))
theorem wp_iadd {x z : Int32} (hd : decode y.2.1 pc = .ok (.iadd, 1))  (k : WP γ l y d nE nX (pc + 1) L (.int (x + z) :: S) n M R K) : WP γ l y d nE nX pc L (.int z :: .int x :: S) n M R K :=
  fun p e R0 s m args below meth c Q H locs ls C hr hW h1 h2 hl => lv_iadd C.1 C.2.1 hd (k p e R0 s m args below meth c Q H locs ls C hr hW h1 h2 hl)
theorem wp_isub {x z : Int32} (hd : decode y.2.1 pc = .ok (.isub, 1))  (k : WP γ l y d nE nX (pc + 1) L (.int (x - z) :: S) n M R K) : WP γ l y d nE nX pc L (.int z :: .int x :: S) n M R K :=
  fun p e R0 s m args below meth c Q H locs ls C hr hW h1 h2 hl => lv_isub C.1 C.2.1 hd (k p e R0 s m args below meth c Q H locs ls C hr hW h1 h2 hl)
theorem wp_imul {x z : Int32} (hd : decode y.2.1 pc = .ok (.imul, 1))  (k : WP γ l y d nE nX (pc + 1) L (.int (x * z) :: S) n M R K) : WP γ l y d nE nX pc L (.int z :: .int x :: S) n M R K :=
  fun p e R0 s m args below meth c Q H locs ls C hr hW h1 h2 hl => lv_imul C.1 C.2.1 hd (k p e R0 s m args below meth c Q H locs ls C hr hW h1 h2 hl)
theorem wp_iand {x z : Int32} (hd : decode y.2.1 pc = .ok (.iand, 1))  (k : WP γ l y d nE nX (pc + 1) L (.int (x &&& z) :: S) n M R K) : WP γ l y d nE nX pc L (.int z :: .int x :: S) n M R K :=
  fun p e R0 s m args below meth c Q H locs ls C hr hW h1 h2 hl => lv_iand C.1 C.2.1 hd (k p e R0 s m args below meth c Q H locs ls C hr hW h1 h2 hl)
theorem wp_ixor {x z : Int32} (hd : decode y.2.1 pc = .ok (.ixor, 1))  (k : WP γ l y d nE nX (pc + 1) L (.int (x ^^^ z) :: S) n M R K) : WP γ l y d nE nX pc L (.int z :: .int x :: S) n M R K :=
  fun p e R0 s m args below meth c Q H locs ls C hr hW h1 h2 hl => lv_ixor C.1 C.2.1 hd (k p e R0 s m args below meth c Q H locs ls C hr hW h1 h2 hl)
theorem wp_idiv {x z : Int32} (hd : decode y.2.1 pc = .ok (.idiv, 1)) (hz : ¬ z = 0) (k : WP γ l y d nE nX (pc + 1) L (.int (x / z) :: S) n M R K) : WP γ l y d nE nX pc L (.int z :: .int x :: S) n M R K :=
  fun p e R0 s m args below meth c Q H locs ls C hr hW h1 h2 hl => lv_idiv C.1 C.2.1 hd hz (k p e R0 s m args below meth c Q H locs ls C hr hW h1 h2 hl)
theorem wp_irem {x z : Int32} (hd : decode y.2.1 pc = .ok (.irem, 1)) (hz : ¬ z = 0) (k : WP γ l y d nE nX (pc + 1) L (.int (x - x / z * z) :: S) n M R K) : WP γ l y d nE nX pc L (.int z :: .int x :: S) n M R K :=
  fun p e R0 s m args below meth c Q H locs ls C hr hW h1 h2 hl => lv_irem C.1 C.2.1 hd hz (k p e R0 s m args below meth c Q H locs ls C hr hW h1 h2 hl)
theorem wp_ineg {x : Int32} (hd : decode y.2.1 pc = .ok (.ineg, 1))  (k : WP γ l y d nE nX (pc + 1) L (.int (-x) :: S) n M R K) : WP γ l y d nE nX pc L (.int x :: S) n M R K :=
  fun p e R0 s m args below meth c Q H locs ls C hr hW h1 h2 hl => lv_ineg C.1 C.2.1 hd (k p e R0 s m args below meth c Q H locs ls C hr hW h1 h2 hl)
theorem wp_ladd {x z : Int64} (hd : decode y.2.1 pc = .ok (.ladd, 1))  (k : WP γ l y d nE nX (pc + 1) L (.long (x + z) :: S) n M R K) : WP γ l y d nE nX pc L (.long z :: .long x :: S) n M R K :=
  fun p e R0 s m args below meth c Q H locs ls C hr hW h1 h2 hl => lv_ladd C.1 C.2.1 hd (k p e R0 s m args below meth c Q H locs ls C hr hW h1 h2 hl)
theorem wp_lsub {x z : Int64} (hd : decode y.2.1 pc = .ok (.lsub, 1))  (k : WP γ l y d nE nX (pc + 1) L (.long (x - z) :: S) n M R K) : WP γ l y d nE nX pc L (.long z :: .long x :: S) n M R K :=
  fun p e R0 s m args below meth c Q H locs ls C hr hW h1 h2 hl => lv_lsub C.1 C.2.1 hd (k p e R0 s m args below meth c Q H locs ls C hr hW h1 h2 hl)
theorem wp_land {x z : Int64} (hd : decode y.2.1 pc = .ok (.land, 1))  (k : WP γ l y d nE nX (pc + 1) L (.long (x &&& z) :: S) n M R K) : WP γ l y d nE nX pc L (.long z :: .long x :: S) n M R K :=
  fun p e R0 s m args below meth c Q H locs ls C hr hW h1 h2 hl => lv_land C.1 C.2.1 hd (k p e R0 s m args below meth c Q H locs ls C hr hW h1 h2 hl)
theorem wp_lor {x z : Int64} (hd : decode y.2.1 pc = .ok (.lor, 1))  (k : WP γ l y d nE nX (pc + 1) L (.long (x ||| z) :: S) n M R K) : WP γ l y d nE nX pc L (.long z :: .long x :: S) n M R K :=
  fun p e R0 s m args below meth c Q H locs ls C hr hW h1 h2 hl => lv_lor C.1 C.2.1 hd (k p e R0 s m args below meth c Q H locs ls C hr hW h1 h2 hl)
theorem wp_i2l {x : Int32} (hd : decode y.2.1 pc = .ok (.i2l, 1))  (k : WP γ l y d nE nX (pc + 1) L (.long x.toInt64 :: S) n M R K) : WP γ l y d nE nX pc L (.int x :: S) n M R K :=
  fun p e R0 s m args below meth c Q H locs ls C hr hW h1 h2 hl => lv_i2l C.1 C.2.1 hd rfl (k p e R0 s m args below meth c Q H locs ls C hr hW h1 h2 hl)
theorem wp_l2i {x : Int64} (hd : decode y.2.1 pc = .ok (.l2i, 1))  (k : WP γ l y d nE nX (pc + 1) L (.int x.toInt32 :: S) n M R K) : WP γ l y d nE nX pc L (.long x :: S) n M R K :=
  fun p e R0 s m args below meth c Q H locs ls C hr hW h1 h2 hl => lv_l2i C.1 C.2.1 hd rfl (k p e R0 s m args below meth c Q H locs ls C hr hW h1 h2 hl)
theorem wp_i2c {x : Int32} (hd : decode y.2.1 pc = .ok (.i2c, 1))  (k : WP γ l y d nE nX (pc + 1) L (.int (x.toUInt32 % 65536).toInt32 :: S) n M R K) : WP γ l y d nE nX pc L (.int x :: S) n M R K :=
  fun p e R0 s m args below meth c Q H locs ls C hr hW h1 h2 hl => lv_i2c C.1 C.2.1 hd rfl (k p e R0 s m args below meth c Q H locs ls C hr hW h1 h2 hl)
theorem wp_lushr {x : Int64} {z : Int32} (hd : decode y.2.1 pc = .ok (.lushr, 1))  (k : WP γ l y d nE nX (pc + 1) L (.long (x.toUInt64 >>> (z.toInt64.toUInt64 &&& Int64.toUInt64 63)).toInt64 :: S) n M R K) : WP γ l y d nE nX pc L (.int z :: .long x :: S) n M R K :=
  fun p e R0 s m args below meth c Q H locs ls C hr hW h1 h2 hl => lv_lushr C.1 C.2.1 hd rfl (k p e R0 s m args below meth c Q H locs ls C hr hW h1 h2 hl)
theorem wp_lshl {x : Int64} {z : Int32} (hd : decode y.2.1 pc = .ok (.lshl, 1))  (k : WP γ l y d nE nX (pc + 1) L (.long (x <<< (z.toInt64 &&& 63)) :: S) n M R K) : WP γ l y d nE nX pc L (.int z :: .long x :: S) n M R K :=
  fun p e R0 s m args below meth c Q H locs ls C hr hW h1 h2 hl => lv_lshl C.1 C.2.1 hd rfl (k p e R0 s m args below meth c Q H locs ls C hr hW h1 h2 hl)
theorem wp_lcmp {x z : Int64} (hd : decode y.2.1 pc = .ok (.lcmp, 1))  (k : WP γ l y d nE nX (pc + 1) L (.int (lg_cmp x z) :: S) n M R K) : WP γ l y d nE nX pc L (.long z :: .long x :: S) n M R K :=
  fun p e R0 s m args below meth c Q H locs ls C hr hW h1 h2 hl => W.lcmp C.1 C.2.1 hd (k p e R0 s m args below meth c Q H locs ls C hr hW h1 h2 hl)
theorem wp_dup {v : Value} (hd : decode y.2.1 pc = .ok (.dup, 1)) (hc : v.category = 1) (k : WP γ l y d nE nX (pc + 1) L (v :: v :: S) n M R K) : WP γ l y d nE nX pc L (v :: S) n M R K :=
  fun p e R0 s m args below meth c Q H locs ls C hr hW h1 h2 hl => lv_dup C.1 C.2.1 hd (by rw [pv_cat]; exact hc) (k p e R0 s m args below meth c Q H locs ls C hr hW h1 h2 hl)
theorem wp_pop {v : Value} (hd : decode y.2.1 pc = .ok (.pop, 1)) (hc : v.category = 1) (k : WP γ l y d nE nX (pc + 1) L (S) n M R K) : WP γ l y d nE nX pc L (v :: S) n M R K :=
  fun p e R0 s m args below meth c Q H locs ls C hr hW h1 h2 hl => lv_pop C.1 C.2.1 hd (by rw [pv_cat]; exact hc) (k p e R0 s m args below meth c Q H locs ls C hr hW h1 h2 hl)
theorem wp_dup2 {v w : Value} (hd : decode y.2.1 pc = .ok (.dup2, 1)) (hv : v.category = 1) (hw : w.category = 1) (k : WP γ l y d nE nX (pc + 1) L (v :: w :: v :: w :: S) n M R K) : WP γ l y d nE nX pc L (v :: w :: S) n M R K :=
  fun p e R0 s m args below meth c Q H locs ls C hr hW h1 h2 hl => lv_dup2_11 C.1 C.2.1 hd (by rw [pv_cat]; exact hv) (by rw [pv_cat]; exact hw) (k p e R0 s m args below meth c Q H locs ls C hr hW h1 h2 hl)
theorem wp_if_eq {x : Int32} {off : Int} {tgt : Nat} (hd : decode y.2.1 pc = .ok (.ifCond .eq off, 3)) (ht : (pc : Int) + off = (tgt : Int)) (kt : x = 0 → WP γ l y d nE nX tgt L S n M R K) (kf : ¬ x = 0 → WP γ l y d nE nX (pc + 3) L S n M R K) : WP γ l y d nE nX pc L (.int x :: S) n M R K :=
  fun p e R0 s m args below meth c Q H locs ls C hr hW h1 h2 hl => lv_if_eq C.1 C.2.1 hd ht (fun q => kt q p e R0 s m args below meth c Q H locs ls C hr hW h1 h2 hl) (fun q => kf q p e R0 s m args below meth c Q H locs ls C hr hW h1 h2 hl)
theorem wp_icmp_eq {x z : Int32} {off : Int} {tgt : Nat} (hd : decode y.2.1 pc = .ok (.if_icmp .eq off, 3)) (ht : (pc : Int) + off = (tgt : Int)) (kt : x = z → WP γ l y d nE nX tgt L S n M R K) (kf : ¬ x = z → WP γ l y d nE nX (pc + 3) L S n M R K) : WP γ l y d nE nX pc L (.int z :: .int x :: S) n M R K :=
  fun p e R0 s m args below meth c Q H locs ls C hr hW h1 h2 hl => lv_icmp_eq C.1 C.2.1 hd ht (fun q => kt q p e R0 s m args below meth c Q H locs ls C hr hW h1 h2 hl) (fun q => kf q p e R0 s m args below meth c Q H locs ls C hr hW h1 h2 hl)
theorem wp_if_ne {x : Int32} {off : Int} {tgt : Nat} (hd : decode y.2.1 pc = .ok (.ifCond .ne off, 3)) (ht : (pc : Int) + off = (tgt : Int)) (kt : ¬ x = 0 → WP γ l y d nE nX tgt L S n M R K) (kf : x = 0 → WP γ l y d nE nX (pc + 3) L S n M R K) : WP γ l y d nE nX pc L (.int x :: S) n M R K :=
  fun p e R0 s m args below meth c Q H locs ls C hr hW h1 h2 hl => lv_if_ne C.1 C.2.1 hd ht (fun q => kt q p e R0 s m args below meth c Q H locs ls C hr hW h1 h2 hl) (fun q => kf q p e R0 s m args below meth c Q H locs ls C hr hW h1 h2 hl)
theorem wp_icmp_ne {x z : Int32} {off : Int} {tgt : Nat} (hd : decode y.2.1 pc = .ok (.if_icmp .ne off, 3)) (ht : (pc : Int) + off = (tgt : Int)) (kt : ¬ x = z → WP γ l y d nE nX tgt L S n M R K) (kf : x = z → WP γ l y d nE nX (pc + 3) L S n M R K) : WP γ l y d nE nX pc L (.int z :: .int x :: S) n M R K :=
  fun p e R0 s m args below meth c Q H locs ls C hr hW h1 h2 hl => lv_icmp_ne C.1 C.2.1 hd ht (fun q => kt q p e R0 s m args below meth c Q H locs ls C hr hW h1 h2 hl) (fun q => kf q p e R0 s m args below meth c Q H locs ls C hr hW h1 h2 hl)
theorem wp_if_lt {x : Int32} {off : Int} {tgt : Nat} (hd : decode y.2.1 pc = .ok (.ifCond .lt off, 3)) (ht : (pc : Int) + off = (tgt : Int)) (kt : x < 0 → WP γ l y d nE nX tgt L S n M R K) (kf : ¬ x < 0 → WP γ l y d nE nX (pc + 3) L S n M R K) : WP γ l y d nE nX pc L (.int x :: S) n M R K :=
  fun p e R0 s m args below meth c Q H locs ls C hr hW h1 h2 hl => lv_if_lt C.1 C.2.1 hd ht (fun q => kt q p e R0 s m args below meth c Q H locs ls C hr hW h1 h2 hl) (fun q => kf q p e R0 s m args below meth c Q H locs ls C hr hW h1 h2 hl)
theorem wp_icmp_lt {x z : Int32} {off : Int} {tgt : Nat} (hd : decode y.2.1 pc = .ok (.if_icmp .lt off, 3)) (ht : (pc : Int) + off = (tgt : Int)) (kt : x < z → WP γ l y d nE nX tgt L S n M R K) (kf : ¬ x < z → WP γ l y d nE nX (pc + 3) L S n M R K) : WP γ l y d nE nX pc L (.int z :: .int x :: S) n M R K :=
  fun p e R0 s m args below meth c Q H locs ls C hr hW h1 h2 hl => lv_icmp_lt C.1 C.2.1 hd ht (fun q => kt q p e R0 s m args below meth c Q H locs ls C hr hW h1 h2 hl) (fun q => kf q p e R0 s m args below meth c Q H locs ls C hr hW h1 h2 hl)
theorem wp_if_ge {x : Int32} {off : Int} {tgt : Nat} (hd : decode y.2.1 pc = .ok (.ifCond .ge off, 3)) (ht : (pc : Int) + off = (tgt : Int)) (kt : 0 ≤ x → WP γ l y d nE nX tgt L S n M R K) (kf : ¬ 0 ≤ x → WP γ l y d nE nX (pc + 3) L S n M R K) : WP γ l y d nE nX pc L (.int x :: S) n M R K :=
  fun p e R0 s m args below meth c Q H locs ls C hr hW h1 h2 hl => lv_if_ge C.1 C.2.1 hd ht (fun q => kt q p e R0 s m args below meth c Q H locs ls C hr hW h1 h2 hl) (fun q => kf q p e R0 s m args below meth c Q H locs ls C hr hW h1 h2 hl)
theorem wp_icmp_ge {x z : Int32} {off : Int} {tgt : Nat} (hd : decode y.2.1 pc = .ok (.if_icmp .ge off, 3)) (ht : (pc : Int) + off = (tgt : Int)) (kt : z ≤ x → WP γ l y d nE nX tgt L S n M R K) (kf : ¬ z ≤ x → WP γ l y d nE nX (pc + 3) L S n M R K) : WP γ l y d nE nX pc L (.int z :: .int x :: S) n M R K :=
  fun p e R0 s m args below meth c Q H locs ls C hr hW h1 h2 hl => lv_icmp_ge C.1 C.2.1 hd ht (fun q => kt q p e R0 s m args below meth c Q H locs ls C hr hW h1 h2 hl) (fun q => kf q p e R0 s m args below meth c Q H locs ls C hr hW h1 h2 hl)
theorem wp_if_gt {x : Int32} {off : Int} {tgt : Nat} (hd : decode y.2.1 pc = .ok (.ifCond .gt off, 3)) (ht : (pc : Int) + off = (tgt : Int)) (kt : 0 < x → WP γ l y d nE nX tgt L S n M R K) (kf : ¬ 0 < x → WP γ l y d nE nX (pc + 3) L S n M R K) : WP γ l y d nE nX pc L (.int x :: S) n M R K :=
  fun p e R0 s m args below meth c Q H locs ls C hr hW h1 h2 hl => lv_if_gt C.1 C.2.1 hd ht (fun q => kt q p e R0 s m args below meth c Q H locs ls C hr hW h1 h2 hl) (fun q => kf q p e R0 s m args below meth c Q H locs ls C hr hW h1 h2 hl)
theorem wp_icmp_gt {x z : Int32} {off : Int} {tgt : Nat} (hd : decode y.2.1 pc = .ok (.if_icmp .gt off, 3)) (ht : (pc : Int) + off = (tgt : Int)) (kt : z < x → WP γ l y d nE nX tgt L S n M R K) (kf : ¬ z < x → WP γ l y d nE nX (pc + 3) L S n M R K) : WP γ l y d nE nX pc L (.int z :: .int x :: S) n M R K :=
  fun p e R0 s m args below meth c Q H locs ls C hr hW h1 h2 hl => lv_icmp_gt C.1 C.2.1 hd ht (fun q => kt q p e R0 s m args below meth c Q H locs ls C hr hW h1 h2 hl) (fun q => kf q p e R0 s m args below meth c Q H locs ls C hr hW h1 h2 hl)
theorem wp_if_le {x : Int32} {off : Int} {tgt : Nat} (hd : decode y.2.1 pc = .ok (.ifCond .le off, 3)) (ht : (pc : Int) + off = (tgt : Int)) (kt : x ≤ 0 → WP γ l y d nE nX tgt L S n M R K) (kf : ¬ x ≤ 0 → WP γ l y d nE nX (pc + 3) L S n M R K) : WP γ l y d nE nX pc L (.int x :: S) n M R K :=
  fun p e R0 s m args below meth c Q H locs ls C hr hW h1 h2 hl => lv_if_le C.1 C.2.1 hd ht (fun q => kt q p e R0 s m args below meth c Q H locs ls C hr hW h1 h2 hl) (fun q => kf q p e R0 s m args below meth c Q H locs ls C hr hW h1 h2 hl)
theorem wp_icmp_le {x z : Int32} {off : Int} {tgt : Nat} (hd : decode y.2.1 pc = .ok (.if_icmp .le off, 3)) (ht : (pc : Int) + off = (tgt : Int)) (kt : x ≤ z → WP γ l y d nE nX tgt L S n M R K) (kf : ¬ x ≤ z → WP γ l y d nE nX (pc + 3) L S n M R K) : WP γ l y d nE nX pc L (.int z :: .int x :: S) n M R K :=
  fun p e R0 s m args below meth c Q H locs ls C hr hW h1 h2 hl => lv_icmp_le C.1 C.2.1 hd ht (fun q => kt q p e R0 s m args below meth c Q H locs ls C hr hW h1 h2 hl) (fun q => kf q p e R0 s m args below meth c Q H locs ls C hr hW h1 h2 hl)
theorem wp_goto {off : Int} {tgt : Nat} (hd : decode y.2.1 pc = .ok (.goto off, 3)) (ht : (pc : Int) + off = (tgt : Int)) (k : WP γ l y d nE nX tgt L S n M R K) : WP γ l y d nE nX pc L S n M R K :=
  fun p e R0 s m args below meth c Q H locs ls C hr hW h1 h2 hl => lv_goto C.1 C.2.1 hd ht (k p e R0 s m args below meth c Q H locs ls C hr hW h1 h2 hl)
def swT (x : Int32) (cs : List (Int32 × Nat)) (df : Nat) : Nat := match cs with
  | [] => df
  | (v, t) :: r => if x = v then t else swT x r df
theorem wp_sw {x v : Int32} {t df : Nat} {r : List (Int32 × Nat)} (kt : x = v → WP γ l y d nE nX t L S n M R K) (kf : ¬ x = v → WP γ l y d nE nX (swT x r df) L S n M R K) : WP γ l y d nE nX (swT x ((v, t) :: r) df) L S n M R K := by
  unfold swT
  split
  · rename_i h
    exact kt h
  · rename_i h
    exact kf h
theorem wp_sw0 {x : Int32} {df : Nat} (k : WP γ l y d nE nX df L S n M R K) : WP γ l y d nE nX (swT x [] df) L S n M R K := k
def lsOk (pc : Nat) (dflt : Int) : List (Int × Int) → List (Int32 × Nat) → Nat → Bool
  | [], [], df => decide ((pc : Int) + dflt = (df : Int))
  | (a, o) :: ps, (v, t) :: cs, df => decide (v.toInt = a) && decide ((pc : Int) + o = (t : Int)) && lsOk pc dflt ps cs df
  | _, _, _ => false
theorem lsOk_off {pc : Nat} {dflt : Int} {x : Int32} {df : Nat} : ∀ {ps : List (Int × Int)} {cs : List (Int32 × Nat)}, lsOk pc dflt ps cs df = true → (pc : Int) + Op.lookupswitch.offset ps dflt x.toInt = (swT x cs df : Int)
  | [], [], h => by
    simp only [lsOk, decide_eq_true_eq] at h
    exact h
  | (a, o) :: ps, (v, t) :: cs, h => by
    simp only [lsOk, Bool.and_eq_true, decide_eq_true_eq] at h
    obtain ⟨⟨h1, h2⟩, h3⟩ := h
    unfold swT
    by_cases hx : x = v
    · rw [if_pos hx, Op.lookupswitch.offset_cons, if_pos (by rw [← h1, hx]), h2]
    · rw [if_neg hx, lv_osw hx h1]
      exact lsOk_off h3
  | [], _ :: _, h => by simp [lsOk] at h
  | _ :: _, [], h => by simp [lsOk] at h
theorem wp_lswitch {dflt : Int} {ps : Array (Int × Int)} {len : Nat} {x : Int32} (cs : List (Int32 × Nat)) (df : Nat) (hd : decode y.2.1 pc = .ok (.lookupswitch dflt ps, len)) (hp : (ps.toList.zip (ps.toList.drop 1)).all (fun (a, next) => a.1 < next.1) = true) (hc : lsOk pc dflt ps.toList cs df = true) (k : WP γ l y d nE nX (swT x cs df) L S n M R K) : WP γ l y d nE nX pc L (.int x :: S) n M R K :=
  fun p e R0 s m args below meth c Q H locs ls C hr hW h1 h2 hl => lv_lookup C.1 C.2.1 hd hp rfl (lsOk_off hc) (k p e R0 s m args below meth c Q H locs ls C hr hW h1 h2 hl)
def tsOk (pc : Nat) (a : Int) : List Int → List (Int32 × Nat) → Bool
  | [], [] => true
  | o :: ps, (v, t) :: cs => decide (v.toInt = a) && decide ((pc : Int) + o = (t : Int)) && tsOk pc (a + 1) ps cs
  | _, _ => false
theorem tsOk_out {pc : Nat} {x : Int32} {df : Nat} : ∀ {ps : List Int} {cs : List (Int32 × Nat)} {a : Int}, tsOk pc a ps cs = true → (x.toInt < a ∨ a + ps.length ≤ x.toInt) → swT x cs df = df
  | [], [], a, _, _ => rfl
  | o :: ps, (v, t) :: cs, a, h, hx => by
    simp only [tsOk, Bool.and_eq_true, decide_eq_true_eq] at h
    obtain ⟨⟨h1, h2⟩, h3⟩ := h
    rw [List.length_cons] at hx
    unfold swT
    rw [if_neg (by rintro rfl; omega)]
    exact tsOk_out h3 (by omega)
  | [], _ :: _, _, h, _ => by simp [tsOk] at h
  | _ :: _, [], _, h, _ => by simp [tsOk] at h
theorem tsOk_in {pc : Nat} {x : Int32} {df : Nat} : ∀ {ps : List Int} {cs : List (Int32 × Nat)} {a : Int}, tsOk pc a ps cs = true → a ≤ x.toInt → x.toInt < a + ps.length → ∃ o : Int, ps[(x.toInt - a).toNat]? = some o ∧ (pc : Int) + o = (swT x cs df : Int)
  | [], [], a, _, h1, h2 => by simp at h2; omega
  | o :: ps, (v, t) :: cs, a, h, h1, h2 => by
    simp only [tsOk, Bool.and_eq_true, decide_eq_true_eq] at h
    obtain ⟨⟨g1, g2⟩, g3⟩ := h
    rw [List.length_cons] at h2
    unfold swT
    by_cases hx : x = v
    · subst hx
      rw [if_pos rfl, g1, Int.sub_self]
      exact ⟨o, rfl, g2⟩
    · have hne : x.toInt ≠ a := fun q => hx (Int32.toInt_inj.mp (q.trans g1.symm))
      rw [if_neg hx]
      obtain ⟨o', e1, e2⟩ := tsOk_in (x := x) (df := df) g3 (by omega) (by omega)
      refine ⟨o', ?_, e2⟩
      rw [show (x.toInt - a).toNat = (x.toInt - (a + 1)).toNat + 1 by omega, List.getElem?_cons_succ]
      exact e1
  | [], _ :: _, _, h, _, _ => by simp [tsOk] at h
  | _ :: _, [], _, h, _, _ => by simp [tsOk] at h
theorem wp_tswitch {dflt lo hi : Int} {offs : Array Int} {len : Nat} {x : Int32} (cs : List (Int32 × Nat)) (df : Nat) (hd : decode y.2.1 pc = .ok (.tableswitch dflt lo hi offs, len)) (hdf : (pc : Int) + dflt = (df : Int)) (hh : hi + 1 = lo + offs.toList.length) (hc : tsOk pc lo offs.toList cs = true) (k : WP γ l y d nE nX (swT x cs df) L S n M R K) : WP γ l y d nE nX pc L (.int x :: S) n M R K := by
  intro p e R0 s m args below meth c Q H locs ls C hr hW h1 h2 hl
  by_cases hx : x.toInt < lo ∨ hi < x.toInt
  · have ee := tsOk_out (df := df) (x := x) hc (by omega)
    rw [ee] at k
    exact lv_tableOut C.1 C.2.1 hd hx hdf (k p e R0 s m args below meth c Q H locs ls C hr hW h1 h2 hl)
  · obtain ⟨o, e1, e2⟩ := tsOk_in (df := df) (x := x) hc (by omega) (by omega)
    exact lv_tableIn C.1 C.2.1 hd (fun q => hx (Or.inl q)) (fun q => hx (Or.inr q)) (by rw [← Array.getElem?_toList]; exact e1) e2 (k p e R0 s m args below meth c Q H locs ls C hr hW h1 h2 hl)
theorem wp_iret {x : Int32} {ty : FieldType} (hd : decode y.2.1 pc = .ok (.ireturn, 1)) (hr : y.2.2.2 = some ty) (hx : narrow ty (.int x) = .int x) (hn : n = nX) (hK : K (some (.int x)) n M R) : WP γ l y d nE nX pc L [.int x] n M R K := by
  subst hn
  exact fun p e R0 s m args below meth c Q H locs ls C hret hW h1 h2 hl => hret pc (some (.int x)) M R H locs ls ⟨hd, ty, hr, hx⟩ hW hK
theorem wp_lret {x : Int64} (hd : decode y.2.1 pc = .ok (.lreturn, 1)) (hr : y.2.2.2 = some .long) (hn : n = nX) (hK : K (some (.long x)) n M R) : WP γ l y d nE nX pc L [.long x] n M R K := by
  subst hn
  exact fun p e R0 s m args below meth c Q H locs ls C hret hW h1 h2 hl => hret pc (some (.long x)) M R H locs ls ⟨hd, hr⟩ hW hK
theorem wp_vret (hd : decode y.2.1 pc = .ok (.return_, 1)) (hr : y.2.2.2 = none) (hn : n = nX) (hK : K none n M R) : WP γ l y d nE nX pc L [] n M R K := by
  subst hn
  exact fun p e R0 s m args below meth c Q H locs ls C hret hW h1 h2 hl => hret pc none M R H locs ls ⟨hd, hr⟩ hW hK
end ROWS
