/-! NEW OBJECTS: paddles, gauges, the pad -/
section NROWS
variable {γ : Gm} {l : Launch} {y : Mt} {d nE nX pc n idx N : Nat} {x : Int32} {L : List (Option Value)} {S : List Value} {M : Mm} {R : Rm} {K : Option Value → Nat → Mm → Rm → Prop}
theorem wp_nai (hx : x = nI N) (ht : tg n = 10) (hN : ln n = N) (h8 : 8 ≤ n) (hnX : n + 1 ≤ nX) (hd : decode y.2.1 pc = .ok (.newarray .int, 2)) (kk : WP γ l y d nE nX (pc + 2) L (.ref n :: S) (n + 1) (z0 M n) (z0 R n) K) : WP γ l y d nE nX pc L (.int x :: S) n M R K :=
  wp_newa (atype := .int) (ty := .int) (t := 10) rfl (by decide) (by decide) rfl (fun _ _ h => va_nm_int h) rfl (by decide) q73 hx ht hN h8 hnX hd kk
theorem wp_nac (hx : x = nI N) (ht : tg n = 11) (hN : ln n = N) (h8 : 8 ≤ n) (hnX : n + 1 ≤ nX) (hd : decode y.2.1 pc = .ok (.newarray .char, 2)) (kk : WP γ l y d nE nX (pc + 2) L (.ref n :: S) (n + 1) (z0 M n) (z0 R n) K) : WP γ l y d nE nX pc L (.int x :: S) n M R K :=
  wp_newa (atype := .char) (ty := .char) (t := 11) rfl (by decide) (by decide) rfl (fun _ _ h => va_nm_char h) rfl (by decide) q155 hx ht hN h8 hnX hd kk
theorem wp_naz (hx : x = nI N) (ht : tg n = 12) (hN : ln n = N) (h8 : 8 ≤ n) (hnX : n + 1 ≤ nX) (hd : decode y.2.1 pc = .ok (.newarray .boolean, 2)) (kk : WP γ l y d nE nX (pc + 2) L (.ref n :: S) (n + 1) (z0 M n) (z0 R n) K) : WP γ l y d nE nX pc L (.int x :: S) n M R K :=
  wp_newa (atype := .boolean) (ty := .boolean) (t := 12) rfl (by decide) (by decide) rfl (fun _ _ h => va_nm_boolean h) rfl (by decide) q195 hx ht hN h8 hnX hd kk
theorem wp_nqT (hlink : Cond.classLink y.1.cls idx RX4 ∈ WS) (hx : x = nI N) (ht : tg n = 13) (hN : ln n = N) (h8 : 8 ≤ n) (hnX : n + 1 ≤ nX) (hd : decode y.2.1 pc = .ok (.anewarray idx, 3)) (kk : WP γ l y d nE nX (pc + 3) L (.ref n :: S) (n + 1) (z0 M n) (z0 R n) K) : WP γ l y d nE nX pc L (.int x :: S) n M R K :=
  wp_newq (t := 13) (by decide) rfl (fun _ h => h.2.2.1.1) hlink hx ht hN h8 hnX hd kk
theorem wp_nqP (hlink : Cond.classLink y.1.cls idx RX3 ∈ WS) (hx : x = nI N) (ht : tg n = 14) (hN : ln n = N) (h8 : 8 ≤ n) (hnX : n + 1 ≤ nX) (hd : decode y.2.1 pc = .ok (.anewarray idx, 3)) (kk : WP γ l y d nE nX (pc + 3) L (.ref n :: S) (n + 1) (z0 M n) (z0 R n) K) : WP γ l y d nE nX pc L (.int x :: S) n M R K :=
  wp_newq (t := 14) (by decide) rfl (fun _ h => h.2.2.1.2.1) hlink hx ht hN h8 hnX hd kk
theorem wp_nqG (hlink : Cond.classLink y.1.cls idx RX0 ∈ WS) (hx : x = nI N) (ht : tg n = 15) (hN : ln n = N) (h8 : 8 ≤ n) (hnX : n + 1 ≤ nX) (hd : decode y.2.1 pc = .ok (.anewarray idx, 3)) (kk : WP γ l y d nE nX (pc + 3) L (.ref n :: S) (n + 1) (z0 M n) (z0 R n) K) : WP γ l y d nE nX pc L (.int x :: S) n M R K :=
  wp_newq (t := 15) (by decide) rfl (fun _ h => h.2.2.1.2.2) hlink hx ht hN h8 hnX hd kk
end NROWS
set_option maxRecDepth 100000 in
set_option maxHeartbeats 4000000 in
theorem s_X3_init {γ : Gm} {l : Launch} {M : Mm} {R : Rm} {K : KT} {a n : Nat}  (ht : tg a = 3) (ha : a < n) (h8 : 8 ≤ n) (hK : K none n (u2 M a 3 1) R) : CL γ l mX3_init 1 n n [.ref a] M R K := by
  show WP γ l mX3_init 1 n n 0 [some (.ref a)] [] n M R K
  refine wp_aload_n dX3_init_0 rfl ?_
  refine wp_objInit q41 q16 q17 (by decide) (Nat.le_of_ble_eq_true rfl) dX3_init_1 ?_
  refine wp_aload_n dX3_init_4 rfl ?_
  refine wp_iconst (v := 1) dX3_init_5 (by decide) ?_
  refine wp_putI pX3_9 ht rfl ⟨rfl, rfl⟩ (by omega) dX3_init_6 ?_
  exact wp_vret dX3_init_9 rfl rfl (hK)

set_option maxRecDepth 100000 in
set_option maxHeartbeats 4000000 in
theorem s_X0_init {γ : Gm} {l : Launch} {M : Mm} {R : Rm} {K : KT} {a : Nat}  (h8 : 8 ≤ a) (ht : tg a = 0) (ht1 : tg (a + 1) = 10) (hl1 : ln (a + 1) = 60) (hK : K none (a + 2) (z0 M (a + 1)) (u2 (z0 R (a + 1)) a 0 (a + 1))) : CL γ l mX0_init 1 (a + 1) (a + 2) [.ref a] M R K := by
  show WP γ l mX0_init 1 (a + 1) (a + 2) 0 [some (.ref a)] [] (a + 1) M R K
  refine wp_aload_n dX0_init_0 rfl ?_
  refine wp_objInit q78 q16 q17 (by decide) (Nat.le_of_ble_eq_true rfl) dX0_init_1 ?_
  refine wp_aload_n dX0_init_4 rfl ?_
  refine wp_bipush (v := 60) dX0_init_5 (by decide) ?_
  refine wp_nai rfl ht1 hl1 (by omega) (by omega) dX0_init_7 ?_
  show WP γ l mX0_init 1 (a + 1) (a + 2) 9 [some (.ref a)] (.ref (a + 1) :: .ref a :: []) (a + 2) _ _ K
  refine wp_putR pX0_9 ht rfl (fun _ => ⟨rfl, rfl⟩) (by omega) (by omega) rfl dX0_init_9 ?_
  exact wp_vret dX0_init_12 rfl rfl (hK)

set_option maxRecDepth 100000 in
set_option maxHeartbeats 4000000 in
theorem s_X2_init {γ : Gm} {l : Launch} {M : Mm} {R : Rm} {K : KT}  (hK : K none 31 (z0 M 30) (u2 (z0 R 30) 29 0 30)) : CL γ l mX2_init 1 30 31 [.ref 29] M R K := by
  show WP γ l mX2_init 1 30 31 0 [some (.ref 29)] [] 30 M R K
  refine wp_aload_n dX2_init_0 rfl ?_
  refine wp_objInit q133 q16 q17 (by decide) (Nat.le_of_ble_eq_true rfl) dX2_init_1 ?_
  refine wp_aload_n dX2_init_4 rfl ?_
  refine wp_bipush (v := 80) dX2_init_5 (by decide) ?_
  refine wp_nac rfl tA_30 lA_30 (by omega) (by omega) dX2_init_7 ?_
  show WP γ l mX2_init 1 30 31 9 [some (.ref 29)] (.ref 30 :: .ref 29 :: []) 31 _ _ K
  refine wp_putR pX2_9 tA_29 rfl (fun _ => ⟨rfl, rfl⟩) (by decide) (Nat.le_of_ble_eq_true rfl) rfl dX2_init_9 ?_
  exact wp_vret dX2_init_12 rfl rfl (hK)
