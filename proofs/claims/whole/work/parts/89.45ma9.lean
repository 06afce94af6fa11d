-- needs: 89.44
section MA9
variable {l : Launch} {V : gi_V} {n : Nat} {h h' h0 : gi_H} {a pr bu fa gv k c : Nat} {sx wt tp wr st : Int32} {F G : Nat → Nat → Int32} {S : Nat → Int32} {J Jx : Nat → Int64} {H : Hp} {z : Mc} {P : Pm} {sn : Nat → Nat} {wd wd0 : Nat → Bool} {Fc : Fa} {Φ : Nat → mR} {sh : Nat → Option Sh}
/-- an array that is given, its first i cells put in -/
def hGiv (H : Hp) (len i : Nat) (f : Nat → Int32) : Hp := (H.c + 1, H.u + len, upO H.st (H.c + 1) H.u, upO H.ln (H.c + 1) len, upO H.si (H.c + 1) 0, fun x => if H.u ≤ x ∧ x < H.u + i then f (x - H.u) else if H.u ≤ x ∧ x < H.u + len then 0 else H.ce x)
theorem hGiv_0 {len : Nat} {f : Nat → Int32} : hAdd H len 0 = hGiv H len 0 f := by
  unfold hAdd hGiv
  refine Prod.ext rfl (Prod.ext rfl (Prod.ext rfl (Prod.ext rfl (Prod.ext rfl ?_))))
  funext x
  show (if H.u ≤ x ∧ x < H.u + len then 0 else H.ce x) = if H.u ≤ x ∧ x < H.u + 0 then f (x - H.u) else if H.u ≤ x ∧ x < H.u + len then 0 else H.ce x
  rw [if_neg (show ¬ (H.u ≤ x ∧ x < H.u + 0) by omega)]
theorem hGiv_s {len i : Nat} {f : Nat → Int32} : hSet (hGiv H len i f) (H.c + 1) i (f i) = hGiv H len (i + 1) f := by
  unfold hSet hGiv
  refine Prod.ext rfl (Prod.ext rfl (Prod.ext rfl (Prod.ext rfl (Prod.ext rfl ?_))))
  funext x
  show upO (fun x => if H.u ≤ x ∧ x < H.u + i then f (x - H.u) else if H.u ≤ x ∧ x < H.u + len then 0 else H.ce x) (upO H.st (H.c + 1) H.u (H.c + 1) + i) (f i) x = if H.u ≤ x ∧ x < H.u + (i + 1) then f (x - H.u) else if H.u ≤ x ∧ x < H.u + len then 0 else H.ce x
  rw [upO_self]
  by_cases q : x = H.u + i
  · subst q
    rw [upO_self, if_pos (by omega), Nat.add_sub_cancel_left]
  · rw [upO_ne q]
    by_cases r : H.u ≤ x ∧ x < H.u + i
    · rw [if_pos r, if_pos (by omega)]
    · rw [if_neg r, if_neg (show ¬ (H.u ≤ x ∧ x < H.u + (i + 1)) by omega)]
/-- what is given becomes: a value, and the arrays -/
def givV (G : Nat → Nat → Int32) (j : Nat) (H : Hp) : Int32 := if G 1 j = 0 then G 2 j else if G 1 j = 1 then nI (H.c + 1) else 0
def givH (G : Nat → Nat → Int32) (j : Nat) (H : Hp) : Hp := if G 1 j = 1 then hGiv H (G 2 j).toNatClampNeg (G 2 j).toNatClampNeg (fun i => G 3 (200 * j + i)) else H
def begG (G : Nat → Nat → Int32) : Nat → (Nat → Int32) × Hp
  | 0 => (fun _ => 0, (0, 0, fun _ => 0, fun _ => 0, fun _ => 0, fun _ => 0))
  | j + 1 => (upO (begG G j).1 j (givV G j (begG G j).2), givH G j (begG G j).2)
def begC (P : Pm) (G : Nat → Nat → Int32) (m j : Nat) : Mc := mkC 0 (fun _ => mkF m 0 (pN P 2 m) (begG G j).1) (fun _ => 0) (begG G j).2 false 0 1 0
theorem beg_b (hL : gvL c G) : ∀ j, j ≤ c → (begG G j).2.c ≤ j ∧ (begG G j).2.u ≤ 200 * j
  | 0, _ => ⟨Nat.le_refl _, Nat.le_refl _⟩
  | j + 1, hj => by
    have i := beg_b hL j (by omega)
    show (givH G j (begG G j).2).c ≤ j + 1 ∧ (givH G j (begG G j).2).u ≤ 200 * (j + 1)
    unfold givH
    split
    · rename_i q
      obtain ⟨y, y1, y2⟩ := hL j (by omega) q
      show (begG G j).2.c + 1 ≤ j + 1 ∧ (begG G j).2.u + (G 2 j).toNatClampNeg ≤ 200 * (j + 1)
      rw [y2, nI_clamp (by omega)]
      omega
    · omega
theorem heW.ext {H' : Hp} (Q : heW a H h) (h1 : H'.c = H.c) (h2 : H'.u = H.u) (h3 : ∀ r, 1 ≤ r → r ≤ H.c → H'.st r = H.st r ∧ H'.ln r = H.ln r ∧ H'.si r = H.si r) (h4 : ∀ i, i < H.u → H'.ce i = H.ce i) : heW a H' h := by
  obtain ⟨S, F, p, ⟨q1, q2, q3⟩, r0, r1, r2, r3⟩ := Q
  refine ⟨S, F, p, ⟨by rw [h1]; exact q1, by rw [h2]; exact q2, fun r a1 a2 => ?_⟩, by rw [h1]; exact r0, by rw [h2]; exact r1, fun r a1 a2 => ?_, fun i hi => ?_⟩
  · rw [h1] at a2
    obtain ⟨e1, e2, e3⟩ := h3 r a1 a2
    rw [e1, e2, e3, h2]
    exact q3 r a1 a2
  · rw [h1] at a2
    obtain ⟨e1, e2, e3⟩ := h3 r a1 a2
    rw [e1, e2, e3]
    exact r2 r a1 a2
  · rw [h2] at hi
    rw [h4 i hi]
    exact r3 i hi
/-- of a machine only so much is told -/
theorem MW.ext {y : Mc} (Q : MW a pr bu fa gv h0 sx wt Jx z h) (h1 : y.top = z.top) (h2 : y.wr = z.wr) (h3 : y.as = z.as) (h4 : y.hp = z.hp) (h5 : y.gv = z.gv) (h6 : y.dp = z.dp) (h7 : ∀ j, j < 4 → y.fd j = z.fd j) (h8 : ∀ t, t ≤ z.top → y.fr t = z.fr t) : MW a pr bu fa gv h0 sx wt Jx y h := by
  obtain ⟨F, J, q, r1, r2, r3, r4, r5, r6, r7⟩ := Q
  refine ⟨F, J, by rw [h1, h2, h3, h4]; exact q, by rw [h1]; exact r1, by rw [h5]; exact r2, by rw [h6]; exact r3, by rw [h6]; exact r4, r5, fun j hj => by rw [h7 j hj]; exact r6 j hj, fun t ht => ?_⟩
  rw [h1] at ht
  rw [h8 t ht]
  exact r7 t ht
set_option maxHeartbeats 4000000 in
set_option maxRecDepth 100000 in
theorem c_Ma_bring {j : Nat} (hj : j < c) (k0 : G 1 j ≠ 0) (hc3 : z.hp.c ≤ 3) (hu : z.hp.u ≤ 600) (hc : c ≤ 3) (hS : S 0 = nI c) (HG : gv_at gv S G h0) (dg : gv + 4 ≤ a) (hL : gvL c G) (Hw : MW a pr bu fa gv h0 sx wt Jx z h) : gi_T l V y_Ma_bring b_Ma_bring 4 (some .int) 3 68 0 0 [.ref a, .int (nI j)] n h (fun v n' h' => v = some (.int (givV G j z.hp)) ∧ n' = n ∧ MW a pr bu fa gv h0 sx wt Jx (hpZ z (givH G j z.hp)) h') := by
  refine gi_enter (by decide) (Nat.le_of_ble_eq_true rfl) ?_
  intro _ _ _ _ _ _ _ _ C hr hnm
  obtain ⟨F, J, Q, R⟩ := id Hw
  have t16 := R.1
  have n14 := R.cur.2.2.2.1
  refine gi_aload_n (q := 1) (i := 0) C (dm_Ma_bring 0 rfl) rfl rfl rfl ?_
  refine gi_get (q := 4) C (dm_Ma_bring 1 rfl) rfl fl_Ma_54 Q.ob rfl ?_
  refine gi_iload_n (q := 5) (i := 1) C (dm_Ma_bring 2 rfl) rfl rfl rfl ?_
  refine gi_callv 1 (q := 8) C (dm_Ma_bring 3 rfl) rfl my_Gi_kindOf lk_Ma_110 im_Gi_kindOf rfl (c_Gi_kindOf hj hc hS (gv_keep HG (fun b b1 b2 => Q.ou b (by omega)))) (gv_keep HG (fun b b1 b2 => Q.ou b (by omega))).1 rfl rfl ⟨(Nat.le_of_ble_eq_true rfl), (Nat.le_of_ble_eq_true rfl)⟩ (Nat.le_of_ble_eq_true rfl) ⟨(Nat.le_of_ble_eq_true rfl), (Nat.le_of_ble_eq_true rfl)⟩ (fun r5 n5 h5 e5 => ?_)
  obtain ⟨rfl, q5, u5⟩ := e5
  rw [q5, u5]
  refine gi_iconst (q := 9) (v := 1) C (dm_Ma_bring 4 rfl) rfl (by decide) ?_
  refine gi_icmp_eq (q := 12) (tgt := 14) C (dm_Ma_bring 5 rfl) rfl (by decide) (fun c9 => ?_) (fun c9 => ?_)
  · have g1 : G 1 j = 1 := c9
    obtain ⟨len, yl, ey⟩ := hL j hj g1
    have nl : (nI len).toInt = len := Int32.toInt_ofNat_of_lt (by omega)
    refine gi_aload_n (q := 15) (i := 0) C (dm_Ma_bring 8 rfl) rfl rfl rfl ?_
    refine gi_get (q := 18) C (dm_Ma_bring 9 rfl) rfl fl_Ma_18 Q.ob rfl ?_
    refine gi_aload_n (q := 19) (i := 0) C (dm_Ma_bring 10 rfl) rfl rfl rfl ?_
    refine gi_get (q := 22) C (dm_Ma_bring 11 rfl) rfl fl_Ma_54 Q.ob rfl ?_
    refine gi_iload_n (q := 23) (i := 1) C (dm_Ma_bring 12 rfl) rfl rfl rfl ?_
    refine gi_callv 1 (q := 26) C (dm_Ma_bring 13 rfl) rfl my_Gi_valueOf lk_Ma_115 im_Gi_valueOf rfl (c_Gi_valueOf hj hc hS (gv_keep HG (fun b b1 b2 => Q.ou b (by omega)))) (gv_keep HG (fun b b1 b2 => Q.ou b (by omega))).1 rfl rfl ⟨(Nat.le_of_ble_eq_true rfl), (Nat.le_of_ble_eq_true rfl)⟩ (Nat.le_of_ble_eq_true rfl) ⟨(Nat.le_of_ble_eq_true rfl), (Nat.le_of_ble_eq_true rfl)⟩ (fun r23 n23 h23 e23 => ?_)
    obtain ⟨rfl, q23, u23⟩ := e23
    rw [q23, u23]
    rw [ey]
    refine gi_iconst (q := 27) (v := 0) C (dm_Ma_bring 14 rfl) rfl (by decide) ?_
    refine gi_callv 2 (q := 30) C (dm_Ma_bring 15 rfl) rfl my_He_add lk_Ma_121 im_He_add rfl (c_He_add (nI len) 0 (by decide) Q.he) (Q.he).choose_spec.choose_spec.1.1 rfl rfl ⟨(Nat.le_of_ble_eq_true rfl), (Nat.le_of_ble_eq_true rfl)⟩ (Nat.le_of_ble_eq_true rfl) ⟨(Nat.le_of_ble_eq_true rfl), (Nat.le_of_ble_eq_true rfl)⟩ (fun r27 n27 h27 e27 => ?_)
    obtain ⟨rfl, e27⟩ := e27
    rcases e27 with ⟨b1, -, -⟩ | ⟨b1, b2, b3, rfl, b4, b5⟩
    · exact absurd ⟨by omega, by rw [nl]; omega, by rw [nl]; omega⟩ b1
    rw [nI_clamp (show len < 2 ^ 31 by omega)] at b4
    have Q2 := Q.sH b4 b5
    rw [hGiv_0 (f := fun i => G 3 (200 * j + i))] at Q2
    refine gi_istore_n (q := 31) (i := 2) C (dm_Ma_bring 16 rfl) rfl rfl (Nat.le_of_ble_eq_true rfl) ?_
    refine gi_iconst (q := 32) (v := 0) C (dm_Ma_bring 17 rfl) rfl (by decide) ?_
    refine gi_istore_n (q := 33) (i := 3) C (dm_Ma_bring 18 rfl) rfl rfl (Nat.le_of_ble_eq_true rfl) ?_
    refine gi_while (σ := Nat) (fun i => len - i) (fun i => [(3, .int (nI i)), (2, .int (nI (z.hp.c + 1))), (0, .ref a), (1, .int (nI j))]) (fun _ => n27) (fun _ => 0) (fun _ => 0) (fun i y' => i ≤ len ∧ MO a pr bu fa gv h0 sx (nI z.top) z.wr wt (bI z.as) F J (hGiv z.hp len i (fun i => G 3 (200 * j + i))) y') 0 ⟨Nat.zero_le _, Q2⟩ ?_ (List.forall_mem_cons.mpr ⟨rfl, List.forall_mem_cons.mpr ⟨rfl, List.forall_mem_cons.mpr ⟨rfl, List.forall_mem_cons.mpr ⟨rfl, fun _ h => absurd h List.not_mem_nil⟩⟩⟩⟩) rfl rfl rfl
    rintro i y' ⟨hil, Y⟩ ih
    try dsimp only at *
    refine gi_iload_n (q := 34) (i := 3) C (dm_Ma_bring 19 rfl) rfl rfl rfl ?_
    refine gi_aload_n (q := 35) (i := 0) C (dm_Ma_bring 20 rfl) rfl rfl rfl ?_
    refine gi_get (q := 38) C (dm_Ma_bring 21 rfl) rfl fl_Ma_54 Y.ob rfl ?_
    refine gi_iload_n (q := 39) (i := 1) C (dm_Ma_bring 22 rfl) rfl rfl rfl ?_
    refine gi_callv 1 (q := 42) C (dm_Ma_bring 23 rfl) rfl my_Gi_valueOf lk_Ma_115 im_Gi_valueOf rfl (c_Gi_valueOf hj hc hS (gv_keep HG (fun b b1 b2 => Y.ou b (by omega)))) (gv_keep HG (fun b b1 b2 => Y.ou b (by omega))).1 rfl rfl ⟨(Nat.le_of_ble_eq_true rfl), (Nat.le_of_ble_eq_true rfl)⟩ (Nat.le_of_ble_eq_true rfl) ⟨(Nat.le_of_ble_eq_true rfl), (Nat.le_of_ble_eq_true rfl)⟩ (fun r39 n39 h39 e39 => ?_)
    obtain ⟨rfl, q39, u39⟩ := e39
    rw [q39, u39]
    rw [ey]
    refine gi_icmp_ge (q := 45) (tgt := 69) C (dm_Ma_bring 24 rfl) rfl (by decide) (fun c42 => ?_) (fun c42 => ?_)
    · have il : i = len := by
        rcases Nat.lt_or_ge i len with q | q
        · exact absurd c42 (Int32.not_le.mpr (nI_lt q (by omega)))
        · omega
      subst il
      refine gi_iload_n (q := 70) (i := 2) C (dm_Ma_bring 37 rfl) rfl rfl rfl ?_
      refine gi_iret C hr (dm_Ma_bring 38 rfl) ?_
      rw [show givV G j z.hp = nI (z.hp.c + 1) from by
        unfold givV
        rw [if_neg k0, if_pos g1], show givH G j z.hp = hGiv z.hp i i (fun i => G 3 (200 * j + i)) from by
        unfold givH
        rw [if_pos g1, ey, nI_clamp (by omega)]]
      exact ⟨rfl, rfl, F, J, Y, R⟩
    · have il : i < len := by
        rcases Nat.lt_or_ge i len with q | q
        · exact q
        · exact absurd (nI_le q (by omega)) c42
      refine gi_aload_n (q := 46) (i := 0) C (dm_Ma_bring 25 rfl) rfl rfl rfl ?_
      refine gi_get (q := 49) C (dm_Ma_bring 26 rfl) rfl fl_Ma_18 Y.ob rfl ?_
      refine gi_iload_n (q := 50) (i := 2) C (dm_Ma_bring 27 rfl) rfl rfl rfl ?_
      refine gi_iload_n (q := 51) (i := 3) C (dm_Ma_bring 28 rfl) rfl rfl rfl ?_
      refine gi_aload_n (q := 52) (i := 0) C (dm_Ma_bring 29 rfl) rfl rfl rfl ?_
      refine gi_get (q := 55) C (dm_Ma_bring 30 rfl) rfl fl_Ma_54 Y.ob rfl ?_
      refine gi_iload_n (q := 56) (i := 1) C (dm_Ma_bring 31 rfl) rfl rfl rfl ?_
      refine gi_iload_n (q := 57) (i := 3) C (dm_Ma_bring 32 rfl) rfl rfl rfl ?_
      refine gi_callv 2 (q := 60) C (dm_Ma_bring 33 rfl) rfl my_Gi_intAt lk_Ma_125 im_Gi_intAt rfl (c_Gi_intAt (i := i) (len := len) hj g1 ey yl il hc hS (gv_keep HG (fun b b1 b2 => Y.ou b (by omega)))) (gv_keep HG (fun b b1 b2 => Y.ou b (by omega))).1 rfl rfl ⟨(Nat.le_of_ble_eq_true rfl), (Nat.le_of_ble_eq_true rfl)⟩ (Nat.le_of_ble_eq_true rfl) ⟨(Nat.le_of_ble_eq_true rfl), (Nat.le_of_ble_eq_true rfl)⟩ (fun r57 n57 h57 e57 => ?_)
      obtain ⟨rfl, q57, u57⟩ := e57
      rw [q57, u57]
      refine gi_callv 3 (q := 63) C (dm_Ma_bring 34 rfl) rfl my_He_set lk_Ma_128 im_He_set rfl (c_He_set (r := z.hp.c + 1) (nI i) (G 3 (200 * j + i)) (by omega) (Nat.le_refl (z.hp.c + 1)) (nI_le (a := 0) (Nat.zero_le _) (by omega)) (by show nI i < nI (upO z.hp.ln (z.hp.c + 1) len (z.hp.c + 1)); rw [upO_self]; exact nI_lt il (by omega)) Y.he) (Y.he).choose_spec.choose_spec.1.1 rfl rfl ⟨(Nat.le_of_ble_eq_true rfl), (Nat.le_of_ble_eq_true rfl)⟩ (Nat.le_of_ble_eq_true rfl) ⟨(Nat.le_of_ble_eq_true rfl), (Nat.le_of_ble_eq_true rfl)⟩ (fun r60 n60 h60 e60 => ?_)
      obtain ⟨rfl, rfl, b4, b5⟩ := e60
      rw [nI_clamp (show i < 2 ^ 31 by omega)] at b4
      have Y2 := Y.sH b4 b5
      rw [show hSet (hGiv z.hp len i (fun i => G 3 (200 * j + i))) (z.hp.c + 1) i (G 3 (200 * j + i)) = hGiv z.hp len (i + 1) (fun i => G 3 (200 * j + i)) from hGiv_s] at Y2
      refine gi_iinc (q := 66) (v := 1) C (dm_Ma_bring 35 rfl) rfl rfl (by decide) (Nat.le_of_ble_eq_true rfl) ?_
      refine gi_goto (tgt := 33) C (dm_Ma_bring 36 rfl) (by decide) ?_
      refine gi_close (ih (i + 1) _ ⟨il, Y2⟩ (by omega)) (List.forall_mem_cons.mpr ⟨(by simp [gi_look, nI_1]), List.forall_mem_cons.mpr ⟨rfl, List.forall_mem_cons.mpr ⟨rfl, List.forall_mem_cons.mpr ⟨rfl, fun _ h => absurd h List.not_mem_nil⟩⟩⟩⟩) rfl rfl rfl
  · refine gi_iconst (q := 13) (v := 0) C (dm_Ma_bring 6 rfl) rfl (by decide) ?_
    refine gi_iret C hr (dm_Ma_bring 7 rfl) ?_
    rw [show givV G j z.hp = 0 from by
      unfold givV
      rw [if_neg k0, if_neg c9], show givH G j z.hp = z.hp from by
      unfold givH
      rw [if_neg c9]]
    exact ⟨rfl, rfl, Hw⟩
set_option maxHeartbeats 4000000 in
set_option maxRecDepth 100000 in
theorem c_Ma_begin {m : Nat} (hm : m < k) (ec : pN P 1 m = c) (hc : c ≤ 3) (hS : S 0 = nI c) (HG : gv_at gv S G h0) (dg : gv + 4 ≤ a) (hL : gvL c G) (E : EN a pr bu fa k P sn wd Fc Φ h0) (Q : MO a pr bu fa gv h0 sx tp wr wt st F J H h) : gi_T l V y_Ma_begin b_Ma_begin 3 none 4 91 0 0 [.ref a, .int (nI m)] n h (fun v n' h' => v = none ∧ n' = n ∧ MW a pr bu fa gv h0 (-1) wt (fun j => if j = 3 then (nI m).toInt64 else 0) (begC P G m c) h') := by
  refine gi_enter (by decide) (Nat.le_of_ble_eq_true rfl) ?_
  intro _ _ _ _ _ _ _ _ C hr hnm
  have wm := wf_ar E.hW hm
  refine gi_aload_n (q := 1) (i := 0) C (dm_Ma_begin 0 rfl) rfl rfl rfl ?_
  refine gi_iconst (q := 2) (v := -1) C (dm_Ma_begin 1 rfl) rfl (by decide) ?_
  refine gi_put (q := 5) C (dm_Ma_begin 2 rfl) rfl fl_Ma_9 fp_Ma_0 Q.ob (Nat.le_of_ble_eq_true rfl) rfl rfl ?_
  have Q1 := Q.pO (-1) tp wr wt st
  refine gi_aload_n (q := 6) (i := 0) C (dm_Ma_begin 3 rfl) rfl rfl rfl ?_
  refine gi_iconst (q := 7) (v := 0) C (dm_Ma_begin 4 rfl) rfl (by decide) ?_
  refine gi_put (q := 10) C (dm_Ma_begin 5 rfl) rfl fl_Ma_85 fp_Ma_15 Q1.ob (Nat.le_of_ble_eq_true rfl) rfl rfl ?_
  have Q2 := Q1.pO (-1) tp wr wt 0
  refine gi_aload_n (q := 11) (i := 0) C (dm_Ma_begin 6 rfl) rfl rfl rfl ?_
  refine gi_iconst (q := 12) (v := 0) C (dm_Ma_begin 7 rfl) rfl (by decide) ?_
  refine gi_put (q := 15) C (dm_Ma_begin 8 rfl) rfl fl_Ma_79 fp_Ma_13 Q2.ob (Nat.le_of_ble_eq_true rfl) rfl rfl ?_
  have Q3 := Q2.pO (-1) tp 0 wt 0
  refine gi_aload_n (q := 16) (i := 0) C (dm_Ma_begin 9 rfl) rfl rfl rfl ?_
  refine gi_get (q := 19) C (dm_Ma_begin 10 rfl) rfl fl_Ma_18 Q3.ob rfl ?_
  refine gi_callv 0 (q := 22) C (dm_Ma_begin 11 rfl) rfl my_He_clear lk_Ma_88 im_He_clear rfl (c_He_clear Q3.he) (Q3.he).choose_spec.choose_spec.1.1 rfl rfl ⟨(Nat.le_of_ble_eq_true rfl), (Nat.le_of_ble_eq_true rfl)⟩ (Nat.le_of_ble_eq_true rfl) ⟨(Nat.le_of_ble_eq_true rfl), (Nat.le_of_ble_eq_true rfl)⟩ (fun r19 n19 h19 e19 => ?_)
  obtain ⟨rfl, rfl, b4, b5⟩ := e19
  have Q4 := Q3.sH b4 b5
  refine gi_aload_n (q := 23) (i := 0) C (dm_Ma_begin 12 rfl) rfl rfl rfl ?_
  refine gi_get (q := 26) C (dm_Ma_begin 13 rfl) rfl fl_Ma_26 Q4.ob rfl ?_
  refine gi_iconst (q := 27) (v := 0) C (dm_Ma_begin 14 rfl) rfl (by decide) ?_
  refine gi_calls 2 (q := 30) C (dm_Ma_begin 15 rfl) rfl my_Ar_fill_0 lk_Ma_91 sm_Ar_fill_0 (c_Ar_fill_0 (kd := 0) (N := 4) (f := F 7) 0 (by decide) rfl Q4.a7) rfl rfl ⟨(Nat.le_of_ble_eq_true rfl), (Nat.le_of_ble_eq_true rfl)⟩ (Nat.le_of_ble_eq_true rfl) ⟨(Nat.le_of_ble_eq_true rfl), (Nat.le_of_ble_eq_true rfl)⟩ (fun r27 n27 h27 e27 => ?_)
  obtain ⟨rfl, q27, u27⟩ := e27
  rw [q27, u27]
  have Q5 := Q4.s7 (filF (F 7) 0 4 0)
  refine gi_aload_n (q := 31) (i := 0) C (dm_Ma_begin 16 rfl) rfl rfl rfl ?_
  refine gi_get (q := 34) C (dm_Ma_begin 17 rfl) rfl fl_Ma_22 Q5.ob rfl ?_
  refine gi_lconst (q := 35) (v := 0) C (dm_Ma_begin 18 rfl) rfl (by decide) ?_
  refine gi_calls 2 (q := 38) C (dm_Ma_begin 19 rfl) rfl my_Ar_fill_1 lk_Ma_97 sm_Ar_fill_1 (c_Ar_fill_1 (kd := 2) (N := 8) (f := J) 0 (by decide) rfl Q5.a6) rfl rfl ⟨(Nat.le_of_ble_eq_true rfl), (Nat.le_of_ble_eq_true rfl)⟩ (Nat.le_of_ble_eq_true rfl) ⟨(Nat.le_of_ble_eq_true rfl), (Nat.le_of_ble_eq_true rfl)⟩ (fun r35 n35 h35 e35 => ?_)
  obtain ⟨rfl, q35, u35⟩ := e35
  rw [q35, u35]
  have Q6 := Q5.sJ (filF J 0 8 0)
  refine gi_aload_n (q := 39) (i := 0) C (dm_Ma_begin 20 rfl) rfl rfl rfl ?_
  refine gi_get (q := 42) C (dm_Ma_begin 21 rfl) rfl fl_Ma_22 Q6.ob rfl ?_
  refine gi_iconst (q := 43) (v := 3) C (dm_Ma_begin 22 rfl) rfl (by decide) ?_
  refine gi_iload_n (q := 44) (i := 1) C (dm_Ma_begin 23 rfl) rfl rfl rfl ?_
  refine gi_i2l (q := 45) C (dm_Ma_begin 24 rfl) rfl ?_
  refine gi_last (q := 46) C (dm_Ma_begin 25 rfl) rfl rfl Q6.a6 (inN (show 3 < 8 by decide) (by decide)) ?_
  have Q7 := Q6.sJ (vp_updL (filF J 0 8 0) 3 (nI m).toInt64)
  refine gi_aload_n (q := 47) (i := 0) C (dm_Ma_begin 26 rfl) rfl rfl rfl ?_
  refine gi_iconst (q := 48) (v := -1) C (dm_Ma_begin 27 rfl) rfl (by decide) ?_
  refine gi_put (q := 51) C (dm_Ma_begin 28 rfl) rfl fl_Ma_72 fp_Ma_12 Q7.ob (Nat.le_of_ble_eq_true rfl) rfl rfl ?_
  have Q8 := Q7.pO (-1) (-1) 0 wt 0
  refine gi_aload_n (q := 52) (i := 0) C (dm_Ma_begin 29 rfl) rfl rfl rfl ?_
  refine gi_iload_n (q := 53) (i := 1) C (dm_Ma_begin 30 rfl) rfl rfl rfl ?_
  refine gi_callv 1 (q := 56) C (dm_Ma_begin 31 rfl) rfl my_Ma_openFrame lk_Ma_100 im_Ma_openFrame rfl (c_Ma_openFrame 0 m 0 hm rfl (by decide) (by rw [updL_is, if_neg (by decide)]; rfl) (by decide) E Q8) Q8.ob rfl rfl ⟨(Nat.le_of_ble_eq_true rfl), (Nat.le_of_ble_eq_true rfl)⟩ (Nat.le_of_ble_eq_true rfl) ⟨(Nat.le_of_ble_eq_true rfl), (Nat.le_of_ble_eq_true rfl)⟩ (fun r53 n53 h53 e53 => ?_)
  obtain ⟨rfl, e53⟩ := e53
  rcases e53 with ⟨b1, -, -⟩ | ⟨-, rfl, F9, Q9, o1, o2, o3, o4, o5, o6, o7⟩
  · exact absurd b1 (by decide)
  refine gi_pop (q := 57) C (dm_Ma_begin 32 rfl) rfl rfl ?_
  refine gi_iconst (q := 58) (v := 0) C (dm_Ma_begin 33 rfl) rfl (by decide) ?_
  refine gi_istore_n (q := 59) (i := 2) C (dm_Ma_begin 34 rfl) rfl rfl (Nat.le_of_ble_eq_true rfl) ?_
  have hw0 : MW a pr bu fa gv h0 (-1) wt (fun j => if j = 3 then (nI m).toInt64 else 0) (begC P G m 0) h53 := by
    refine ⟨F9, _, ⟨Q9.ob, Q9.he.ext rfl rfl (fun r r1 r2 => absurd r2 (by show ¬ r ≤ 0; omega)) (fun i hi => absurd hi (Nat.not_lt_zero _)), Q9.a6, Q9.a7, Q9.a8, Q9.a9, Q9.a10, Q9.a11, Q9.ou⟩, show 0 < 16 by decide, ?_, ?_, show 1 ≤ 16 by decide, fun j j8 j0 j5 => ?_, fun j j4 => ?_, fun t ht => ?_⟩
    · rw [updL_is, if_neg (by decide), updL_is, if_neg (by decide)]
      unfold filF
      rw [if_pos (by decide)]
      rfl
    · rw [updL_is, if_pos rfl]
      rfl
    · rw [updL_is, if_neg j5, updL_is]
      show _ = if j = 3 then (nI m).toInt64 else 0
      by_cases q : j = 3
      · rw [if_pos q, if_pos q]
      · rw [if_neg q, if_neg q]
        unfold filF
        rw [if_pos (by omega)]
    · rw [o1]
      show filF (F 7) 0 4 0 j = 0
      unfold filF
      rw [if_pos (by omega)]
    · have ht : t ≤ 0 := ht
      have t0 : t = 0 := by omega
      subst t0
      exact ⟨o2, o3, o4, by show pN P 2 m ≤ 14; omega, fun j hj => o5 j (by have : j < pN P 2 m := hj; omega)⟩
  refine gi_while (σ := Nat) (fun j => c - j) (fun j => [(2, .int (nI j)), (0, .ref a), (1, .int (nI m))]) (fun _ => n53) (fun _ => 0) (fun _ => 0) (fun j y' => j ≤ c ∧ MW a pr bu fa gv h0 (-1) wt (fun j => if j = 3 then (nI m).toInt64 else 0) (begC P G m j) y') 0 ⟨Nat.zero_le _, hw0⟩ ?_ (List.forall_mem_cons.mpr ⟨rfl, List.forall_mem_cons.mpr ⟨rfl, List.forall_mem_cons.mpr ⟨rfl, fun _ h => absurd h List.not_mem_nil⟩⟩⟩) rfl rfl rfl
  rintro j y' ⟨hjc, Yw⟩ ih
  try dsimp only at *
  obtain ⟨Fy, Jy, Yq, Yr⟩ := id Yw
  refine gi_iload_n (q := 60) (i := 2) C (dm_Ma_begin 35 rfl) rfl rfl rfl ?_
  refine gi_aload_n (q := 61) (i := 0) C (dm_Ma_begin 36 rfl) rfl rfl rfl ?_
  refine gi_get (q := 64) C (dm_Ma_begin 37 rfl) rfl fl_Ma_42 Yq.ob rfl ?_
  refine gi_iload_n (q := 65) (i := 1) C (dm_Ma_begin 38 rfl) rfl rfl rfl ?_
  refine gi_callv 1 (q := 68) C (dm_Ma_begin 39 rfl) rfl my_Pr_argumentsOf lk_Ma_104 im_Pr_argumentsOf rfl (q_args E.hW hm (E.hP Yq.ou)) (E.hP Yq.ou).1 rfl rfl ⟨(Nat.le_of_ble_eq_true rfl), (Nat.le_of_ble_eq_true rfl)⟩ (Nat.le_of_ble_eq_true rfl) ⟨(Nat.le_of_ble_eq_true rfl), (Nat.le_of_ble_eq_true rfl)⟩ (fun r65 n65 h65 e65 => ?_)
  obtain ⟨rfl, q65, u65⟩ := e65
  rw [q65, u65]
  rw [ec]
  refine gi_icmp_ge (q := 71) (tgt := 110) C (dm_Ma_begin 40 rfl) rfl (by decide) (fun c68 => ?_) (fun c68 => ?_)
  · have jc : j = c := by
      rcases Nat.lt_or_ge j c with q | q
      · exact absurd c68 (Int32.not_le.mpr (nI_lt q (by omega)))
      · omega
    subst jc
    refine gi_vret C hr (dm_Ma_begin 60 rfl) ?_
    exact ⟨rfl, rfl, Yw⟩
  · have jc : j < c := by
      rcases Nat.lt_or_ge j c with q | q
      · exact q
      · exact absurd (nI_le q (by omega)) c68
    have bb := beg_b hL j (by omega)
    refine gi_aload_n (q := 72) (i := 0) C (dm_Ma_begin 41 rfl) rfl rfl rfl ?_
    refine gi_get (q := 75) C (dm_Ma_begin 42 rfl) rfl fl_Ma_30 Yq.ob rfl ?_
    refine gi_iload_n (q := 76) (i := 2) C (dm_Ma_begin 43 rfl) rfl rfl rfl ?_
    refine gi_aload_n (q := 77) (i := 0) C (dm_Ma_begin 44 rfl) rfl rfl rfl ?_
    refine gi_get (q := 80) C (dm_Ma_begin 45 rfl) rfl fl_Ma_54 Yq.ob rfl ?_
    refine gi_iload_n (q := 81) (i := 2) C (dm_Ma_begin 46 rfl) rfl rfl rfl ?_
    refine gi_callv 1 (q := 84) C (dm_Ma_begin 47 rfl) rfl my_Gi_kindOf lk_Ma_110 im_Gi_kindOf rfl (c_Gi_kindOf jc hc hS (gv_keep HG (fun b b1 b2 => Yq.ou b (by omega)))) (gv_keep HG (fun b b1 b2 => Yq.ou b (by omega))).1 rfl rfl ⟨(Nat.le_of_ble_eq_true rfl), (Nat.le_of_ble_eq_true rfl)⟩ (Nat.le_of_ble_eq_true rfl) ⟨(Nat.le_of_ble_eq_true rfl), (Nat.le_of_ble_eq_true rfl)⟩ (fun r81 n81 h81 e81 => ?_)
    obtain ⟨rfl, q81, u81⟩ := e81
    rw [q81, u81]
    refine gi_if_ne (q := 87) (tgt := 98) C (dm_Ma_begin 48 rfl) rfl (by decide) (fun c84 => ?_) (fun c84 => ?_)
    · skip
      refine gi_aload_n (q := 99) (i := 0) C (dm_Ma_begin 54 rfl) rfl rfl rfl ?_
      refine gi_iload_n (q := 100) (i := 2) C (dm_Ma_begin 55 rfl) rfl rfl rfl ?_
      refine gi_callv 1 (q := 103) C (dm_Ma_begin 56 rfl) rfl my_Ma_bring lk_Ma_118 im_Ma_bring rfl (c_Ma_bring (z := begC P G m j) jc c84 (by show (begG G j).2.c ≤ 3; omega) (by show (begG G j).2.u ≤ 600; omega) hc hS HG dg hL Yw) Yq.ob rfl rfl ⟨(Nat.le_of_ble_eq_true rfl), (Nat.le_of_ble_eq_true rfl)⟩ (Nat.le_of_ble_eq_true rfl) ⟨(Nat.le_of_ble_eq_true rfl), (Nat.le_of_ble_eq_true rfl)⟩ (fun r100 n100 h100 e100 => ?_)
      obtain ⟨rfl, rfl, W100⟩ := e100
      obtain ⟨F100, J100, Q100, R100⟩ := id W100
      refine gi_iast (q := 104) C (dm_Ma_begin 57 rfl) rfl rfl Q100.a8 (inN (show j < 224 by omega) (by decide)) ?_
      rw [nI_clamp (show j < 2 ^ 31 by omega)]
      refine gi_iinc (q := 107) (v := 1) C (dm_Ma_begin 58 rfl) rfl rfl (by decide) (Nat.le_of_ble_eq_true rfl) ?_
      refine gi_goto (tgt := 59) C (dm_Ma_begin 59 rfl) (by decide) ?_
      have WL := MW.loc (z := hpZ (begC P G m j) (givH G j (begG G j).2)) (b := j) (v := givV G j (begG G j).2) (by show j < pN P 2 m; omega) Q100 R100
      rw [show 14 * (hpZ (begC P G m j) (givH G j (begG G j).2)).top + j = j from by show 14 * 0 + j = j; omega] at WL
      refine gi_close (ih (j + 1) _ ⟨jc, MW.ext WL rfl rfl rfl rfl rfl rfl (fun _ _ => rfl) (fun t ht => ?_)⟩ (by omega)) (List.forall_mem_cons.mpr ⟨(by simp [gi_look, nI_1]), List.forall_mem_cons.mpr ⟨rfl, List.forall_mem_cons.mpr ⟨rfl, fun _ h => absurd h List.not_mem_nil⟩⟩⟩) rfl rfl rfl
      have ht : t ≤ 0 := ht
      have t0 : t = 0 := by omega
      subst t0
      refine Eq.trans ?_ (cur_loc (hpZ (begC P G m j) (givH G j (begG G j).2)) j (givV G j (begG G j).2)).symm
      show mkF m 0 (pN P 2 m) (upO (begG G j).1 j (givV G j (begG G j).2)) = mkF m 0 (pN P 2 m) (upO (begG G j).1 j (givV G j (begG G j).2))
      rfl
    · refine gi_aload_n (q := 88) (i := 0) C (dm_Ma_begin 49 rfl) rfl rfl rfl ?_
      refine gi_get (q := 91) C (dm_Ma_begin 50 rfl) rfl fl_Ma_54 Yq.ob rfl ?_
      refine gi_iload_n (q := 92) (i := 2) C (dm_Ma_begin 51 rfl) rfl rfl rfl ?_
      refine gi_callv 1 (q := 95) C (dm_Ma_begin 52 rfl) rfl my_Gi_valueOf lk_Ma_115 im_Gi_valueOf rfl (c_Gi_valueOf jc hc hS (gv_keep HG (fun b b1 b2 => Yq.ou b (by omega)))) (gv_keep HG (fun b b1 b2 => Yq.ou b (by omega))).1 rfl rfl ⟨(Nat.le_of_ble_eq_true rfl), (Nat.le_of_ble_eq_true rfl)⟩ (Nat.le_of_ble_eq_true rfl) ⟨(Nat.le_of_ble_eq_true rfl), (Nat.le_of_ble_eq_true rfl)⟩ (fun r92 n92 h92 e92 => ?_)
      obtain ⟨rfl, q92, u92⟩ := e92
      rw [q92, u92]
      refine gi_goto (tgt := 103) C (dm_Ma_begin 53 rfl) (by decide) ?_
      refine gi_iast (q := 104) C (dm_Ma_begin 57 rfl) rfl rfl Yq.a8 (inN (show j < 224 by omega) (by decide)) ?_
      rw [nI_clamp (show j < 2 ^ 31 by omega)]
      refine gi_iinc (q := 107) (v := 1) C (dm_Ma_begin 58 rfl) rfl rfl (by decide) (Nat.le_of_ble_eq_true rfl) ?_
      refine gi_goto (tgt := 59) C (dm_Ma_begin 59 rfl) (by decide) ?_
      have WL := MW.loc (z := begC P G m j) (b := j) (v := G 2 j) (by show j < pN P 2 m; omega) Yq Yr
      rw [show 14 * (begC P G m j).top + j = j from by show 14 * 0 + j = j; omega] at WL
      refine gi_close (ih (j + 1) _ ⟨jc, MW.ext WL rfl rfl rfl (by show givH G j (begG G j).2 = (begG G j).2; unfold givH; rw [if_neg (by rw [c84]; decide)]) rfl rfl (fun _ _ => rfl) (fun t ht => ?_)⟩ (by omega)) (List.forall_mem_cons.mpr ⟨(by simp [gi_look, nI_1]), List.forall_mem_cons.mpr ⟨rfl, List.forall_mem_cons.mpr ⟨rfl, fun _ h => absurd h List.not_mem_nil⟩⟩⟩) rfl rfl rfl
      have ht : t ≤ 0 := ht
      have t0 : t = 0 := by omega
      subst t0
      refine Eq.trans ?_ (cur_loc (begC P G m j) j (G 2 j)).symm
      show mkF m 0 (pN P 2 m) (upO (begG G j).1 j (givV G j (begG G j).2)) = mkF m 0 (pN P 2 m) (upO (begG G j).1 j (G 2 j))
      rw [show givV G j (begG G j).2 = G 2 j from by
        unfold givV
        rw [if_pos c84]]
end MA9
