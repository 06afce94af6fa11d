-- needs: 89.32
section MA1
variable {l : Launch} {V : gi_V} {n : Nat} {h h' h0 : gi_H} {a pr bu fa gv : Nat} {sx tp wr wt st : Int32} {F : Nat → Nat → Int32} {J Jx : Nat → Int64} {H : Hp} {z : Mc}
/-! the machine's block -/
def outMa (a : Nat) (h h' : gi_H) : Prop := ∀ b, b < a ∨ a + 12 ≤ b → h' b = h b
def MO (a pr bu fa gv : Nat) (h0 : gi_H) (sx tp wr wt st : Int32) (F : Nat → Nat → Int32) (J : Nat → Int64) (H : Hp) (h : gi_H) : Prop := h a = some (gi_O 10 [.int sx, .ref pr, .ref bu, .ref fa, .ref gv, .ref (a + 1), .ref (a + 6), .ref (a + 7), .ref (a + 8), .ref (a + 9), .ref (a + 10), .ref (a + 11), .int tp, .int wr, .int wt, .int st]) ∧ heW (a + 1) H h ∧ h (a + 6) = some (gi_J 2 8 J) ∧ h (a + 7) = some (gi_I 0 4 (F 7)) ∧ h (a + 8) = some (gi_I 0 224 (F 8)) ∧ h (a + 9) = some (gi_I 0 16 (F 9)) ∧ h (a + 10) = some (gi_I 0 16 (F 10)) ∧ h (a + 11) = some (gi_I 0 16 (F 11)) ∧ outMa a h0 h
theorem MO.pO (P : MO a pr bu fa gv h0 sx tp wr wt st F J H h) (sx' tp' wr' wt' st' : Int32) : MO a pr bu fa gv h0 sx' tp' wr' wt' st' F J H (gi_up h a (gi_O 10 [.int sx', .ref pr, .ref bu, .ref fa, .ref gv, .ref (a + 1), .ref (a + 6), .ref (a + 7), .ref (a + 8), .ref (a + 9), .ref (a + 10), .ref (a + 11), .int tp', .int wr', .int wt', .int st'])) := by
  obtain ⟨p0, pH, p6, p7, p8, p9, p10, p11, po⟩ := P
  exact ⟨gi_up_self _ _ _, pH.keep (fun b _ _ => gi_up_ne (by omega)), (gi_up_ne (by omega)).trans p6, (gi_up_ne (by omega)).trans p7, (gi_up_ne (by omega)).trans p8, (gi_up_ne (by omega)).trans p9, (gi_up_ne (by omega)).trans p10, (gi_up_ne (by omega)).trans p11, fun b hb => by rw [gi_up_ne (by omega)]; exact po b hb⟩
theorem MO.sJ (P : MO a pr bu fa gv h0 sx tp wr wt st F J H h) (J' : Nat → Int64) : MO a pr bu fa gv h0 sx tp wr wt st F J' H (gi_up h (a + 6) (gi_J 2 8 J')) := by
  obtain ⟨p0, pH, p6, p7, p8, p9, p10, p11, po⟩ := P
  exact ⟨(gi_up_ne (by omega)).trans p0, pH.keep (fun b _ _ => gi_up_ne (by omega)), gi_up_self _ _ _, (gi_up_ne (by omega)).trans p7, (gi_up_ne (by omega)).trans p8, (gi_up_ne (by omega)).trans p9, (gi_up_ne (by omega)).trans p10, (gi_up_ne (by omega)).trans p11, fun b hb => by rw [gi_up_ne (by omega)]; exact po b hb⟩
theorem MO.s7 (P : MO a pr bu fa gv h0 sx tp wr wt st F J H h) (g : Nat → Int32) : MO a pr bu fa gv h0 sx tp wr wt st (upA F 7 g) J H (gi_up h (a + 7) (gi_I 0 4 g)) := by
  obtain ⟨p0, pH, p6, p7, p8, p9, p10, p11, po⟩ := P
  exact ⟨(gi_up_ne (by omega)).trans p0, pH.keep (fun b _ _ => gi_up_ne (by omega)), (gi_up_ne (by omega)).trans p6, gi_up_self _ _ _, (gi_up_ne (by omega)).trans p8, (gi_up_ne (by omega)).trans p9, (gi_up_ne (by omega)).trans p10, (gi_up_ne (by omega)).trans p11, fun b hb => by rw [gi_up_ne (by omega)]; exact po b hb⟩
theorem MO.s8 (P : MO a pr bu fa gv h0 sx tp wr wt st F J H h) (g : Nat → Int32) : MO a pr bu fa gv h0 sx tp wr wt st (upA F 8 g) J H (gi_up h (a + 8) (gi_I 0 224 g)) := by
  obtain ⟨p0, pH, p6, p7, p8, p9, p10, p11, po⟩ := P
  exact ⟨(gi_up_ne (by omega)).trans p0, pH.keep (fun b _ _ => gi_up_ne (by omega)), (gi_up_ne (by omega)).trans p6, (gi_up_ne (by omega)).trans p7, gi_up_self _ _ _, (gi_up_ne (by omega)).trans p9, (gi_up_ne (by omega)).trans p10, (gi_up_ne (by omega)).trans p11, fun b hb => by rw [gi_up_ne (by omega)]; exact po b hb⟩
theorem MO.s9 (P : MO a pr bu fa gv h0 sx tp wr wt st F J H h) (g : Nat → Int32) : MO a pr bu fa gv h0 sx tp wr wt st (upA F 9 g) J H (gi_up h (a + 9) (gi_I 0 16 g)) := by
  obtain ⟨p0, pH, p6, p7, p8, p9, p10, p11, po⟩ := P
  exact ⟨(gi_up_ne (by omega)).trans p0, pH.keep (fun b _ _ => gi_up_ne (by omega)), (gi_up_ne (by omega)).trans p6, (gi_up_ne (by omega)).trans p7, (gi_up_ne (by omega)).trans p8, gi_up_self _ _ _, (gi_up_ne (by omega)).trans p10, (gi_up_ne (by omega)).trans p11, fun b hb => by rw [gi_up_ne (by omega)]; exact po b hb⟩
theorem MO.s10 (P : MO a pr bu fa gv h0 sx tp wr wt st F J H h) (g : Nat → Int32) : MO a pr bu fa gv h0 sx tp wr wt st (upA F 10 g) J H (gi_up h (a + 10) (gi_I 0 16 g)) := by
  obtain ⟨p0, pH, p6, p7, p8, p9, p10, p11, po⟩ := P
  exact ⟨(gi_up_ne (by omega)).trans p0, pH.keep (fun b _ _ => gi_up_ne (by omega)), (gi_up_ne (by omega)).trans p6, (gi_up_ne (by omega)).trans p7, (gi_up_ne (by omega)).trans p8, (gi_up_ne (by omega)).trans p9, gi_up_self _ _ _, (gi_up_ne (by omega)).trans p11, fun b hb => by rw [gi_up_ne (by omega)]; exact po b hb⟩
theorem MO.s11 (P : MO a pr bu fa gv h0 sx tp wr wt st F J H h) (g : Nat → Int32) : MO a pr bu fa gv h0 sx tp wr wt st (upA F 11 g) J H (gi_up h (a + 11) (gi_I 0 16 g)) := by
  obtain ⟨p0, pH, p6, p7, p8, p9, p10, p11, po⟩ := P
  exact ⟨(gi_up_ne (by omega)).trans p0, pH.keep (fun b _ _ => gi_up_ne (by omega)), (gi_up_ne (by omega)).trans p6, (gi_up_ne (by omega)).trans p7, (gi_up_ne (by omega)).trans p8, (gi_up_ne (by omega)).trans p9, (gi_up_ne (by omega)).trans p10, gi_up_self _ _ _, fun b hb => by rw [gi_up_ne (by omega)]; exact po b hb⟩
theorem MO.sH (P : MO a pr bu fa gv h0 sx tp wr wt st F J H h) {H' : Hp} (Q : heW (a + 1) H' h') (qo : outH (a + 1) h h') : MO a pr bu fa gv h0 sx tp wr wt st F J H' h' := by
  obtain ⟨p0, pH, p6, p7, p8, p9, p10, p11, po⟩ := P
  exact ⟨(qo _ (by omega)).trans p0, Q, (qo _ (by omega)).trans p6, (qo _ (by omega)).trans p7, (qo _ (by omega)).trans p8, (qo _ (by omega)).trans p9, (qo _ (by omega)).trans p10, (qo _ (by omega)).trans p11, fun b hb => by rw [qo b (by omega)]; exact po b hb⟩
theorem MO.ext (P : MO a pr bu fa gv h0 sx tp wr wt st F J H h) (ho : ∀ b, a ≤ b → b < a + 12 → h' b = h b) : MO a pr bu fa gv h' sx tp wr wt st F J H h' := by
  obtain ⟨p0, pH, p6, p7, p8, p9, p10, p11, po⟩ := P
  exact ⟨(ho _ (by omega) (by omega)).trans p0, pH.keep (fun b b1 b2 => ho b (by omega) (by omega)), (ho _ (by omega) (by omega)).trans p6, (ho _ (by omega) (by omega)).trans p7, (ho _ (by omega) (by omega)).trans p8, (ho _ (by omega) (by omega)).trans p9, (ho _ (by omega) (by omega)).trans p10, (ho _ (by omega) (by omega)).trans p11, fun _ _ => rfl⟩
theorem MO.ob (P : MO a pr bu fa gv h0 sx tp wr wt st F J H h) : h a = some (gi_O 10 [.int sx, .ref pr, .ref bu, .ref fa, .ref gv, .ref (a + 1), .ref (a + 6), .ref (a + 7), .ref (a + 8), .ref (a + 9), .ref (a + 10), .ref (a + 11), .int tp, .int wr, .int wt, .int st]) := P.1
theorem MO.he (P : MO a pr bu fa gv h0 sx tp wr wt st F J H h) : heW (a + 1) H h := P.2.1
theorem MO.a6 (P : MO a pr bu fa gv h0 sx tp wr wt st F J H h) : h (a + 6) = some (gi_J 2 8 J) := P.2.2.1
theorem MO.a7 (P : MO a pr bu fa gv h0 sx tp wr wt st F J H h) : h (a + 7) = some (gi_I 0 4 (F 7)) := P.2.2.2.1
theorem MO.a8 (P : MO a pr bu fa gv h0 sx tp wr wt st F J H h) : h (a + 8) = some (gi_I 0 224 (F 8)) := P.2.2.2.2.1
theorem MO.a9 (P : MO a pr bu fa gv h0 sx tp wr wt st F J H h) : h (a + 9) = some (gi_I 0 16 (F 9)) := P.2.2.2.2.2.1
theorem MO.a10 (P : MO a pr bu fa gv h0 sx tp wr wt st F J H h) : h (a + 10) = some (gi_I 0 16 (F 10)) := P.2.2.2.2.2.2.1
theorem MO.a11 (P : MO a pr bu fa gv h0 sx tp wr wt st F J H h) : h (a + 11) = some (gi_I 0 16 (F 11)) := P.2.2.2.2.2.2.2.1
theorem MO.ou (P : MO a pr bu fa gv h0 sx tp wr wt st F J H h) : outMa a h0 h := P.2.2.2.2.2.2.2.2
/-! how it tells of a machine -/
def frR (t : Nat) (f : Fr) (F : Nat → Nat → Int32) : Prop := F 10 t = nI f.m ∧ F 11 t = nI f.i ∧ F 9 t = nI f.n ∧ f.n ≤ 14 ∧ ∀ j, j < f.n → F 8 (14 * t + j) = f.s j
def MR (z : Mc) (F : Nat → Nat → Int32) (J Jx : Nat → Int64) : Prop := z.top < 16 ∧ J 0 = z.gv ∧ J 5 = eL z.dp ∧ z.dp ≤ 16 ∧ (∀ j, j < 8 → j ≠ 0 → j ≠ 5 → J j = Jx j) ∧ (∀ j, j < 4 → F 7 j = z.fd j) ∧ ∀ t, t ≤ z.top → frR t (z.fr t) F
def MW (a pr bu fa gv : Nat) (h0 : gi_H) (sx wt : Int32) (Jx : Nat → Int64) (z : Mc) (h : gi_H) : Prop := ∃ F J, MO a pr bu fa gv h0 sx (nI z.top) z.wr wt (bI z.as) F J z.hp h ∧ MR z F J Jx
/-! what the changes leave -/
theorem cur_set (z : Mc) (f : Fr) : (setF z f).cur = f := upO_self
theorem cur_pop (z : Mc) : (popZ z).cur = mkF z.cur.m z.cur.i (z.cur.n - 1) z.cur.s := upO_self
theorem cur_psh (z : Mc) (v : Int32) : (pshZ z v).cur = mkF z.cur.m z.cur.i (z.cur.n + 1) (upO z.cur.s z.cur.n v) := upO_self
theorem cur_loc (z : Mc) (b : Nat) (v : Int32) : (locZ z b v).cur = mkF z.cur.m z.cur.i z.cur.n (upO z.cur.s b v) := upO_self
theorem cur_got (z : Mc) (t : Nat) : (gotZ z t).cur = mkF z.cur.m t z.cur.n z.cur.s := upO_self
/-- the top frame is another one -/
theorem MR.fr (R : MR z F J Jx) {f : Fr} {F' : Nat → Nat → Int32} (h7 : F' 7 = F 7) (hf : frR z.top f F') (ho : ∀ t, t < z.top → F' 10 t = F 10 t ∧ F' 11 t = F 11 t ∧ F' 9 t = F 9 t ∧ ∀ j, j < 14 → F' 8 (14 * t + j) = F 8 (14 * t + j)) : MR (setF z f) F' J Jx := by
  obtain ⟨r1, r2, r3, r4, r5, r6, r7⟩ := R
  refine ⟨r1, r2, r3, r4, r5, fun j hj => by rw [h7]; exact r6 j hj, fun t ht => ?_⟩
  show frR t (upO z.fr z.top f t) F'
  have ht : t ≤ z.top := ht
  by_cases q : t = z.top
  · rw [q, upO_self]
    exact hf
  · rw [upO_ne q]
    obtain ⟨o1, o2, o3, o4⟩ := ho t (by omega)
    obtain ⟨s1, s2, s3, s4, s5⟩ := r7 t ht
    exact ⟨o1.trans s1, o2.trans s2, o3.trans s3, s4, fun j hj => (o4 j (by omega)).trans (s5 j hj)⟩
theorem MR.cur (R : MR z F J Jx) : frR z.top z.cur F := R.2.2.2.2.2.2 z.top (Nat.le_refl _)
theorem in16 {t : Nat} (h : t < 16) : vp_in (nI t) 16 := in_nI (k := 16) (nI_le (a := 0) (Nat.zero_le _) (by omega)) (nI_lt h (by decide)) (Nat.le_refl _) (by decide)
theorem inN {t N : Nat} (h : t < N) (h31 : N < 2 ^ 31) : vp_in (nI t) N := in_nI (k := N) (nI_le (a := 0) (Nat.zero_le _) (by omega)) (nI_lt h h31) (Nat.le_refl _) h31
theorem upA_i {α : Type} {F : Nat → Nat → α} {k : Nat} {g : Nat → α} : upA F k g k = g := by simp [upA]
theorem upA_n {α : Type} {F : Nat → Nat → α} {k j : Nat} {g : Nat → α} (h : j ≠ k) : upA F k g j = F j := by simp [upA, h]
theorem nI_ml (a b : Nat) : nI a * nI b = nI (a * b) := by
  apply Int32.toBitVec_inj.mp
  show BitVec.ofNat 32 a * BitVec.ofNat 32 b = BitVec.ofNat 32 (a * b)
  rw [BitVec.ofNat_mul]
set_option maxHeartbeats 4000000 in
set_option maxRecDepth 100000 in
theorem c_Ma_pop (hn : 1 ≤ z.cur.n) (Hw : MW a pr bu fa gv h0 sx wt Jx z h) : gi_T l V y_Ma_pop b_Ma_pop 1 (some .int) 0 0 0 0 [.ref a] n h (fun v n' h' => v = some (.int (topV z)) ∧ n' = n ∧ MW a pr bu fa gv h0 sx wt Jx (popZ z) h') := by
  refine gi_enter (by decide) (Nat.le_of_ble_eq_true rfl) ?_
  intro _ _ _ _ _ _ _ _ C hr hnm
  obtain ⟨F, J, Q, R⟩ := id Hw
  have t16 := R.1
  obtain ⟨r1, r2, r3, r4, r5⟩ := R.cur
  refine gi_aload_n (q := 1) (i := 0) C (dm_Ma_pop 0 rfl) rfl rfl rfl ?_
  refine gi_get (q := 4) C (dm_Ma_pop 1 rfl) rfl fl_Ma_33 Q.ob rfl ?_
  refine gi_aload_n (q := 5) (i := 0) C (dm_Ma_pop 2 rfl) rfl rfl rfl ?_
  refine gi_get (q := 8) C (dm_Ma_pop 3 rfl) rfl fl_Ma_72 Q.ob rfl ?_
  refine gi_iald (q := 9) C (dm_Ma_pop 4 rfl) rfl rfl Q.a9 (in16 t16) ?_
  rw [nI_clamp (show z.top < 2 ^ 31 by omega)]
  rw [r3]
  refine gi_if_gt (q := 12) (tgt := 14) C (dm_Ma_pop 5 rfl) rfl (by decide) (fun c9 => ?_) (fun c9 => ?_)
  · refine gi_aload_n (q := 15) (i := 0) C (dm_Ma_pop 8 rfl) rfl rfl rfl ?_
    refine gi_get (q := 18) C (dm_Ma_pop 9 rfl) rfl fl_Ma_33 Q.ob rfl ?_
    refine gi_aload_n (q := 19) (i := 0) C (dm_Ma_pop 10 rfl) rfl rfl rfl ?_
    refine gi_get (q := 22) C (dm_Ma_pop 11 rfl) rfl fl_Ma_72 Q.ob rfl ?_
    refine gi_dup2_11 (q := 23) C (dm_Ma_pop 12 rfl) rfl rfl rfl ?_
    refine gi_iald (q := 24) C (dm_Ma_pop 13 rfl) rfl rfl Q.a9 (in16 t16) ?_
    rw [nI_clamp (show z.top < 2 ^ 31 by omega)]
    rw [r3]
    refine gi_iconst (q := 25) (v := 1) C (dm_Ma_pop 14 rfl) rfl (by decide) ?_
    refine gi_isub (q := 26) C (dm_Ma_pop 15 rfl) rfl ?_
    rw [show (1 : Int32) = nI 1 from rfl, nI_sb hn (by omega)]
    refine gi_iast (q := 27) C (dm_Ma_pop 16 rfl) rfl rfl Q.a9 (in16 t16) ?_
    rw [nI_clamp (show z.top < 2 ^ 31 by omega)]
    have Q1 := Q.s9 (upd (F 9) z.top (nI (z.cur.n - 1)))
    refine gi_aload_n (q := 28) (i := 0) C (dm_Ma_pop 17 rfl) rfl rfl rfl ?_
    refine gi_get (q := 31) C (dm_Ma_pop 18 rfl) rfl fl_Ma_30 Q1.ob rfl ?_
    refine gi_aload_n (q := 32) (i := 0) C (dm_Ma_pop 19 rfl) rfl rfl rfl ?_
    refine gi_get (q := 35) C (dm_Ma_pop 20 rfl) rfl fl_Ma_72 Q1.ob rfl ?_
    refine gi_bipush (q := 37) (v := 14) C (dm_Ma_pop 21 rfl) rfl (by decide) ?_
    refine gi_imul (q := 38) C (dm_Ma_pop 22 rfl) rfl ?_
    rw [show (14 : Int32) = nI 14 from rfl, nI_ml]
    refine gi_aload_n (q := 39) (i := 0) C (dm_Ma_pop 23 rfl) rfl rfl rfl ?_
    refine gi_get (q := 42) C (dm_Ma_pop 24 rfl) rfl fl_Ma_33 Q1.ob rfl ?_
    refine gi_aload_n (q := 43) (i := 0) C (dm_Ma_pop 25 rfl) rfl rfl rfl ?_
    refine gi_get (q := 46) C (dm_Ma_pop 26 rfl) rfl fl_Ma_72 Q1.ob rfl ?_
    refine gi_iald (q := 47) C (dm_Ma_pop 27 rfl) rfl rfl Q1.a9 (in16 t16) ?_
    rw [nI_clamp (show z.top < 2 ^ 31 by omega)]
    rw [upA_i, upd_is, if_pos rfl]
    refine gi_iadd (q := 48) C (dm_Ma_pop 28 rfl) rfl ?_
    rw [nI_add]
    refine gi_iald (q := 49) C (dm_Ma_pop 29 rfl) rfl rfl Q1.a8 (inN (by omega) (by decide)) ?_
    refine gi_iret C hr (dm_Ma_pop 30 rfl) ?_
    rw [nI_clamp (by omega), show upA F 9 (upd (F 9) z.top (nI (z.cur.n - 1))) 8 = F 8 from rfl, Nat.mul_comm z.top 14, r5 _ (by omega)]
    refine ⟨rfl, rfl, _, J, Q1, R.fr rfl ⟨r1, r2, ?_, by show z.cur.n - 1 ≤ 14; omega, fun j hj => r5 j (by have : j < z.cur.n - 1 := hj; omega)⟩ (fun t ht => ⟨rfl, rfl, ?_, fun j hj => rfl⟩)⟩
    · rw [upA_i, upd_is, if_pos rfl]
    · rw [upA_i, upd_is, if_neg (by omega)]
  · exact absurd ((nI_ps0 (by omega)).mpr hn) c9
set_option maxHeartbeats 4000000 in
set_option maxRecDepth 100000 in
theorem c_Ma_push (v : Int32) (hn : z.cur.n < 14) (Hw : MW a pr bu fa gv h0 sx wt Jx z h) : gi_T l V y_Ma_push b_Ma_push 2 none 0 0 0 0 [.ref a, .int v] n h (fun u n' h' => u = none ∧ n' = n ∧ MW a pr bu fa gv h0 sx wt Jx (pshZ z v) h') := by
  refine gi_enter (by decide) (Nat.le_of_ble_eq_true rfl) ?_
  intro _ _ _ _ _ _ _ _ C hr hnm
  obtain ⟨F, J, Q, R⟩ := id Hw
  have t16 := R.1
  obtain ⟨r1, r2, r3, r4, r5⟩ := R.cur
  refine gi_aload_n (q := 1) (i := 0) C (dm_Ma_push 0 rfl) rfl rfl rfl ?_
  refine gi_get (q := 4) C (dm_Ma_push 1 rfl) rfl fl_Ma_33 Q.ob rfl ?_
  refine gi_aload_n (q := 5) (i := 0) C (dm_Ma_push 2 rfl) rfl rfl rfl ?_
  refine gi_get (q := 8) C (dm_Ma_push 3 rfl) rfl fl_Ma_72 Q.ob rfl ?_
  refine gi_iald (q := 9) C (dm_Ma_push 4 rfl) rfl rfl Q.a9 (in16 t16) ?_
  rw [nI_clamp (show z.top < 2 ^ 31 by omega)]
  rw [r3]
  refine gi_bipush (q := 11) (v := 14) C (dm_Ma_push 5 rfl) rfl (by decide) ?_
  refine gi_icmp_ge (q := 14) (tgt := 50) C (dm_Ma_push 6 rfl) rfl (by decide) (fun c11 => ?_) (fun c11 => ?_)
  · exact absurd (nI_lt (b := 14) hn (by decide)) (Int32.not_lt.mpr c11)
  · refine gi_aload_n (q := 15) (i := 0) C (dm_Ma_push 7 rfl) rfl rfl rfl ?_
    refine gi_get (q := 18) C (dm_Ma_push 8 rfl) rfl fl_Ma_30 Q.ob rfl ?_
    refine gi_aload_n (q := 19) (i := 0) C (dm_Ma_push 9 rfl) rfl rfl rfl ?_
    refine gi_get (q := 22) C (dm_Ma_push 10 rfl) rfl fl_Ma_72 Q.ob rfl ?_
    refine gi_bipush (q := 24) (v := 14) C (dm_Ma_push 11 rfl) rfl (by decide) ?_
    refine gi_imul (q := 25) C (dm_Ma_push 12 rfl) rfl ?_
    rw [show (14 : Int32) = nI 14 from rfl, nI_ml]
    refine gi_aload_n (q := 26) (i := 0) C (dm_Ma_push 13 rfl) rfl rfl rfl ?_
    refine gi_get (q := 29) C (dm_Ma_push 14 rfl) rfl fl_Ma_33 Q.ob rfl ?_
    refine gi_aload_n (q := 30) (i := 0) C (dm_Ma_push 15 rfl) rfl rfl rfl ?_
    refine gi_get (q := 33) C (dm_Ma_push 16 rfl) rfl fl_Ma_72 Q.ob rfl ?_
    refine gi_iald (q := 34) C (dm_Ma_push 17 rfl) rfl rfl Q.a9 (in16 t16) ?_
    rw [nI_clamp (show z.top < 2 ^ 31 by omega)]
    rw [r3]
    refine gi_iadd (q := 35) C (dm_Ma_push 18 rfl) rfl ?_
    rw [nI_add]
    refine gi_iload_n (q := 36) (i := 1) C (dm_Ma_push 19 rfl) rfl rfl rfl ?_
    refine gi_iast (q := 37) C (dm_Ma_push 20 rfl) rfl rfl Q.a8 (inN (by omega) (by decide)) ?_
    rw [nI_clamp (by omega), Nat.mul_comm z.top 14]
    have Q1 := Q.s8 (upd (F 8) (14 * z.top + z.cur.n) v)
    refine gi_aload_n (q := 38) (i := 0) C (dm_Ma_push 21 rfl) rfl rfl rfl ?_
    refine gi_get (q := 41) C (dm_Ma_push 22 rfl) rfl fl_Ma_33 Q1.ob rfl ?_
    refine gi_aload_n (q := 42) (i := 0) C (dm_Ma_push 23 rfl) rfl rfl rfl ?_
    refine gi_get (q := 45) C (dm_Ma_push 24 rfl) rfl fl_Ma_72 Q1.ob rfl ?_
    refine gi_dup2_11 (q := 46) C (dm_Ma_push 25 rfl) rfl rfl rfl ?_
    refine gi_iald (q := 47) C (dm_Ma_push 26 rfl) rfl rfl Q1.a9 (in16 t16) ?_
    rw [nI_clamp (show z.top < 2 ^ 31 by omega)]
    rw [show upA F 8 (upd (F 8) (14 * z.top + z.cur.n) v) 9 = F 9 from rfl, r3]
    refine gi_iconst (q := 48) (v := 1) C (dm_Ma_push 27 rfl) rfl (by decide) ?_
    refine gi_iadd (q := 49) C (dm_Ma_push 28 rfl) rfl ?_
    rw [nI_1]
    refine gi_iast (q := 50) C (dm_Ma_push 29 rfl) rfl rfl Q1.a9 (in16 t16) ?_
    rw [nI_clamp (show z.top < 2 ^ 31 by omega)]
    have Q2 := Q1.s9 (upd (F 9) z.top (nI (z.cur.n + 1)))
    refine gi_vret C hr (dm_Ma_push 30 rfl) ?_
    refine ⟨rfl, rfl, _, J, Q2, R.fr rfl ⟨r1, r2, ?_, hn, fun j hj => ?_⟩ (fun t ht => ⟨rfl, rfl, ?_, fun j hj => ?_⟩)⟩
    · rw [upA_i, upd_is, if_pos rfl]
    · show upd (F 8) (14 * z.top + z.cur.n) v (14 * z.top + j) = upO z.cur.s z.cur.n v j
      have hj : j < z.cur.n + 1 := hj
      rw [upd_is]
      by_cases q : j = z.cur.n
      · rw [q, upO_self, if_pos rfl]
      · rw [upO_ne q, if_neg (by omega)]
        exact r5 j (by omega)
    · rw [upA_i, upd_is, if_neg (by omega)]
    · show upd (F 8) (14 * z.top + z.cur.n) v (14 * t + j) = _
      rw [upd_is, if_neg (by omega)]
set_option maxHeartbeats 4000000 in
set_option maxRecDepth 100000 in
theorem c_Ma_goWrong (v : Int32) (Hw : MW a pr bu fa gv h0 sx wt Jx z h) : gi_T l V y_Ma_goWrong b_Ma_goWrong 2 (some .int) 0 0 0 0 [.ref a, .int v] n h (fun u n' h' => u = some (.int 2) ∧ n' = n ∧ MW a pr bu fa gv h0 sx wt Jx (wrgZ z v) h') := by
  refine gi_enter (by decide) (Nat.le_of_ble_eq_true rfl) ?_
  intro _ _ _ _ _ _ _ _ C hr hnm
  obtain ⟨F, J, Q, R⟩ := id Hw
  have t16 := R.1
  obtain ⟨r1, r2, r3, r4, r5⟩ := R.cur
  refine gi_aload_n (q := 1) (i := 0) C (dm_Ma_goWrong 0 rfl) rfl rfl rfl ?_
  refine gi_iload_n (q := 2) (i := 1) C (dm_Ma_goWrong 1 rfl) rfl rfl rfl ?_
  refine gi_put (q := 5) C (dm_Ma_goWrong 2 rfl) rfl fl_Ma_79 fp_Ma_13 Q.ob (Nat.le_of_ble_eq_true rfl) rfl rfl ?_
  refine gi_iconst (q := 6) (v := 2) C (dm_Ma_goWrong 3 rfl) rfl (by decide) ?_
  refine gi_iret C hr (dm_Ma_goWrong 4 rfl) ?_
  exact ⟨rfl, rfl, F, J, Q.pO sx (nI z.top) v wt (bI z.as), R⟩
set_option maxHeartbeats 4000000 in
set_option maxRecDepth 100000 in
theorem c_Ma_hasLocal (x : Nat) (hx : x < 6) : gi_T l V y_Ma_hasLocal b_Ma_hasLocal 2 (some .boolean) 0 0 0 0 [.ref a, .int (nI x)] n h (gi_is (some (.int 1)) n h) := by
  refine gi_enter (by decide) (Nat.le_of_ble_eq_true rfl) ?_
  intro _ _ _ _ _ _ _ _ C hr hnm
  refine gi_iload_n (q := 1) (i := 1) C (dm_Ma_hasLocal 0 rfl) rfl rfl rfl ?_
  refine gi_if_lt (q := 4) (tgt := 14) C (dm_Ma_hasLocal 1 rfl) rfl (by decide) (fun c1 => ?_) (fun c1 => ?_)
  · exact absurd c1 (Int32.not_lt.mpr (nI_le (a := 0) (Nat.zero_le _) (by omega)))
  · refine gi_iload_n (q := 5) (i := 1) C (dm_Ma_hasLocal 2 rfl) rfl rfl rfl ?_
    refine gi_bipush (q := 7) (v := 6) C (dm_Ma_hasLocal 3 rfl) rfl (by decide) ?_
    refine gi_icmp_ge (q := 10) (tgt := 14) C (dm_Ma_hasLocal 4 rfl) rfl (by decide) (fun c7 => ?_) (fun c7 => ?_)
    · exact absurd (nI_lt (b := 6) hx (by decide)) (Int32.not_lt.mpr c7)
    · refine gi_iconst (q := 11) (v := 1) C (dm_Ma_hasLocal 5 rfl) rfl (by decide) ?_
      refine gi_goto (tgt := 15) C (dm_Ma_hasLocal 6 rfl) (by decide) ?_
      refine gi_zret C hr (dm_Ma_hasLocal 8 rfl) rfl ?_
      exact ⟨rfl, rfl, rfl⟩
theorem MW.loc {b : Nat} {v : Int32} (hb : b < z.cur.n) (Q : MO a pr bu fa gv h0 sx (nI z.top) z.wr wt (bI z.as) F J z.hp h) (R : MR z F J Jx) : MW a pr bu fa gv h0 sx wt Jx (locZ z b v) (gi_up h (a + 8) (gi_I 0 224 (upd (F 8) (14 * z.top + b) v))) := by
  obtain ⟨r1, r2, r3, r4, r5⟩ := R.cur
  refine ⟨_, J, Q.s8 _, R.fr rfl ⟨r1, r2, r3, r4, fun j hj => ?_⟩ (fun t ht => ⟨rfl, rfl, rfl, fun j hj => ?_⟩)⟩
  · show upd (F 8) (14 * z.top + b) v (14 * z.top + j) = upO z.cur.s b v j
    rw [upd_is]
    by_cases q : j = b
    · rw [q, upO_self, if_pos rfl]
    · rw [upO_ne q, if_neg (by omega)]
      exact r5 j hj
  · show upd (F 8) (14 * z.top + b) v (14 * t + j) = _
    rw [upd_is, if_neg (by omega)]
theorem MW.got {i : Nat} (Q : MO a pr bu fa gv h0 sx (nI z.top) z.wr wt (bI z.as) F J z.hp h) (R : MR z F J Jx) : MW a pr bu fa gv h0 sx wt Jx (gotZ z i) (gi_up h (a + 11) (gi_I 0 16 (upd (F 11) z.top (nI i)))) := by
  obtain ⟨r1, r2, r3, r4, r5⟩ := R.cur
  refine ⟨_, J, Q.s11 _, R.fr rfl ⟨r1, ?_, r3, r4, r5⟩ (fun t ht => ⟨rfl, ?_, rfl, fun j hj => rfl⟩)⟩
  · rw [upA_i, upd_is, if_pos rfl]
  · rw [upA_i, upd_is, if_neg (by omega)]
end MA1
