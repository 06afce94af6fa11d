-- needs: 89.45
section MB1
variable {l : Launch} {V : gi_V} {n : Nat} {h h' h0 : gi_H} {a pr bu fa gv k c : Nat} {sx wt tp wr st : Int32} {F G : Nat → Nat → Int32} {S : Nat → Int32} {J Jx : Nat → Int64} {H : Hp} {z : Mc} {P : Pm} {sn : Nat → Nat} {wd wd0 : Nat → Bool} {Fc : Fa} {Φ : Nat → mR} {sh : Nat → Option Sh}
theorem hGiv_ok {len i : Nat} {f : Nat → Int32} (h : hpO H) (hc : H.c < 300) (hu : H.u + len ≤ 2000) : hpO (hGiv H len i f) := by
  have g := hAdd_ok (s := 0) h hc hu (by decide)
  exact ⟨g.1, g.2.1, g.2.2⟩
theorem beg_h (hc : c ≤ 3) (hL : gvL c G) : ∀ j, j ≤ c → hpO (begG G j).2
  | 0, _ => ⟨Nat.zero_le _, Nat.zero_le _, fun r h1 h2 => absurd h2 (by show ¬ r ≤ 0; omega)⟩
  | j + 1, hj => by
    have i := beg_h hc hL j (by omega)
    have b := beg_b hL j (by omega)
    show hpO (givH G j (begG G j).2)
    unfold givH
    split
    · rename_i q
      obtain ⟨y, y1, y2⟩ := hL j (by omega) q
      exact hGiv_ok i (by omega) (by rw [y2, nI_clamp (by omega)]; omega)
    · exact i
theorem beg_c {j : Nat} : (begG G j).2.c ≤ (begG G (j + 1)).2.c := by
  show _ ≤ (givH G j (begG G j).2).c
  unfold givH
  split
  · show _ ≤ (begG G j).2.c + 1
    omega
  · exact Nat.le_refl _
theorem beg_v : ∀ j, (∀ i, i < j → G 1 i ≠ 0 → ∃ r, r ≤ (begG G j).2.c ∧ (begG G j).1 i = nI r) ∧ ∀ i, j ≤ i → (begG G j).1 i = 0
  | 0 => ⟨fun i hi => absurd hi (by omega), fun i _ => rfl⟩
  | j + 1 => by
    obtain ⟨g1, g2⟩ := beg_v j
    refine ⟨fun i hi hk => ?_, fun i hi => ?_⟩
    · show ∃ r, r ≤ (begG G (j + 1)).2.c ∧ upO (begG G j).1 j (givV G j (begG G j).2) i = nI r
      by_cases q : i = j
      · subst q
        rw [upO_self]
        unfold givV
        rw [if_neg hk]
        by_cases q : G 1 i = 1
        · rw [if_pos q]
          refine ⟨_, ?_, rfl⟩
          show _ ≤ (givH G i (begG G i).2).c
          unfold givH
          rw [if_pos q]
          exact Nat.le_refl _
        · rw [if_neg q]
          exact ⟨0, Nat.zero_le _, rfl⟩
      · rw [upO_ne q]
        obtain ⟨r, r1, r2⟩ := g1 i (by omega) hk
        exact ⟨r, Nat.le_trans r1 beg_c, r2⟩
    · show upO (begG G j).1 j (givV G j (begG G j).2) i = 0
      rw [upO_ne (by omega)]
      exact g2 i (by omega)
theorem beg_TS {m : Nat} (B : Built k P sh sn wd0) (hm : m < k) (hc : c ≤ 3) (hL : gvL c G) (hf : ftG P m c G = true) : TS k P sh (begC P G m c) := by
  have F0 := B.first m hm
  have wm := wf_ar B.wf hm
  unfold ftG at hf
  rw [Bool.and_eq_true, decide_eq_true_iff, List.all_eq_true] at hf
  obtain ⟨ec, al⟩ := hf
  obtain ⟨g1, g2⟩ := beg_v (G := G) c
  refine ⟨show 0 < 16 by decide, beg_h hc hL c (Nat.le_refl _), ⟨hm, F0.1, (0, 0), F0.2, by show pN P 2 m = pN P 2 m + 0; omega, fun i hi hk => ?_⟩, fun t ht => absurd ht (Nat.not_lt_zero _)⟩
  have hi : i < pN P 2 m := hi
  have hk : kdF P m (0, 0) i = true := hk
  rw [kdF_lo hi] at hk
  rcases Nat.lt_or_ge i c with q | q
  · have := al i (List.mem_range.mpr q)
    rw [hk] at this
    refine g1 i q (fun e => ?_)
    rw [decide_eq_true e] at this
    cases this
  · exact ⟨0, Nat.zero_le _, g2 i q⟩
/-- what a certificate has of a place, where a machine stands well -/
theorem tell_ok (B : Built k P sh sn wd0) (hF : okF (tyF P sh) Fc) (T : TS k P sh z) : (Fc (curP z)).told = true → (Fc (curP z)).n = z.cur.n ∧ ∀ j, j < z.cur.n → okAv ((Fc (curP z)).f j).1 ∧ (arA ((Fc (curP z)).f j).1 = true → ∃ r, r ≤ z.hp.c ∧ z.cur.s j = nI r) := fun tl => by
  obtain ⟨-, -, ⟨hm, hi, x, hs, hv⟩, -⟩ := T
  have w8 := B.wf.k8
  have wm := wf_ar B.wf hm
  obtain ⟨m', i', x', y', hm', -, hi', hi60, hp, hs', -, -, GT, -⟩ := plc B (show curP z < 480 by unfold curP; omega) hF tl
  have e : x' = x := by
    rw [hs] at hs'
    exact (Option.some.inj hs').symm
  subst e
  have em : m' = z.cur.m := by unfold curP at hp; omega
  subst em
  have en : (Fc (curP z)).n = z.cur.n := (G_n GT).trans hv.1.symm
  refine ⟨en, fun j hj => ?_⟩
  have g := tyG_mk GT (i := j) (by omega)
  exact ⟨g.1, fun q => hv.2 j hj (by rw [← g.2.1]; exact q)⟩
theorem MW.rep {j : Nat} {v : Int64} (h0' : j ≠ 0) (h5 : j ≠ 5) (Q : MO a pr bu fa gv h0 sx (nI z.top) z.wr wt (bI z.as) F J z.hp h) (R : MR z F J Jx) : MW a pr bu fa gv h0 sx wt (vp_updL Jx j v) z (gi_up h (a + 6) (gi_J 2 8 (vp_updL J j v))) := by
  obtain ⟨g1, g2, g3, g4, g5, g6, g7⟩ := R
  refine ⟨F, _, Q.sJ _, g1, ?_, ?_, g4, fun i h1 h2 h3 => ?_, g6, g7⟩
  · rw [updL_is, if_neg (by omega)]; exact g2
  · rw [updL_is, if_neg (by omega)]; exact g3
  · rw [updL_is, updL_is]
    by_cases q : i = j
    · rw [if_pos q, if_pos q]
    · rw [if_neg q, if_neg q]; exact g5 i h1 h2 h3
/-- what is told of a run behind it -/
def repJ (y : Lz) (j : Nat) : Int64 := if j = 0 then y.1.gv else if j = 1 then y.1.wr.toInt64 else if j = 2 then (nI y.2.1).toInt64 else if j = 3 then (nI y.2.2.1).toInt64 else if j = 4 then (nI y.2.2.2.1).toInt64 else if j = 5 then eL y.1.dp else if j = 6 then (y.1.fd 0).toInt64 else (nI y.1.hp.c).toInt64
def Jis (Jx : Nat → Int64) (y : Lz) : Prop := Jx 2 = (nI y.2.1).toInt64 ∧ Jx 3 = (nI y.2.2.1).toInt64 ∧ Jx 4 = (nI y.2.2.2.1).toInt64
def rtL (R : Lz × Int32) : Int32 := if R.2 = 0 then 3 else R.2
def MRun (a pr bu fa gv : Nat) (h0 : gi_H) (y : Lz) (h : gi_H) : Prop := ∃ tp wr wt st F J H, MO a pr bu fa gv h0 y.2.2.2.2.1 tp wr wt st F J H h ∧ ∀ j, j < 8 → J j = repJ y j
theorem lop_s {f b lm lp : Nat} {wt : Bool} : lopZ P sn Fc (f + 1) (z, b, lm, lp, sx, wt) = if (prfZ P sn Fc z).2 = 0 then lopZ P sn Fc f ((prfZ P sn Fc z).1, b + 1, z.cur.m, z.cur.i, (if wt = true ∧ tldZ Fc z = false then nI b else sx), wt && tldZ Fc z) else (((prfZ P sn Fc z).1, b + 1, z.cur.m, z.cur.i, (if wt = true ∧ tldZ Fc z = false then nI b else sx), wt && tldZ Fc z), (prfZ P sn Fc z).2) := rfl
set_option maxHeartbeats 4000000 in
set_option maxRecDepth 100000 in
theorem c_Ma_make {m N : Nat} (cb : Bool) (hm : m < k) (hN : N ≤ 20000) (B : Built k P sh sn wd0) (hF : cb = true → okF (tyF P sh) Fc) (hf : ftG P m c G = true) (hc : c ≤ 3) (hS : S 0 = nI c) (HG : gv_at gv S G h0) (dg : gv + 4 ≤ a) (hL : gvL c G) (E : EN a pr bu fa k P sn wd Fc Φ h0) (Q : MO a pr bu fa gv h0 sx tp wr wt st F J H h) : gi_T l V y_Ma_make b_Ma_make 6 (some .int) 5 115 0 0 [.ref a, .int (nI m), .int (nI N), .int (bI cb)] n h (fun v n' h' => v = some (.int (rtL (lopZ P sn Fc N (begC P G m c, 0, m, 0, -1, cb)))) ∧ n' = n ∧ MRun a pr bu fa gv h0 (lopZ P sn Fc N (begC P G m c, 0, m, 0, -1, cb)).1 h') := by
  obtain ⟨L, hLz⟩ : ∃ L : Nat → Lz → Lz × Int32, L = lopZ P sn Fc := ⟨_, rfl⟩
  obtain ⟨p, hpz⟩ : ∃ p : Mc → Mc × Int32, p = prfZ P sn Fc := ⟨_, rfl⟩
  obtain ⟨td, htd⟩ : ∃ td : Mc → Bool, td = tldZ Fc := ⟨_, rfl⟩
  obtain ⟨z0, hz0⟩ : ∃ z0 : Mc, z0 = begC P G m c := ⟨_, rfl⟩
  have L0 : ∀ y, L 0 y = (y, 0) := fun y => by rw [hLz]; rfl
  have LS : ∀ {f b lm lp : Nat} {z : Mc} {sx : Int32} {wt : Bool}, L (f + 1) (z, b, lm, lp, sx, wt) = if (p z).2 = 0 then L f ((p z).1, b + 1, z.cur.m, z.cur.i, (if wt = true ∧ td z = false then nI b else sx), wt && td z) else (((p z).1, b + 1, z.cur.m, z.cur.i, (if wt = true ∧ td z = false then nI b else sx), wt && td z), (p z).2) := fun {f b lm lp z sx wt} => by rw [hLz, hpz, htd]; exact lop_s
  have PF : ∀ (z : Mc), TS k P sh z → ∀ {n : Nat} {h : gi_H} {sx wt : Int32} (Jx : Nat → Int64) (_ : True), MW a pr bu fa gv h0 sx wt Jx z h → gi_T l V y_Ma_perform b_Ma_perform 4 (some .int) 4 92 0 0 [.ref a] n h (fun v n' h' => v = some (.int (p z).2) ∧ n' = n ∧ MW a pr bu fa gv h0 sx wt Jx (p z).1 h') := fun z T {n h sx wt} Jx _ Hw => by rw [hpz]; exact c_Ma_perform B T E Hw
  have PK : ∀ (z : Mc), TS k P sh z → (p z).2 = 0 → TS k P sh (p z).1 := fun z T e0 => by rw [hpz] at e0 ⊢; exact prf_ok B T e0
  have TD : ∀ (z : Mc), z.cur.m < 8 → z.cur.i < 60 → ((Fc (curP z)).told = true → (Fc (curP z)).n = z.cur.n ∧ ∀ j, j < z.cur.n → okAv ((Fc (curP z)).f j).1 ∧ (arA ((Fc (curP z)).f j).1 = true → ∃ r, r ≤ z.hp.c ∧ z.cur.s j = nI r)) → ∀ {n : Nat} {h : gi_H} {sx wt : Int32} (Jx : Nat → Int64), MW a pr bu fa gv h0 sx wt Jx z h → gi_T l V y_Ma_isTold b_Ma_isTold 3 (some .boolean) 3 64 0 0 [.ref a] n h (gi_is (some (.int (bI (td z)))) n h) := fun z h1 h2 h3 {n h sx wt} Jx Hw => by rw [htd]; exact c_Ma_isTold h1 h2 h3 E Hw
  have T0 : TS k P sh z0 := by rw [hz0]; exact beg_TS B hm hc hL hf
  rw [← hLz, ← hz0]
  refine gi_enter (by decide) (Nat.le_of_ble_eq_true rfl) ?_
  intro _ _ _ _ _ _ _ _ C hr hnm
  refine gi_aload_n (q := 1) (i := 0) C (dm_Ma_make 0 rfl) rfl rfl rfl ?_
  refine gi_iload_n (q := 2) (i := 3) C (dm_Ma_make 1 rfl) rfl rfl rfl ?_
  refine gi_put (q := 5) C (dm_Ma_make 2 rfl) rfl fl_Ma_60 fp_Ma_14 Q.ob (Nat.le_of_ble_eq_true rfl) (bI_nar _) (nb_f (bI_01 _)) ?_
  have Q1 := Q.pO sx tp wr (bI cb) st
  have ec : pN P 1 m = c := by
    unfold ftG at hf
    rw [Bool.and_eq_true, decide_eq_true_iff] at hf
    exact hf.1
  refine gi_aload_n (q := 6) (i := 0) C (dm_Ma_make 3 rfl) rfl rfl rfl ?_
  refine gi_iload_n (q := 7) (i := 1) C (dm_Ma_make 4 rfl) rfl rfl rfl ?_
  refine gi_callv 1 (q := 10) C (dm_Ma_make 5 rfl) rfl my_Ma_begin lk_Ma_64 im_Ma_begin rfl (c_Ma_begin hm ec hc hS HG dg hL E Q1) Q1.ob rfl rfl ⟨(Nat.le_of_ble_eq_true rfl), (Nat.le_of_ble_eq_true rfl)⟩ (Nat.le_of_ble_eq_true rfl) ⟨(Nat.le_of_ble_eq_true rfl), (Nat.le_of_ble_eq_true rfl)⟩ (fun r7 n7 h7 e7 => ?_)
  obtain ⟨rfl, rfl, W7⟩ := e7
  rw [← hz0] at W7
  refine gi_iconst (q := 11) (v := 0) C (dm_Ma_make 6 rfl) rfl (by decide) ?_
  refine gi_istore (q := 13) C (dm_Ma_make 7 rfl) rfl (Nat.le_of_ble_eq_true rfl) ?_
  refine gi_iconst (q := 14) (v := 0) C (dm_Ma_make 8 rfl) rfl (by decide) ?_
  refine gi_istore (q := 16) C (dm_Ma_make 9 rfl) rfl (Nat.le_of_ble_eq_true rfl) ?_
  refine gi_while (σ := Lz × Int32) (fun x => N - x.1.2.1) (fun x => [(4, .int x.2), (5, .int (nI x.1.2.1)), (2, .int (nI N)), (0, .ref a)]) (fun _ => n7) (fun _ => 0) (fun _ => 0) (fun x y' => x.1.2.1 ≤ N ∧ (∃ Jx, MW a pr bu fa gv h0 x.1.2.2.2.2.1 (bI x.1.2.2.2.2.2) Jx x.1.1 y' ∧ Jis Jx x.1) ∧ (x.2 = 0 → TS k P sh x.1.1) ∧ (L N (z0, 0, m, 0, -1, cb) = if x.2 = 0 then L (N - x.1.2.1) x.1 else (x.1, x.2)) ∧ (x.1.2.2.2.2.2 = true → cb = true)) ((z0, 0, m, 0, -1, cb), 0) ⟨Nat.zero_le _, ⟨_, W7, ⟨rfl, rfl, rfl⟩⟩, fun _ => T0, (by rw [if_pos rfl, Nat.sub_zero]), id⟩ ?_ (List.forall_mem_cons.mpr ⟨rfl, List.forall_mem_cons.mpr ⟨rfl, List.forall_mem_cons.mpr ⟨rfl, List.forall_mem_cons.mpr ⟨rfl, fun _ h => absurd h List.not_mem_nil⟩⟩⟩⟩) rfl rfl rfl
  rintro ⟨⟨z, b, lm, lp, sx, wt⟩, e⟩ y' ⟨hb, ⟨Jx, Yw, hJ⟩, hT, hR, hcb⟩ ih
  try dsimp only at *
  obtain ⟨Fy, Jy, Yq, Yr⟩ := id Yw
  refine gi_iload (q := 18) C (dm_Ma_make 10 rfl) rfl rfl ?_
  refine gi_iload_n (q := 19) (i := 2) C (dm_Ma_make 11 rfl) rfl rfl rfl ?_
  refine gi_icmp_ge (q := 22) (tgt := 107) C (dm_Ma_make 12 rfl) rfl (by decide) (fun c19 => ?_) (fun c19 => ?_)
  · have eR : L N (z0, 0, m, 0, -1, cb) = ((z, b, lm, lp, sx, wt), e) := by
      first
        | (rw [hR, if_neg c24])
        | (have bN : b = N := by
             rcases Nat.lt_or_ge b N with q | q
             · exact absurd c19 (Int32.not_le.mpr (nI_lt q (by omega)))
             · have : b ≤ N := hb
               omega
           rw [hR, bN, Nat.sub_self, L0]
           by_cases q : e = 0
           · rw [if_pos q, q]
           · rw [if_neg q])
    rw [eR]
    refine gi_aload_n (q := 108) (i := 0) C (dm_Ma_make 60 rfl) rfl rfl rfl ?_
    refine gi_get (q := 111) C (dm_Ma_make 61 rfl) rfl fl_Ma_22 Yq.ob rfl ?_
    refine gi_iconst (q := 112) (v := 1) C (dm_Ma_make 62 rfl) rfl (by decide) ?_
    refine gi_aload_n (q := 113) (i := 0) C (dm_Ma_make 63 rfl) rfl rfl rfl ?_
    refine gi_get (q := 116) C (dm_Ma_make 64 rfl) rfl fl_Ma_79 Yq.ob rfl ?_
    refine gi_i2l (q := 117) C (dm_Ma_make 65 rfl) rfl ?_
    refine gi_last (q := 118) C (dm_Ma_make 66 rfl) rfl rfl Yq.a6 (inN (show 1 < 8 by decide) (by decide)) ?_
    have Wa := MW.rep (j := 1) (v := z.wr.toInt64) (by decide) (by decide) Yq Yr
    obtain ⟨Fa, Ja, Qa, Ra⟩ := id Wa
    refine gi_aload_n (q := 119) (i := 0) C (dm_Ma_make 67 rfl) rfl rfl rfl ?_
    refine gi_get (q := 122) C (dm_Ma_make 68 rfl) rfl fl_Ma_22 Qa.ob rfl ?_
    refine gi_bipush (q := 124) (v := 6) C (dm_Ma_make 69 rfl) rfl (by decide) ?_
    refine gi_aload_n (q := 125) (i := 0) C (dm_Ma_make 70 rfl) rfl rfl rfl ?_
    refine gi_get (q := 128) C (dm_Ma_make 71 rfl) rfl fl_Ma_26 Qa.ob rfl ?_
    refine gi_iconst (q := 129) (v := 0) C (dm_Ma_make 72 rfl) rfl (by decide) ?_
    refine gi_iald (q := 130) C (dm_Ma_make 73 rfl) rfl rfl Qa.a7 (inN (show 0 < 4 by decide) (by decide)) ?_
    rw [show (0 : Int32).toNatClampNeg = 0 from rfl, Ra.2.2.2.2.2.1 0 (by decide)]
    refine gi_i2l (q := 131) C (dm_Ma_make 74 rfl) rfl ?_
    refine gi_last (q := 132) C (dm_Ma_make 75 rfl) rfl rfl Qa.a6 (inN (show 6 < 8 by decide) (by decide)) ?_
    have Wb := MW.rep (j := 6) (v := (z.fd 0).toInt64) (by decide) (by decide) Qa Ra
    obtain ⟨Fb, Jb, Qb, Rb⟩ := id Wb
    obtain ⟨Sh, Fh, he, hr7⟩ := id Qb.he
    have he0 := he.1
    refine gi_aload_n (q := 133) (i := 0) C (dm_Ma_make 76 rfl) rfl rfl rfl ?_
    refine gi_get (q := 136) C (dm_Ma_make 77 rfl) rfl fl_Ma_22 Qb.ob rfl ?_
    refine gi_bipush (q := 138) (v := 7) C (dm_Ma_make 78 rfl) rfl (by decide) ?_
    refine gi_aload_n (q := 139) (i := 0) C (dm_Ma_make 79 rfl) rfl rfl rfl ?_
    refine gi_get (q := 142) C (dm_Ma_make 80 rfl) rfl fl_Ma_18 Qb.ob rfl ?_
    refine gi_get (q := 145) C (dm_Ma_make 81 rfl) rfl fl_Ma_82 he0 rfl ?_
    rw [hr7.2.1]
    refine gi_i2l (q := 146) C (dm_Ma_make 82 rfl) rfl ?_
    refine gi_last (q := 147) C (dm_Ma_make 83 rfl) rfl rfl Qb.a6 (inN (show 7 < 8 by decide) (by decide)) ?_
    have Wc := MW.rep (j := 7) (v := (nI z.hp.c).toInt64) (by decide) (by decide) Qb Rb
    obtain ⟨Fd, Jd, Qd, Rd⟩ := id Wc
    refine gi_iload (q := 149) C (dm_Ma_make 84 rfl) rfl rfl ?_
    refine gi_if_ne (q := 152) (tgt := 156) C (dm_Ma_make 85 rfl) rfl (by decide) (fun c149 => ?_) (fun c149 => ?_)
    · refine gi_iload (q := 158) C (dm_Ma_make 88 rfl) rfl rfl ?_
      refine gi_iret C hr (dm_Ma_make 89 rfl) ?_
      refine ⟨?_, rfl, _, _, _, _, Fd, Jd, _, Qd, fun j hj => ?_⟩
      · unfold rtL
        first
          | (rw [if_pos (show e = 0 from c149)]; done)
          | (rw [if_neg (show ¬ e = 0 from c149)]; done)
      · obtain ⟨j2, j3, j4⟩ := hJ
        rcases (show j = 0 ∨ j = 1 ∨ j = 2 ∨ j = 3 ∨ j = 4 ∨ j = 5 ∨ j = 6 ∨ j = 7 by omega) with q | q | q | q | q | q | q | q
        · subst q; rw [Rd.2.1]; unfold repJ; rw [if_pos rfl]
        · subst q; rw [Rd.2.2.2.2.1 1 (by decide) (by decide) (by decide), updL_is, if_neg (by decide), updL_is, if_neg (by decide), updL_is, if_pos rfl]; unfold repJ; rw [if_neg (by decide), if_pos rfl]
        · subst q; rw [Rd.2.2.2.2.1 2 (by decide) (by decide) (by decide), updL_is, if_neg (by decide), updL_is, if_neg (by decide), updL_is, if_neg (by decide), j2]; unfold repJ; rw [if_neg (by decide), if_neg (by decide), if_pos rfl]
        · subst q; rw [Rd.2.2.2.2.1 3 (by decide) (by decide) (by decide), updL_is, if_neg (by decide), updL_is, if_neg (by decide), updL_is, if_neg (by decide), j3]; unfold repJ; rw [if_neg (by decide), if_neg (by decide), if_neg (by decide), if_pos rfl]
        · subst q; rw [Rd.2.2.2.2.1 4 (by decide) (by decide) (by decide), updL_is, if_neg (by decide), updL_is, if_neg (by decide), updL_is, if_neg (by decide), j4]; unfold repJ; rw [if_neg (by decide), if_neg (by decide), if_neg (by decide), if_neg (by decide), if_pos rfl]
        · subst q; rw [Rd.2.2.1]; unfold repJ; rw [if_neg (by decide), if_neg (by decide), if_neg (by decide), if_neg (by decide), if_neg (by decide), if_pos rfl]
        · subst q; rw [Rd.2.2.2.2.1 6 (by decide) (by decide) (by decide), updL_is, if_neg (by decide), updL_is, if_pos rfl]; unfold repJ; rw [if_neg (by decide), if_neg (by decide), if_neg (by decide), if_neg (by decide), if_neg (by decide), if_neg (by decide), if_pos rfl]
        · subst q; rw [Rd.2.2.2.2.1 7 (by decide) (by decide) (by decide), updL_is, if_pos rfl]; unfold repJ; rw [if_neg (by decide), if_neg (by decide), if_neg (by decide), if_neg (by decide), if_neg (by decide), if_neg (by decide), if_neg (by decide)]
    · refine gi_iconst (q := 153) (v := 3) C (dm_Ma_make 86 rfl) rfl (by decide) ?_
      refine gi_goto (tgt := 158) C (dm_Ma_make 87 rfl) (by decide) ?_
      refine gi_iret C hr (dm_Ma_make 89 rfl) ?_
      refine ⟨?_, rfl, _, _, _, _, Fd, Jd, _, Qd, fun j hj => ?_⟩
      · unfold rtL
        first
          | (rw [if_pos (show e = 0 from c149)]; done)
          | (rw [if_neg (show ¬ e = 0 from c149)]; done)
      · obtain ⟨j2, j3, j4⟩ := hJ
        rcases (show j = 0 ∨ j = 1 ∨ j = 2 ∨ j = 3 ∨ j = 4 ∨ j = 5 ∨ j = 6 ∨ j = 7 by omega) with q | q | q | q | q | q | q | q
        · subst q; rw [Rd.2.1]; unfold repJ; rw [if_pos rfl]
        · subst q; rw [Rd.2.2.2.2.1 1 (by decide) (by decide) (by decide), updL_is, if_neg (by decide), updL_is, if_neg (by decide), updL_is, if_pos rfl]; unfold repJ; rw [if_neg (by decide), if_pos rfl]
        · subst q; rw [Rd.2.2.2.2.1 2 (by decide) (by decide) (by decide), updL_is, if_neg (by decide), updL_is, if_neg (by decide), updL_is, if_neg (by decide), j2]; unfold repJ; rw [if_neg (by decide), if_neg (by decide), if_pos rfl]
        · subst q; rw [Rd.2.2.2.2.1 3 (by decide) (by decide) (by decide), updL_is, if_neg (by decide), updL_is, if_neg (by decide), updL_is, if_neg (by decide), j3]; unfold repJ; rw [if_neg (by decide), if_neg (by decide), if_neg (by decide), if_pos rfl]
        · subst q; rw [Rd.2.2.2.2.1 4 (by decide) (by decide) (by decide), updL_is, if_neg (by decide), updL_is, if_neg (by decide), updL_is, if_neg (by decide), j4]; unfold repJ; rw [if_neg (by decide), if_neg (by decide), if_neg (by decide), if_neg (by decide), if_pos rfl]
        · subst q; rw [Rd.2.2.1]; unfold repJ; rw [if_neg (by decide), if_neg (by decide), if_neg (by decide), if_neg (by decide), if_neg (by decide), if_pos rfl]
        · subst q; rw [Rd.2.2.2.2.1 6 (by decide) (by decide) (by decide), updL_is, if_neg (by decide), updL_is, if_pos rfl]; unfold repJ; rw [if_neg (by decide), if_neg (by decide), if_neg (by decide), if_neg (by decide), if_neg (by decide), if_neg (by decide), if_pos rfl]
        · subst q; rw [Rd.2.2.2.2.1 7 (by decide) (by decide) (by decide), updL_is, if_pos rfl]; unfold repJ; rw [if_neg (by decide), if_neg (by decide), if_neg (by decide), if_neg (by decide), if_neg (by decide), if_neg (by decide), if_neg (by decide)]
  · refine gi_iload (q := 24) C (dm_Ma_make 13 rfl) rfl rfl ?_
    refine gi_if_ne (q := 27) (tgt := 107) C (dm_Ma_make 14 rfl) rfl (by decide) (fun c24 => ?_) (fun c24 => ?_)
    · have eR : L N (z0, 0, m, 0, -1, cb) = ((z, b, lm, lp, sx, wt), e) := by
        first
          | (rw [hR, if_neg c24])
          | (have bN : b = N := by
               rcases Nat.lt_or_ge b N with q | q
               · exact absurd c19 (Int32.not_le.mpr (nI_lt q (by omega)))
               · have : b ≤ N := hb
                 omega
             rw [hR, bN, Nat.sub_self, L0]
             by_cases q : e = 0
             · rw [if_pos q, q]
             · rw [if_neg q])
      rw [eR]
      refine gi_aload_n (q := 108) (i := 0) C (dm_Ma_make 60 rfl) rfl rfl rfl ?_
      refine gi_get (q := 111) C (dm_Ma_make 61 rfl) rfl fl_Ma_22 Yq.ob rfl ?_
      refine gi_iconst (q := 112) (v := 1) C (dm_Ma_make 62 rfl) rfl (by decide) ?_
      refine gi_aload_n (q := 113) (i := 0) C (dm_Ma_make 63 rfl) rfl rfl rfl ?_
      refine gi_get (q := 116) C (dm_Ma_make 64 rfl) rfl fl_Ma_79 Yq.ob rfl ?_
      refine gi_i2l (q := 117) C (dm_Ma_make 65 rfl) rfl ?_
      refine gi_last (q := 118) C (dm_Ma_make 66 rfl) rfl rfl Yq.a6 (inN (show 1 < 8 by decide) (by decide)) ?_
      have Wa := MW.rep (j := 1) (v := z.wr.toInt64) (by decide) (by decide) Yq Yr
      obtain ⟨Fa, Ja, Qa, Ra⟩ := id Wa
      refine gi_aload_n (q := 119) (i := 0) C (dm_Ma_make 67 rfl) rfl rfl rfl ?_
      refine gi_get (q := 122) C (dm_Ma_make 68 rfl) rfl fl_Ma_22 Qa.ob rfl ?_
      refine gi_bipush (q := 124) (v := 6) C (dm_Ma_make 69 rfl) rfl (by decide) ?_
      refine gi_aload_n (q := 125) (i := 0) C (dm_Ma_make 70 rfl) rfl rfl rfl ?_
      refine gi_get (q := 128) C (dm_Ma_make 71 rfl) rfl fl_Ma_26 Qa.ob rfl ?_
      refine gi_iconst (q := 129) (v := 0) C (dm_Ma_make 72 rfl) rfl (by decide) ?_
      refine gi_iald (q := 130) C (dm_Ma_make 73 rfl) rfl rfl Qa.a7 (inN (show 0 < 4 by decide) (by decide)) ?_
      rw [show (0 : Int32).toNatClampNeg = 0 from rfl, Ra.2.2.2.2.2.1 0 (by decide)]
      refine gi_i2l (q := 131) C (dm_Ma_make 74 rfl) rfl ?_
      refine gi_last (q := 132) C (dm_Ma_make 75 rfl) rfl rfl Qa.a6 (inN (show 6 < 8 by decide) (by decide)) ?_
      have Wb := MW.rep (j := 6) (v := (z.fd 0).toInt64) (by decide) (by decide) Qa Ra
      obtain ⟨Fb, Jb, Qb, Rb⟩ := id Wb
      obtain ⟨Sh, Fh, he, hr7⟩ := id Qb.he
      have he0 := he.1
      refine gi_aload_n (q := 133) (i := 0) C (dm_Ma_make 76 rfl) rfl rfl rfl ?_
      refine gi_get (q := 136) C (dm_Ma_make 77 rfl) rfl fl_Ma_22 Qb.ob rfl ?_
      refine gi_bipush (q := 138) (v := 7) C (dm_Ma_make 78 rfl) rfl (by decide) ?_
      refine gi_aload_n (q := 139) (i := 0) C (dm_Ma_make 79 rfl) rfl rfl rfl ?_
      refine gi_get (q := 142) C (dm_Ma_make 80 rfl) rfl fl_Ma_18 Qb.ob rfl ?_
      refine gi_get (q := 145) C (dm_Ma_make 81 rfl) rfl fl_Ma_82 he0 rfl ?_
      rw [hr7.2.1]
      refine gi_i2l (q := 146) C (dm_Ma_make 82 rfl) rfl ?_
      refine gi_last (q := 147) C (dm_Ma_make 83 rfl) rfl rfl Qb.a6 (inN (show 7 < 8 by decide) (by decide)) ?_
      have Wc := MW.rep (j := 7) (v := (nI z.hp.c).toInt64) (by decide) (by decide) Qb Rb
      obtain ⟨Fd, Jd, Qd, Rd⟩ := id Wc
      refine gi_iload (q := 149) C (dm_Ma_make 84 rfl) rfl rfl ?_
      refine gi_if_ne (q := 152) (tgt := 156) C (dm_Ma_make 85 rfl) rfl (by decide) (fun c149 => ?_) (fun c149 => ?_)
      · refine gi_iload (q := 158) C (dm_Ma_make 88 rfl) rfl rfl ?_
        refine gi_iret C hr (dm_Ma_make 89 rfl) ?_
        refine ⟨?_, rfl, _, _, _, _, Fd, Jd, _, Qd, fun j hj => ?_⟩
        · unfold rtL
          first
            | (rw [if_pos (show e = 0 from c149)]; done)
            | (rw [if_neg (show ¬ e = 0 from c149)]; done)
        · obtain ⟨j2, j3, j4⟩ := hJ
          rcases (show j = 0 ∨ j = 1 ∨ j = 2 ∨ j = 3 ∨ j = 4 ∨ j = 5 ∨ j = 6 ∨ j = 7 by omega) with q | q | q | q | q | q | q | q
          · subst q; rw [Rd.2.1]; unfold repJ; rw [if_pos rfl]
          · subst q; rw [Rd.2.2.2.2.1 1 (by decide) (by decide) (by decide), updL_is, if_neg (by decide), updL_is, if_neg (by decide), updL_is, if_pos rfl]; unfold repJ; rw [if_neg (by decide), if_pos rfl]
          · subst q; rw [Rd.2.2.2.2.1 2 (by decide) (by decide) (by decide), updL_is, if_neg (by decide), updL_is, if_neg (by decide), updL_is, if_neg (by decide), j2]; unfold repJ; rw [if_neg (by decide), if_neg (by decide), if_pos rfl]
          · subst q; rw [Rd.2.2.2.2.1 3 (by decide) (by decide) (by decide), updL_is, if_neg (by decide), updL_is, if_neg (by decide), updL_is, if_neg (by decide), j3]; unfold repJ; rw [if_neg (by decide), if_neg (by decide), if_neg (by decide), if_pos rfl]
          · subst q; rw [Rd.2.2.2.2.1 4 (by decide) (by decide) (by decide), updL_is, if_neg (by decide), updL_is, if_neg (by decide), updL_is, if_neg (by decide), j4]; unfold repJ; rw [if_neg (by decide), if_neg (by decide), if_neg (by decide), if_neg (by decide), if_pos rfl]
          · subst q; rw [Rd.2.2.1]; unfold repJ; rw [if_neg (by decide), if_neg (by decide), if_neg (by decide), if_neg (by decide), if_neg (by decide), if_pos rfl]
          · subst q; rw [Rd.2.2.2.2.1 6 (by decide) (by decide) (by decide), updL_is, if_neg (by decide), updL_is, if_pos rfl]; unfold repJ; rw [if_neg (by decide), if_neg (by decide), if_neg (by decide), if_neg (by decide), if_neg (by decide), if_neg (by decide), if_pos rfl]
          · subst q; rw [Rd.2.2.2.2.1 7 (by decide) (by decide) (by decide), updL_is, if_pos rfl]; unfold repJ; rw [if_neg (by decide), if_neg (by decide), if_neg (by decide), if_neg (by decide), if_neg (by decide), if_neg (by decide), if_neg (by decide)]
      · refine gi_iconst (q := 153) (v := 3) C (dm_Ma_make 86 rfl) rfl (by decide) ?_
        refine gi_goto (tgt := 158) C (dm_Ma_make 87 rfl) (by decide) ?_
        refine gi_iret C hr (dm_Ma_make 89 rfl) ?_
        refine ⟨?_, rfl, _, _, _, _, Fd, Jd, _, Qd, fun j hj => ?_⟩
        · unfold rtL
          first
            | (rw [if_pos (show e = 0 from c149)]; done)
            | (rw [if_neg (show ¬ e = 0 from c149)]; done)
        · obtain ⟨j2, j3, j4⟩ := hJ
          rcases (show j = 0 ∨ j = 1 ∨ j = 2 ∨ j = 3 ∨ j = 4 ∨ j = 5 ∨ j = 6 ∨ j = 7 by omega) with q | q | q | q | q | q | q | q
          · subst q; rw [Rd.2.1]; unfold repJ; rw [if_pos rfl]
          · subst q; rw [Rd.2.2.2.2.1 1 (by decide) (by decide) (by decide), updL_is, if_neg (by decide), updL_is, if_neg (by decide), updL_is, if_pos rfl]; unfold repJ; rw [if_neg (by decide), if_pos rfl]
          · subst q; rw [Rd.2.2.2.2.1 2 (by decide) (by decide) (by decide), updL_is, if_neg (by decide), updL_is, if_neg (by decide), updL_is, if_neg (by decide), j2]; unfold repJ; rw [if_neg (by decide), if_neg (by decide), if_pos rfl]
          · subst q; rw [Rd.2.2.2.2.1 3 (by decide) (by decide) (by decide), updL_is, if_neg (by decide), updL_is, if_neg (by decide), updL_is, if_neg (by decide), j3]; unfold repJ; rw [if_neg (by decide), if_neg (by decide), if_neg (by decide), if_pos rfl]
          · subst q; rw [Rd.2.2.2.2.1 4 (by decide) (by decide) (by decide), updL_is, if_neg (by decide), updL_is, if_neg (by decide), updL_is, if_neg (by decide), j4]; unfold repJ; rw [if_neg (by decide), if_neg (by decide), if_neg (by decide), if_neg (by decide), if_pos rfl]
          · subst q; rw [Rd.2.2.1]; unfold repJ; rw [if_neg (by decide), if_neg (by decide), if_neg (by decide), if_neg (by decide), if_neg (by decide), if_pos rfl]
          · subst q; rw [Rd.2.2.2.2.1 6 (by decide) (by decide) (by decide), updL_is, if_neg (by decide), updL_is, if_pos rfl]; unfold repJ; rw [if_neg (by decide), if_neg (by decide), if_neg (by decide), if_neg (by decide), if_neg (by decide), if_neg (by decide), if_pos rfl]
          · subst q; rw [Rd.2.2.2.2.1 7 (by decide) (by decide) (by decide), updL_is, if_pos rfl]; unfold repJ; rw [if_neg (by decide), if_neg (by decide), if_neg (by decide), if_neg (by decide), if_neg (by decide), if_neg (by decide), if_neg (by decide)]
    · have bN : b < N := by
        rcases Nat.lt_or_ge b N with q | q
        · exact q
        · exact absurd (nI_le q (by omega)) c19
      have e0 : e = 0 := c24
      subst e0
      have hT := hT rfl
      rw [if_pos rfl] at hR
      have t16 := Yr.1
      obtain ⟨-, -, ⟨hm1, hi1, -⟩, -⟩ := id hT
      have w8 := B.wf.k8
      have wm1 := wf_ar B.wf hm1
      cases wt with
      | false =>
        refine gi_aload_n (q := 28) (i := 0) C (dm_Ma_make 15 rfl) rfl rfl rfl ?_
        refine gi_get (q := 31) C (dm_Ma_make 16 rfl) rfl fl_Ma_60 Yq.ob rfl ?_
        refine gi_if_eq (q := 34) (tgt := 52) C (dm_Ma_make 17 rfl) rfl (by decide) (fun c31 => ?_) (fun c31 => ?_)
        · refine gi_aload_n (q := 53) (i := 0) C (dm_Ma_make 27 rfl) rfl rfl rfl ?_
          refine gi_get (q := 56) C (dm_Ma_make 28 rfl) rfl fl_Ma_22 Yq.ob rfl ?_
          refine gi_iconst (q := 57) (v := 2) C (dm_Ma_make 29 rfl) rfl (by decide) ?_
          refine gi_iload (q := 59) C (dm_Ma_make 30 rfl) rfl rfl ?_
          refine gi_iconst (q := 60) (v := 1) C (dm_Ma_make 31 rfl) rfl (by decide) ?_
          refine gi_iadd (q := 61) C (dm_Ma_make 32 rfl) rfl ?_
          rw [nI_1]
          refine gi_i2l (q := 62) C (dm_Ma_make 33 rfl) rfl ?_
          refine gi_last (q := 63) C (dm_Ma_make 34 rfl) rfl rfl Yq.a6 (inN (show 2 < 8 by decide) (by decide)) ?_
          have Wa := MW.rep (j := 2) (v := (nI (b + 1)).toInt64) (by decide) (by decide) Yq Yr
          obtain ⟨Fa, Ja, Qa, Ra⟩ := id Wa
          refine gi_aload_n (q := 64) (i := 0) C (dm_Ma_make 35 rfl) rfl rfl rfl ?_
          refine gi_get (q := 67) C (dm_Ma_make 36 rfl) rfl fl_Ma_22 Qa.ob rfl ?_
          refine gi_iconst (q := 68) (v := 3) C (dm_Ma_make 37 rfl) rfl (by decide) ?_
          refine gi_aload_n (q := 69) (i := 0) C (dm_Ma_make 38 rfl) rfl rfl rfl ?_
          refine gi_get (q := 72) C (dm_Ma_make 39 rfl) rfl fl_Ma_36 Qa.ob rfl ?_
          refine gi_aload_n (q := 73) (i := 0) C (dm_Ma_make 40 rfl) rfl rfl rfl ?_
          refine gi_get (q := 76) C (dm_Ma_make 41 rfl) rfl fl_Ma_72 Qa.ob rfl ?_
          refine gi_iald (q := 77) C (dm_Ma_make 42 rfl) rfl rfl Qa.a10 (in16 t16) ?_
          rw [nI_clamp (show z.top < 2 ^ 31 by omega), Ra.cur.1]
          refine gi_i2l (q := 78) C (dm_Ma_make 43 rfl) rfl ?_
          refine gi_last (q := 79) C (dm_Ma_make 44 rfl) rfl rfl Qa.a6 (inN (show 3 < 8 by decide) (by decide)) ?_
          have Wb := MW.rep (j := 3) (v := (nI z.cur.m).toInt64) (by decide) (by decide) Qa Ra
          obtain ⟨Fb, Jb, Qb, Rb⟩ := id Wb
          refine gi_aload_n (q := 80) (i := 0) C (dm_Ma_make 45 rfl) rfl rfl rfl ?_
          refine gi_get (q := 83) C (dm_Ma_make 46 rfl) rfl fl_Ma_22 Qb.ob rfl ?_
          refine gi_iconst (q := 84) (v := 4) C (dm_Ma_make 47 rfl) rfl (by decide) ?_
          refine gi_aload_n (q := 85) (i := 0) C (dm_Ma_make 48 rfl) rfl rfl rfl ?_
          refine gi_get (q := 88) C (dm_Ma_make 49 rfl) rfl fl_Ma_39 Qb.ob rfl ?_
          refine gi_aload_n (q := 89) (i := 0) C (dm_Ma_make 50 rfl) rfl rfl rfl ?_
          refine gi_get (q := 92) C (dm_Ma_make 51 rfl) rfl fl_Ma_72 Qb.ob rfl ?_
          refine gi_iald (q := 93) C (dm_Ma_make 52 rfl) rfl rfl Qb.a11 (in16 t16) ?_
          rw [nI_clamp (show z.top < 2 ^ 31 by omega), Rb.cur.2.1]
          refine gi_i2l (q := 94) C (dm_Ma_make 53 rfl) rfl ?_
          refine gi_last (q := 95) C (dm_Ma_make 54 rfl) rfl rfl Qb.a6 (inN (show 4 < 8 by decide) (by decide)) ?_
          have Wc := MW.rep (j := 4) (v := (nI z.cur.i).toInt64) (by decide) (by decide) Qb Rb
          obtain ⟨Fd, Jd, Qd, Rd⟩ := id Wc
          refine gi_aload_n (q := 96) (i := 0) C (dm_Ma_make 55 rfl) rfl rfl rfl ?_
          refine gi_callv 0 (q := 99) C (dm_Ma_make 56 rfl) rfl my_Ma_perform lk_Ma_75 im_Ma_perform rfl (PF z hT _ trivial Wc) Qd.ob rfl rfl ⟨(Nat.le_of_ble_eq_true rfl), (Nat.le_of_ble_eq_true rfl)⟩ (Nat.le_of_ble_eq_true rfl) ⟨(Nat.le_of_ble_eq_true rfl), (Nat.le_of_ble_eq_true rfl)⟩ (fun r96 n96 h96 e96 => ?_)
          obtain ⟨rfl, rfl, W96⟩ := e96
          refine gi_istore (q := 101) C (dm_Ma_make 57 rfl) rfl (Nat.le_of_ble_eq_true rfl) ?_
          refine gi_iinc (q := 104) (v := 1) C (dm_Ma_make 58 rfl) rfl rfl (by decide) (Nat.le_of_ble_eq_true rfl) ?_
          refine gi_goto (tgt := 16) C (dm_Ma_make 59 rfl) (by decide) ?_
          refine gi_close (ih (((p z).1, b + 1, z.cur.m, z.cur.i, sx, false), (p z).2) _ ⟨bN, ⟨_, W96, ?_⟩, fun e0 => PK z hT e0, ?_, fun q => by cases q⟩ (by show N - (b + 1) < N - b; omega)) (List.forall_mem_cons.mpr ⟨rfl, List.forall_mem_cons.mpr ⟨(by simp [gi_look, nI_1]), List.forall_mem_cons.mpr ⟨rfl, List.forall_mem_cons.mpr ⟨rfl, fun _ h => absurd h List.not_mem_nil⟩⟩⟩⟩) rfl rfl rfl
          · refine ⟨?_, ?_, ?_⟩ <;> rfl
          · rw [hR, show N - b = N - (b + 1) + 1 by omega, LS, if_neg (show ¬ (false = true ∧ td z = false) from fun q => by cases q.1), Bool.false_and]
        · exact absurd rfl c31
      | true =>
        have cbt : cb = true := hcb rfl
        have tk := tell_ok B (hF cbt) hT
        refine gi_aload_n (q := 28) (i := 0) C (dm_Ma_make 15 rfl) rfl rfl rfl ?_
        refine gi_get (q := 31) C (dm_Ma_make 16 rfl) rfl fl_Ma_60 Yq.ob rfl ?_
        refine gi_if_eq (q := 34) (tgt := 52) C (dm_Ma_make 17 rfl) rfl (by decide) (fun c31 => ?_) (fun c31 => ?_)
        · exact absurd c31 (by decide)
        · refine gi_aload_n (q := 35) (i := 0) C (dm_Ma_make 18 rfl) rfl rfl rfl ?_
          refine gi_callv 0 (q := 38) C (dm_Ma_make 19 rfl) rfl my_Ma_isTold lk_Ma_68 im_Ma_isTold rfl (TD z (by omega) (by omega) tk _ Yw) Yq.ob rfl rfl ⟨(Nat.le_of_ble_eq_true rfl), (Nat.le_of_ble_eq_true rfl)⟩ (Nat.le_of_ble_eq_true rfl) ⟨(Nat.le_of_ble_eq_true rfl), (Nat.le_of_ble_eq_true rfl)⟩ (fun r35 n35 h35 e35 => ?_)
          obtain ⟨rfl, q35, u35⟩ := e35
          rw [q35, u35]
          refine gi_if_ne (q := 41) (tgt := 52) C (dm_Ma_make 20 rfl) rfl (by decide) (fun c38 => ?_) (fun c38 => ?_)
          · have tb := bI_t c38
            refine gi_aload_n (q := 53) (i := 0) C (dm_Ma_make 27 rfl) rfl rfl rfl ?_
            refine gi_get (q := 56) C (dm_Ma_make 28 rfl) rfl fl_Ma_22 Yq.ob rfl ?_
            refine gi_iconst (q := 57) (v := 2) C (dm_Ma_make 29 rfl) rfl (by decide) ?_
            refine gi_iload (q := 59) C (dm_Ma_make 30 rfl) rfl rfl ?_
            refine gi_iconst (q := 60) (v := 1) C (dm_Ma_make 31 rfl) rfl (by decide) ?_
            refine gi_iadd (q := 61) C (dm_Ma_make 32 rfl) rfl ?_
            rw [nI_1]
            refine gi_i2l (q := 62) C (dm_Ma_make 33 rfl) rfl ?_
            refine gi_last (q := 63) C (dm_Ma_make 34 rfl) rfl rfl Yq.a6 (inN (show 2 < 8 by decide) (by decide)) ?_
            have Wa := MW.rep (j := 2) (v := (nI (b + 1)).toInt64) (by decide) (by decide) Yq Yr
            obtain ⟨Fa, Ja, Qa, Ra⟩ := id Wa
            refine gi_aload_n (q := 64) (i := 0) C (dm_Ma_make 35 rfl) rfl rfl rfl ?_
            refine gi_get (q := 67) C (dm_Ma_make 36 rfl) rfl fl_Ma_22 Qa.ob rfl ?_
            refine gi_iconst (q := 68) (v := 3) C (dm_Ma_make 37 rfl) rfl (by decide) ?_
            refine gi_aload_n (q := 69) (i := 0) C (dm_Ma_make 38 rfl) rfl rfl rfl ?_
            refine gi_get (q := 72) C (dm_Ma_make 39 rfl) rfl fl_Ma_36 Qa.ob rfl ?_
            refine gi_aload_n (q := 73) (i := 0) C (dm_Ma_make 40 rfl) rfl rfl rfl ?_
            refine gi_get (q := 76) C (dm_Ma_make 41 rfl) rfl fl_Ma_72 Qa.ob rfl ?_
            refine gi_iald (q := 77) C (dm_Ma_make 42 rfl) rfl rfl Qa.a10 (in16 t16) ?_
            rw [nI_clamp (show z.top < 2 ^ 31 by omega), Ra.cur.1]
            refine gi_i2l (q := 78) C (dm_Ma_make 43 rfl) rfl ?_
            refine gi_last (q := 79) C (dm_Ma_make 44 rfl) rfl rfl Qa.a6 (inN (show 3 < 8 by decide) (by decide)) ?_
            have Wb := MW.rep (j := 3) (v := (nI z.cur.m).toInt64) (by decide) (by decide) Qa Ra
            obtain ⟨Fb, Jb, Qb, Rb⟩ := id Wb
            refine gi_aload_n (q := 80) (i := 0) C (dm_Ma_make 45 rfl) rfl rfl rfl ?_
            refine gi_get (q := 83) C (dm_Ma_make 46 rfl) rfl fl_Ma_22 Qb.ob rfl ?_
            refine gi_iconst (q := 84) (v := 4) C (dm_Ma_make 47 rfl) rfl (by decide) ?_
            refine gi_aload_n (q := 85) (i := 0) C (dm_Ma_make 48 rfl) rfl rfl rfl ?_
            refine gi_get (q := 88) C (dm_Ma_make 49 rfl) rfl fl_Ma_39 Qb.ob rfl ?_
            refine gi_aload_n (q := 89) (i := 0) C (dm_Ma_make 50 rfl) rfl rfl rfl ?_
            refine gi_get (q := 92) C (dm_Ma_make 51 rfl) rfl fl_Ma_72 Qb.ob rfl ?_
            refine gi_iald (q := 93) C (dm_Ma_make 52 rfl) rfl rfl Qb.a11 (in16 t16) ?_
            rw [nI_clamp (show z.top < 2 ^ 31 by omega), Rb.cur.2.1]
            refine gi_i2l (q := 94) C (dm_Ma_make 53 rfl) rfl ?_
            refine gi_last (q := 95) C (dm_Ma_make 54 rfl) rfl rfl Qb.a6 (inN (show 4 < 8 by decide) (by decide)) ?_
            have Wc := MW.rep (j := 4) (v := (nI z.cur.i).toInt64) (by decide) (by decide) Qb Rb
            obtain ⟨Fd, Jd, Qd, Rd⟩ := id Wc
            refine gi_aload_n (q := 96) (i := 0) C (dm_Ma_make 55 rfl) rfl rfl rfl ?_
            refine gi_callv 0 (q := 99) C (dm_Ma_make 56 rfl) rfl my_Ma_perform lk_Ma_75 im_Ma_perform rfl (PF z hT _ trivial Wc) Qd.ob rfl rfl ⟨(Nat.le_of_ble_eq_true rfl), (Nat.le_of_ble_eq_true rfl)⟩ (Nat.le_of_ble_eq_true rfl) ⟨(Nat.le_of_ble_eq_true rfl), (Nat.le_of_ble_eq_true rfl)⟩ (fun r96 n96 h96 e96 => ?_)
            obtain ⟨rfl, rfl, W96⟩ := e96
            refine gi_istore (q := 101) C (dm_Ma_make 57 rfl) rfl (Nat.le_of_ble_eq_true rfl) ?_
            refine gi_iinc (q := 104) (v := 1) C (dm_Ma_make 58 rfl) rfl rfl (by decide) (Nat.le_of_ble_eq_true rfl) ?_
            refine gi_goto (tgt := 16) C (dm_Ma_make 59 rfl) (by decide) ?_
            refine gi_close (ih (((p z).1, b + 1, z.cur.m, z.cur.i, sx, true), (p z).2) _ ⟨bN, ⟨_, W96, ?_⟩, fun e0 => PK z hT e0, ?_, fun _ => cbt⟩ (by show N - (b + 1) < N - b; omega)) (List.forall_mem_cons.mpr ⟨rfl, List.forall_mem_cons.mpr ⟨(by simp [gi_look, nI_1]), List.forall_mem_cons.mpr ⟨rfl, List.forall_mem_cons.mpr ⟨rfl, fun _ h => absurd h List.not_mem_nil⟩⟩⟩⟩) rfl rfl rfl
            · refine ⟨?_, ?_, ?_⟩ <;> rfl
            · rw [hR, show N - b = N - (b + 1) + 1 by omega, LS, tb, if_neg (show ¬ (true = true ∧ true = false) from fun q => by cases q.2), Bool.true_and]
          · have tb := bI_fa c38
            refine gi_aload_n (q := 42) (i := 0) C (dm_Ma_make 21 rfl) rfl rfl rfl ?_
            refine gi_iload (q := 44) C (dm_Ma_make 22 rfl) rfl rfl ?_
            refine gi_put (q := 47) C (dm_Ma_make 23 rfl) rfl fl_Ma_9 fp_Ma_0 Yq.ob (Nat.le_of_ble_eq_true rfl) rfl rfl ?_
            have Q8 := Yq.pO (nI b) (nI z.top) z.wr (bI true) (bI z.as)
            refine gi_aload_n (q := 48) (i := 0) C (dm_Ma_make 24 rfl) rfl rfl rfl ?_
            refine gi_iconst (q := 49) (v := 0) C (dm_Ma_make 25 rfl) rfl (by decide) ?_
            refine gi_put (q := 52) C (dm_Ma_make 26 rfl) rfl fl_Ma_60 fp_Ma_14 Q8.ob (Nat.le_of_ble_eq_true rfl) rfl rfl ?_
            have Q9 : MO a pr bu fa gv h0 (nI b) (nI z.top) z.wr (bI false) (bI z.as) Fy Jy z.hp _ := Q8.pO (nI b) (nI z.top) z.wr 0 (bI z.as)
            refine gi_aload_n (q := 53) (i := 0) C (dm_Ma_make 27 rfl) rfl rfl rfl ?_
            refine gi_get (q := 56) C (dm_Ma_make 28 rfl) rfl fl_Ma_22 Q9.ob rfl ?_
            refine gi_iconst (q := 57) (v := 2) C (dm_Ma_make 29 rfl) rfl (by decide) ?_
            refine gi_iload (q := 59) C (dm_Ma_make 30 rfl) rfl rfl ?_
            refine gi_iconst (q := 60) (v := 1) C (dm_Ma_make 31 rfl) rfl (by decide) ?_
            refine gi_iadd (q := 61) C (dm_Ma_make 32 rfl) rfl ?_
            rw [nI_1]
            refine gi_i2l (q := 62) C (dm_Ma_make 33 rfl) rfl ?_
            refine gi_last (q := 63) C (dm_Ma_make 34 rfl) rfl rfl Q9.a6 (inN (show 2 < 8 by decide) (by decide)) ?_
            have Wa := MW.rep (j := 2) (v := (nI (b + 1)).toInt64) (by decide) (by decide) Q9 Yr
            obtain ⟨Fa, Ja, Qa, Ra⟩ := id Wa
            refine gi_aload_n (q := 64) (i := 0) C (dm_Ma_make 35 rfl) rfl rfl rfl ?_
            refine gi_get (q := 67) C (dm_Ma_make 36 rfl) rfl fl_Ma_22 Qa.ob rfl ?_
            refine gi_iconst (q := 68) (v := 3) C (dm_Ma_make 37 rfl) rfl (by decide) ?_
            refine gi_aload_n (q := 69) (i := 0) C (dm_Ma_make 38 rfl) rfl rfl rfl ?_
            refine gi_get (q := 72) C (dm_Ma_make 39 rfl) rfl fl_Ma_36 Qa.ob rfl ?_
            refine gi_aload_n (q := 73) (i := 0) C (dm_Ma_make 40 rfl) rfl rfl rfl ?_
            refine gi_get (q := 76) C (dm_Ma_make 41 rfl) rfl fl_Ma_72 Qa.ob rfl ?_
            refine gi_iald (q := 77) C (dm_Ma_make 42 rfl) rfl rfl Qa.a10 (in16 t16) ?_
            rw [nI_clamp (show z.top < 2 ^ 31 by omega), Ra.cur.1]
            refine gi_i2l (q := 78) C (dm_Ma_make 43 rfl) rfl ?_
            refine gi_last (q := 79) C (dm_Ma_make 44 rfl) rfl rfl Qa.a6 (inN (show 3 < 8 by decide) (by decide)) ?_
            have Wb := MW.rep (j := 3) (v := (nI z.cur.m).toInt64) (by decide) (by decide) Qa Ra
            obtain ⟨Fb, Jb, Qb, Rb⟩ := id Wb
            refine gi_aload_n (q := 80) (i := 0) C (dm_Ma_make 45 rfl) rfl rfl rfl ?_
            refine gi_get (q := 83) C (dm_Ma_make 46 rfl) rfl fl_Ma_22 Qb.ob rfl ?_
            refine gi_iconst (q := 84) (v := 4) C (dm_Ma_make 47 rfl) rfl (by decide) ?_
            refine gi_aload_n (q := 85) (i := 0) C (dm_Ma_make 48 rfl) rfl rfl rfl ?_
            refine gi_get (q := 88) C (dm_Ma_make 49 rfl) rfl fl_Ma_39 Qb.ob rfl ?_
            refine gi_aload_n (q := 89) (i := 0) C (dm_Ma_make 50 rfl) rfl rfl rfl ?_
            refine gi_get (q := 92) C (dm_Ma_make 51 rfl) rfl fl_Ma_72 Qb.ob rfl ?_
            refine gi_iald (q := 93) C (dm_Ma_make 52 rfl) rfl rfl Qb.a11 (in16 t16) ?_
            rw [nI_clamp (show z.top < 2 ^ 31 by omega), Rb.cur.2.1]
            refine gi_i2l (q := 94) C (dm_Ma_make 53 rfl) rfl ?_
            refine gi_last (q := 95) C (dm_Ma_make 54 rfl) rfl rfl Qb.a6 (inN (show 4 < 8 by decide) (by decide)) ?_
            have Wc := MW.rep (j := 4) (v := (nI z.cur.i).toInt64) (by decide) (by decide) Qb Rb
            obtain ⟨Fd, Jd, Qd, Rd⟩ := id Wc
            refine gi_aload_n (q := 96) (i := 0) C (dm_Ma_make 55 rfl) rfl rfl rfl ?_
            refine gi_callv 0 (q := 99) C (dm_Ma_make 56 rfl) rfl my_Ma_perform lk_Ma_75 im_Ma_perform rfl (PF z hT _ trivial Wc) Qd.ob rfl rfl ⟨(Nat.le_of_ble_eq_true rfl), (Nat.le_of_ble_eq_true rfl)⟩ (Nat.le_of_ble_eq_true rfl) ⟨(Nat.le_of_ble_eq_true rfl), (Nat.le_of_ble_eq_true rfl)⟩ (fun r96 n96 h96 e96 => ?_)
            obtain ⟨rfl, rfl, W96⟩ := e96
            refine gi_istore (q := 101) C (dm_Ma_make 57 rfl) rfl (Nat.le_of_ble_eq_true rfl) ?_
            refine gi_iinc (q := 104) (v := 1) C (dm_Ma_make 58 rfl) rfl rfl (by decide) (Nat.le_of_ble_eq_true rfl) ?_
            refine gi_goto (tgt := 16) C (dm_Ma_make 59 rfl) (by decide) ?_
            refine gi_close (ih (((p z).1, b + 1, z.cur.m, z.cur.i, nI b, false), (p z).2) _ ⟨bN, ⟨_, W96, ?_⟩, fun e0 => PK z hT e0, ?_, fun q => by cases q⟩ (by show N - (b + 1) < N - b; omega)) (List.forall_mem_cons.mpr ⟨rfl, List.forall_mem_cons.mpr ⟨(by simp [gi_look, nI_1]), List.forall_mem_cons.mpr ⟨rfl, List.forall_mem_cons.mpr ⟨rfl, fun _ h => absurd h List.not_mem_nil⟩⟩⟩⟩) rfl rfl rfl
            · refine ⟨?_, ?_, ?_⟩ <;> rfl
            · rw [hR, show N - b = N - (b + 1) + 1 by omega, LS, tb, if_pos (show true = true ∧ false = false from ⟨rfl, rfl⟩), Bool.true_and]
end MB1
