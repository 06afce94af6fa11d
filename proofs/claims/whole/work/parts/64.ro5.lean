-- needs: 63
section RO5
variable {l : Launch} {V : gi_V} {n : Nat} {h : gi_H} {r k s r2 k2 : Nat} {R R2 : mR} {f g : Nat → Sl}
theorem c_Va_spreadA (a : Nat) (x y : Av) (hx : okAv x) (hy : okAv y) (hk : arA x = arA y) (ha : h a = some (eV (eA (bothA x y)))) : gi_T l V y_Va_spread b_Va_spread 8 none 0 0 0 0 [.ref a, .long (eA x).2.1, .long (eA x).2.2.1] n h (gi_is none n (gi_up h a (eV (eA (farA x y))))) := by
  cases x with
  | inl x =>
    cases y with
    | inl y => exact c_Va_spread_S a (bothS x y) x.1 x.2.1 (both_ok hx hy) (by simp only [bothS]; omega) hx.2.1 (by simp only [bothS]; omega) ha
    | inr y => cases hk
  | inr x =>
    cases y with
    | inl y => cases hk
    | inr y =>
      have t := c_Va_spread_T (l := l) (V := V) (n := n) a (x.1 ||| y.1) (x.2 || y.2) (eA (.inr x)).2.1 (eA (.inr x)).2.2.1 ha
      have e : gi_up h a (eV (eA (farA (.inr x) (.inr y)))) = h := gi_up_id ha
      rw [e]
      exact t
/-- a row and what is told by it -/
def isR (k : Nat) (t : Rw) (R : mR) : Prop := R.2.2.1 = bI t.told ∧ R.2.2.2.1 = nI t.ch ∧ (t.told = true → isG R t.n t.f ∧ t.n ≤ k)
def rJn (R : mR) (c : Int32) (F : Nat → Sl) (i : Nat) : mR := (R.1, R.2.1, R.2.2.1, c, fun j => if j < i then eA (F j).1 else R.2.2.2.2.1 j, fun j => if j < i then (F j).2 else R.2.2.2.2.2 j)
theorem rJn_0 (R : mR) (c : Int32) (F : Nat → Sl) : rO R R.2.1 R.2.2.1 c = rJn R c F 0 := by
  unfold rJn
  simp
theorem rJn_1 {R : mR} {c : Int32} {F : Nat → Sl} {i : Nat} : rM (rV (rJn R c F i) i (eA (F i).1)) i (F i).2 = rJn R c F (i + 1) := by
  unfold rJn
  refine Prod.ext rfl (Prod.ext rfl (Prod.ext rfl (Prod.ext rfl (Prod.ext ?_ ?_))))
  · funext j
    show upV _ i _ j = _
    unfold upV
    dsimp only
    by_cases q : j = i
    · rw [if_pos q, if_pos (by omega), q]
    · rw [if_neg q]
      by_cases z : j < i
      · rw [if_pos z, if_pos (by omega)]
      · rw [if_neg z, if_neg (by omega)]
  · funext j
    show upV _ i _ j = _
    unfold upV
    dsimp only
    by_cases q : j = i
    · rw [if_pos q, if_pos (by omega), q]
    · rw [if_neg q]
      by_cases z : j < i
      · rw [if_pos z, if_pos (by omega)]
      · rw [if_neg z, if_neg (by omega)]
theorem rM_id {R : mR} {i : Nat} {m : Int32} (e : R.2.2.2.2.2 i = m) : rM R i m = R := by
  refine Prod.ext rfl (Prod.ext rfl (Prod.ext rfl (Prod.ext rfl (Prod.ext rfl ?_))))
  funext j
  show upV _ i _ j = _
  unfold upV
  split
  · rename_i q
    rw [q, e]
  · rfl
theorem rV_rV {R : mR} {i : Nat} {u v : mV} : rV (rV R i u) i v = rV R i v := by
  refine Prod.ext rfl (Prod.ext rfl (Prod.ext rfl (Prod.ext rfl (Prod.ext ?_ rfl))))
  funext j
  show upV (upV _ _ _) i _ j = upV _ _ _ j
  unfold upV
  split <;> rfl
theorem rJn_G {R : mR} {c : Int32} {F : Nat → Sl} {s : Nat} (h : R.2.1 = nI s) : isG (rJn R c F s) s F := ⟨h, fun i hi => by
  unfold rJn
  dsimp only
  rw [if_pos hi, if_pos hi]
  exact ⟨rfl, rfl⟩⟩
set_option maxHeartbeats 4000000 in
set_option maxRecDepth 100000 in
theorem c_Ro_join_near (ch : Nat) (b : Bool) (hb : (b && decide (4 ≤ ch + 1)) = false) (hch : b = true → ch < 2 ^ 30) (h31 : k < 2 ^ 31) (h32 : k2 < 2 ^ 31) (hd : r2 + 3 + k2 ≤ r ∨ r + 3 + k ≤ r2) (H : ro_at r k R h) (K : ro_at r2 k2 R2 h) (hG : isG R s f) (hK : isG R2 s g) (s1 : s ≤ k) (s2 : s ≤ k2) (ho : ∀ j, j < s → okAv (f j).1 ∧ okAv (g j).1 ∧ arA (f j).1 = arA (g j).1) (ht : R.2.2.1 = 1) (hcc : R.2.2.2.1 = nI ch) (hn : covR (mkR true 0 s f) s g = false) : gi_T l V y_Ro_join b_Ro_join 9 (some .boolean) 2 51 0 0 [.ref r, .ref r2, .int (bI b)] n h (fun v n' h' => v = some (.int 1) ∧ n' = n ∧ ro_at r k (rJn R (nI (ch + 1)) (fun j => joinSl false (f j) (g j)) s) h' ∧ outR r k h h') := by
  refine gi_enter (by decide) (Nat.le_of_ble_eq_true rfl) ?_
  intro _ _ _ _ _ _ _ _ C hr hnm
  obtain ⟨H0, ⟨fv, H1, -⟩, ⟨gm, H2, -⟩, H3, H4⟩ := id H
  obtain ⟨K0, ⟨fk, K1, -⟩, ⟨gk, K2, -⟩, K3, K4⟩ := id K
  refine gi_aload_n (q := 1) (i := 0) C (dm_Ro_join 0 rfl) rfl rfl rfl ?_
  refine gi_get (q := 4) C (dm_Ro_join 1 rfl) rfl fl_Ro_30 (by repeat (first | exact gi_up_self _ _ _ | assumption | rw [gi_up_ne (by omega)])) rfl ?_
  refine gi_if_ne (q := 7) (tgt := 19) C (dm_Ro_join 2 rfl) rfl (by decide) (fun c4 => ?_) (fun c4 => ?_)
  · refine gi_aload_n (q := 20) (i := 0) C (dm_Ro_join 11 rfl) rfl rfl rfl ?_
    refine gi_aload_n (q := 21) (i := 1) C (dm_Ro_join 12 rfl) rfl rfl rfl ?_
    refine gi_callv 1 (q := 24) C (dm_Ro_join 13 rfl) rfl my_Ro_covers lk_Ro_62 im_Ro_covers rfl (c_Ro_covers h31 h32 H K hG hK s1 s2 ho) H0 rfl rfl ⟨(Nat.le_of_ble_eq_true rfl), (Nat.le_of_ble_eq_true rfl)⟩ (Nat.le_of_ble_eq_true rfl) ⟨(Nat.le_of_ble_eq_true rfl), (Nat.le_of_ble_eq_true rfl)⟩ (fun r21 n21 h21 e21 => ?_)
    obtain ⟨rfl, rfl, rfl⟩ := e21
    refine gi_if_eq (q := 27) (tgt := 29) C (dm_Ro_join 14 rfl) rfl (by decide) (fun c24 => ?_) (fun c24 => ?_)
    · refine gi_aload_n (q := 30) (i := 0) C (dm_Ro_join 17 rfl) rfl rfl rfl ?_
      refine gi_dup (q := 31) C (dm_Ro_join 18 rfl) rfl rfl ?_
      refine gi_get (q := 34) C (dm_Ro_join 19 rfl) rfl fl_Ro_34 (by repeat (first | exact gi_up_self _ _ _ | assumption | rw [gi_up_ne (by omega)])) rfl ?_
      refine gi_iconst (q := 35) (v := 1) C (dm_Ro_join 20 rfl) rfl (by decide) ?_
      refine gi_iadd (q := 36) C (dm_Ro_join 21 rfl) rfl ?_
      refine gi_put (q := 39) C (dm_Ro_join 22 rfl) rfl fl_Ro_34 fp_Ro_4 (by repeat (first | exact gi_up_self _ _ _ | assumption | rw [gi_up_ne (by omega)])) (Nat.le_of_ble_eq_true rfl) rfl rfl ?_
      rw [show R.2.2.2.1 + 1 = nI (ch + 1) by rw [hcc, nI_1]]
      refine gi_iload_n (q := 40) (i := 2) C (dm_Ro_join 23 rfl) rfl rfl rfl ?_
      refine gi_if_eq (q := 43) (tgt := 55) C (dm_Ro_join 24 rfl) rfl (by decide) (fun c40 => ?_) (fun c40 => ?_)
      · refine gi_iconst (q := 56) (v := 0) C (dm_Ro_join 31 rfl) rfl (by decide) ?_
        refine gi_istore_n (q := 57) (i := 3) C (dm_Ro_join 32 rfl) rfl rfl (Nat.le_of_ble_eq_true rfl) ?_
        refine gi_iconst (q := 58) (v := 0) C (dm_Ro_join 33 rfl) rfl (by decide) ?_
        refine gi_istore (q := 60) C (dm_Ro_join 34 rfl) rfl (Nat.le_of_ble_eq_true rfl) ?_
        have V0 := H.o R.2.1 R.2.2.1 (nI (ch + 1))
        obtain ⟨FF, hFF⟩ : ∃ FF : Nat → Sl, FF = (fun j => joinSl false (f j) (g j)) := ⟨_, rfl⟩
        obtain ⟨c, hc⟩ : ∃ c : Int32, c = nI (ch + 1) := ⟨_, rfl⟩
        rw [← hFF, ← hc]
        rw [rJn_0 R _ FF] at V0
        rw [← hc] at V0
        refine gi_while (σ := Nat) (fun i => s - i) (fun i => [(4, .int (nI i)), (3, .int (bI false)), (0, .ref r), (1, .ref r2)]) (fun _ => n21) (fun _ => 0) (fun _ => 0) (fun i y => i ≤ s ∧ ro_at r k (rJn R c FF i) y ∧ outR r k h21 y) 0 ⟨Nat.zero_le _, V0, outR.rf.up (by omega) (by omega)⟩ ?_ (List.forall_mem_cons.mpr ⟨rfl, List.forall_mem_cons.mpr ⟨rfl, List.forall_mem_cons.mpr ⟨rfl, List.forall_mem_cons.mpr ⟨rfl, fun _ h => absurd h List.not_mem_nil⟩⟩⟩⟩) rfl rfl rfl
        rintro i y ⟨hi, Y, YO⟩ ih
        try dsimp only at *
        obtain ⟨Y0, ⟨fv', Y1, -⟩, ⟨gm', Y2, -⟩, Y3, Y4⟩ := id Y
        have Z : ro_at r2 k2 R2 y := K.keep (fun b b1 b2 => YO b (by omega))
        obtain ⟨Z0, ⟨fz, Z1, -⟩, ⟨gz, Z2, -⟩, Z3, Z4⟩ := id Z
        refine gi_iload (q := 62) C (dm_Ro_join 35 rfl) rfl rfl ?_
        refine gi_aload_n (q := 63) (i := 0) C (dm_Ro_join 36 rfl) rfl rfl rfl ?_
        refine gi_get (q := 66) C (dm_Ro_join 37 rfl) rfl fl_Ro_26 (by first | exact Y0 | exact Y1 | exact Y2 | exact Z0 | exact Z1 | exact Z2 | exact yi.2.2 | ((try simp only [gi_up_up]); rw [gi_up_ne (by omega)]; first | exact Y0 | exact Y1 | exact Y2 | exact Z0 | exact Z1 | exact Z2)) rfl ?_
        rw [show (rJn R c FF i).2.1 = nI s from hG.1]
        refine gi_icmp_ge (q := 69) (tgt := 168) C (dm_Ro_join 38 rfl) rfl (by decide) (fun c66 => ?_) (fun c66 => ?_)
        · have hik : i = s := by
            rcases Nat.lt_or_ge i s with q | q
            · exact absurd c66 (Int32.not_le.mpr (nI_lt q (by omega)))
            · omega
          subst hik
          refine gi_iconst (q := 169) (v := 1) C (dm_Ro_join 89 rfl) rfl (by decide) ?_
          refine gi_zret C hr (dm_Ro_join 90 rfl) rfl ?_
          exact ⟨rfl, rfl, Y, YO⟩
        · have hlt : i < s := by
            rcases Nat.lt_or_ge i s with q | q
            · exact q
            · exact absurd (nI_le q (by omega)) c66
          refine gi_iload (q := 71) C (dm_Ro_join 39 rfl) rfl rfl ?_
          refine gi_aload_n (q := 72) (i := 1) C (dm_Ro_join 40 rfl) rfl rfl rfl ?_
          refine gi_get (q := 75) C (dm_Ro_join 41 rfl) rfl fl_Ro_26 (by first | exact Y0 | exact Y1 | exact Y2 | exact Z0 | exact Z1 | exact Z2 | exact yi.2.2 | ((try simp only [gi_up_up]); rw [gi_up_ne (by omega)]; first | exact Y0 | exact Y1 | exact Y2 | exact Z0 | exact Z1 | exact Z2)) rfl ?_
          rw [hK.1]
          refine gi_icmp_ge (q := 78) (tgt := 168) C (dm_Ro_join 42 rfl) rfl (by decide) (fun c75 => ?_) (fun c75 => ?_)
          · exact absurd (nI_lt hlt (by omega)) (Int32.not_lt.mpr c75)
          · have yi := Y3 i (by omega)
            have zi := Z3 i (by omega)
            have g1 := hG.2 i hlt
            have g2 := hK.2 i hlt
            have oi := ho i hlt
            have ev : (rJn R c FF i).2.2.2.2.1 i = eA (f i).1 := by
              show (if i < i then _ else _) = _
              rw [if_neg (by omega)]
              exact g1.1
            have em : (rJn R c FF i).2.2.2.2.2 i = (f i).2 := by
              show (if i < i then _ else _) = _
              rw [if_neg (by omega)]
              exact g1.2
            rw [ev] at yi
            rw [g2.1] at zi
            have y1 : r + 3 ≤ R.1 i := yi.1
            have y2 : R.1 i < r + 3 + k := yi.2.1
            refine gi_aload_n (q := 79) (i := 0) C (dm_Ro_join 43 rfl) rfl rfl rfl ?_
            refine gi_get (q := 82) C (dm_Ro_join 44 rfl) rfl fl_Ro_11 (by first | exact Y0 | exact Y1 | exact Y2 | exact Z0 | exact Z1 | exact Z2 | exact yi.2.2 | ((try simp only [gi_up_up]); rw [gi_up_ne (by omega)]; first | exact Y0 | exact Y1 | exact Y2 | exact Z0 | exact Z1 | exact Z2)) rfl ?_
            refine gi_iload (q := 84) C (dm_Ro_join 45 rfl) rfl rfl ?_
            refine gi_aald (q := 85) C (dm_Ro_join 46 rfl) rfl rfl (by first | exact Y0 | exact Y1 | exact Y2 | exact Z0 | exact Z1 | exact Z2 | exact yi.2.2 | ((try simp only [gi_up_up]); rw [gi_up_ne (by omega)]; first | exact Y0 | exact Y1 | exact Y2 | exact Z0 | exact Z1 | exact Z2)) (vp_nI (by omega) (by omega)) (ro_rf Y Y1 (show i < k by omega) h31) ?_
            refine gi_get (q := 88) C (dm_Ro_join 47 rfl) rfl fl_Ro_65 (by first | exact Y0 | exact Y1 | exact Y2 | exact Z0 | exact Z1 | exact Z2 | exact yi.2.2 | ((try simp only [gi_up_up]); rw [gi_up_ne (by omega)]; first | exact Y0 | exact Y1 | exact Y2 | exact Z0 | exact Z1 | exact Z2)) rfl ?_
            refine gi_lstore (q := 90) C (dm_Ro_join 48 rfl) rfl (Nat.le_of_ble_eq_true rfl) ?_
            refine gi_aload_n (q := 91) (i := 0) C (dm_Ro_join 49 rfl) rfl rfl rfl ?_
            refine gi_get (q := 94) C (dm_Ro_join 50 rfl) rfl fl_Ro_11 (by first | exact Y0 | exact Y1 | exact Y2 | exact Z0 | exact Z1 | exact Z2 | exact yi.2.2 | ((try simp only [gi_up_up]); rw [gi_up_ne (by omega)]; first | exact Y0 | exact Y1 | exact Y2 | exact Z0 | exact Z1 | exact Z2)) rfl ?_
            refine gi_iload (q := 96) C (dm_Ro_join 51 rfl) rfl rfl ?_
            refine gi_aald (q := 97) C (dm_Ro_join 52 rfl) rfl rfl (by first | exact Y0 | exact Y1 | exact Y2 | exact Z0 | exact Z1 | exact Z2 | exact yi.2.2 | ((try simp only [gi_up_up]); rw [gi_up_ne (by omega)]; first | exact Y0 | exact Y1 | exact Y2 | exact Z0 | exact Z1 | exact Z2)) (vp_nI (by omega) (by omega)) (ro_rf Y Y1 (show i < k by omega) h31) ?_
            refine gi_get (q := 100) C (dm_Ro_join 53 rfl) rfl fl_Ro_69 (by first | exact Y0 | exact Y1 | exact Y2 | exact Z0 | exact Z1 | exact Z2 | exact yi.2.2 | ((try simp only [gi_up_up]); rw [gi_up_ne (by omega)]; first | exact Y0 | exact Y1 | exact Y2 | exact Z0 | exact Z1 | exact Z2)) rfl ?_
            refine gi_lstore (q := 102) C (dm_Ro_join 54 rfl) rfl (Nat.le_of_ble_eq_true rfl) ?_
            refine gi_aload_n (q := 103) (i := 0) C (dm_Ro_join 55 rfl) rfl rfl rfl ?_
            refine gi_get (q := 106) C (dm_Ro_join 56 rfl) rfl fl_Ro_11 (by first | exact Y0 | exact Y1 | exact Y2 | exact Z0 | exact Z1 | exact Z2 | exact yi.2.2 | ((try simp only [gi_up_up]); rw [gi_up_ne (by omega)]; first | exact Y0 | exact Y1 | exact Y2 | exact Z0 | exact Z1 | exact Z2)) rfl ?_
            refine gi_iload (q := 108) C (dm_Ro_join 57 rfl) rfl rfl ?_
            refine gi_aald (q := 109) C (dm_Ro_join 58 rfl) rfl rfl (by first | exact Y0 | exact Y1 | exact Y2 | exact Z0 | exact Z1 | exact Z2 | exact yi.2.2 | ((try simp only [gi_up_up]); rw [gi_up_ne (by omega)]; first | exact Y0 | exact Y1 | exact Y2 | exact Z0 | exact Z1 | exact Z2)) (vp_nI (by omega) (by omega)) (ro_rf Y Y1 (show i < k by omega) h31) ?_
            refine gi_aload_n (q := 110) (i := 1) C (dm_Ro_join 59 rfl) rfl rfl rfl ?_
            refine gi_get (q := 113) C (dm_Ro_join 60 rfl) rfl fl_Ro_11 (by first | exact Y0 | exact Y1 | exact Y2 | exact Z0 | exact Z1 | exact Z2 | exact yi.2.2 | ((try simp only [gi_up_up]); rw [gi_up_ne (by omega)]; first | exact Y0 | exact Y1 | exact Y2 | exact Z0 | exact Z1 | exact Z2)) rfl ?_
            refine gi_iload (q := 115) C (dm_Ro_join 61 rfl) rfl rfl ?_
            refine gi_aald (q := 116) C (dm_Ro_join 62 rfl) rfl rfl (by first | exact Y0 | exact Y1 | exact Y2 | exact Z0 | exact Z1 | exact Z2 | exact yi.2.2 | ((try simp only [gi_up_up]); rw [gi_up_ne (by omega)]; first | exact Y0 | exact Y1 | exact Y2 | exact Z0 | exact Z1 | exact Z2)) (vp_nI (by omega) (by omega)) (ro_rf Z Z1 (show i < k2 by omega) h32) ?_
            refine gi_callv 1 (q := 119) C (dm_Ro_join 63 rfl) rfl my_Va_both lk_Ro_72 im_Va_both rfl (c_Va_bothA (R.1 i) (R2.1 i) (f i).1 (g i).1 oi.1 oi.2.1 oi.2.2 (by omega) yi.2.2 zi.2.2) yi.2.2 rfl rfl ⟨(Nat.le_of_ble_eq_true rfl), (Nat.le_of_ble_eq_true rfl)⟩ (Nat.le_of_ble_eq_true rfl) ⟨(Nat.le_of_ble_eq_true rfl), (Nat.le_of_ble_eq_true rfl)⟩ (fun r116 n116 h116 e116 => ?_)
            obtain ⟨rfl, rfl, rfl⟩ := e116
            refine gi_iload_n (q := 120) (i := 3) C (dm_Ro_join 64 rfl) rfl rfl rfl ?_
            refine gi_if_eq (q := 123) (tgt := 137) C (dm_Ro_join 65 rfl) rfl (by decide) (fun c120 => ?_) (fun c120 => ?_)
            · refine gi_aload_n (q := 138) (i := 0) C (dm_Ro_join 73 rfl) rfl rfl rfl ?_
              refine gi_get (q := 141) C (dm_Ro_join 74 rfl) rfl fl_Ro_17 (by first | exact Y0 | exact Y1 | exact Y2 | exact Z0 | exact Z1 | exact Z2 | exact yi.2.2 | ((try simp only [gi_up_up]); rw [gi_up_ne (by omega)]; first | exact Y0 | exact Y1 | exact Y2 | exact Z0 | exact Z1 | exact Z2)) rfl ?_
              refine gi_iload (q := 143) C (dm_Ro_join 75 rfl) rfl rfl ?_
              refine gi_iald (q := 144) C (dm_Ro_join 76 rfl) rfl rfl (by first | exact Y0 | exact Y1 | exact Y2 | exact Z0 | exact Z1 | exact Z2 | exact yi.2.2 | ((try simp only [gi_up_up]); rw [gi_up_ne (by omega)]; first | exact Y0 | exact Y1 | exact Y2 | exact Z0 | exact Z1 | exact Z2)) (vp_nI (by omega) (by omega)) ?_
              refine gi_aload_n (q := 145) (i := 1) C (dm_Ro_join 77 rfl) rfl rfl rfl ?_
              refine gi_get (q := 148) C (dm_Ro_join 78 rfl) rfl fl_Ro_17 (by first | exact Y0 | exact Y1 | exact Y2 | exact Z0 | exact Z1 | exact Z2 | exact yi.2.2 | ((try simp only [gi_up_up]); rw [gi_up_ne (by omega)]; first | exact Y0 | exact Y1 | exact Y2 | exact Z0 | exact Z1 | exact Z2)) rfl ?_
              refine gi_iload (q := 150) C (dm_Ro_join 79 rfl) rfl rfl ?_
              refine gi_iald (q := 151) C (dm_Ro_join 80 rfl) rfl rfl (by first | exact Y0 | exact Y1 | exact Y2 | exact Z0 | exact Z1 | exact Z2 | exact yi.2.2 | ((try simp only [gi_up_up]); rw [gi_up_ne (by omega)]; first | exact Y0 | exact Y1 | exact Y2 | exact Z0 | exact Z1 | exact Z2)) (vp_nI (by omega) (by omega)) ?_
              rw [ro_mk Y Y2 (show i < k by omega) h31, ro_mk Z Z2 (show i < k2 by omega) h32, em, g2.2]
              refine gi_icmp_eq (q := 154) (tgt := 162) C (dm_Ro_join 81 rfl) rfl (by decide) (fun c151 => ?_) (fun c151 => ?_)
              · refine gi_iinc (q := 165) (v := 1) C (dm_Ro_join 87 rfl) rfl rfl (by decide) (Nat.le_of_ble_eq_true rfl) ?_
                refine gi_goto (tgt := 60) C (dm_Ro_join 88 rfl) (by decide) ?_
                refine gi_close (ih (i + 1) _ ⟨hlt, ?_, ?_⟩ (by omega)) (List.forall_mem_cons.mpr ⟨(by simp [gi_look, nI_1]), List.forall_mem_cons.mpr ⟨rfl, List.forall_mem_cons.mpr ⟨rfl, List.forall_mem_cons.mpr ⟨rfl, fun _ h => absurd h List.not_mem_nil⟩⟩⟩⟩) rfl rfl rfl
                · have t := Y.v (show i < k by omega) (eA (FF i).1)
                  have e2 : (FF i).1 = bothA (f i).1 (g i).1 := by rw [hFF]; rfl
                  have e3 : (FF i).2 = joinM (f i).2 (g i).2 := by rw [hFF]; rfl
                  rw [← rJn_1]
                  first
                    | (rw [rM_id (m := (FF i).2) (by
                         show (rJn R c FF i).2.2.2.2.2 i = _
                         rw [em, e3]
                         unfold joinM
                         rw [if_pos c151])]
                       rw [e2] at t ⊢
                       exact t)
                    | (have t2 := t.m ((gi_up_ne (show r + 2 ≠ R.1 i by omega)).trans Y2) i (FF i).2
                       rw [show (FF i).2 = -1 by rw [e3]; unfold joinM; rw [if_neg c151]] at t2 ⊢
                       rw [nI_clamp (by omega)]
                       rw [e2] at t2 ⊢
                       exact t2)
                · first
                    | exact YO.up (by omega) (by omega)
                    | exact (YO.up (a := R.1 i) (by omega) (by omega)).up (by omega) (by omega)
              · refine gi_aload_n (q := 155) (i := 0) C (dm_Ro_join 82 rfl) rfl rfl rfl ?_
                refine gi_get (q := 158) C (dm_Ro_join 83 rfl) rfl fl_Ro_17 (by first | exact Y0 | exact Y1 | exact Y2 | exact Z0 | exact Z1 | exact Z2 | exact yi.2.2 | ((try simp only [gi_up_up]); rw [gi_up_ne (by omega)]; first | exact Y0 | exact Y1 | exact Y2 | exact Z0 | exact Z1 | exact Z2)) rfl ?_
                refine gi_iload (q := 160) C (dm_Ro_join 84 rfl) rfl rfl ?_
                refine gi_iconst (q := 161) (v := -1) C (dm_Ro_join 85 rfl) rfl (by decide) ?_
                refine gi_iast (q := 162) C (dm_Ro_join 86 rfl) rfl rfl (by first | exact Y0 | exact Y1 | exact Y2 | exact Z0 | exact Z1 | exact Z2 | exact yi.2.2 | ((try simp only [gi_up_up]); rw [gi_up_ne (by omega)]; first | exact Y0 | exact Y1 | exact Y2 | exact Z0 | exact Z1 | exact Z2)) (vp_nI (by omega) (by omega)) ?_
                refine gi_iinc (q := 165) (v := 1) C (dm_Ro_join 87 rfl) rfl rfl (by decide) (Nat.le_of_ble_eq_true rfl) ?_
                refine gi_goto (tgt := 60) C (dm_Ro_join 88 rfl) (by decide) ?_
                refine gi_close (ih (i + 1) _ ⟨hlt, ?_, ?_⟩ (by omega)) (List.forall_mem_cons.mpr ⟨(by simp [gi_look, nI_1]), List.forall_mem_cons.mpr ⟨rfl, List.forall_mem_cons.mpr ⟨rfl, List.forall_mem_cons.mpr ⟨rfl, fun _ h => absurd h List.not_mem_nil⟩⟩⟩⟩) rfl rfl rfl
                · have t := Y.v (show i < k by omega) (eA (FF i).1)
                  have e2 : (FF i).1 = bothA (f i).1 (g i).1 := by rw [hFF]; rfl
                  have e3 : (FF i).2 = joinM (f i).2 (g i).2 := by rw [hFF]; rfl
                  rw [← rJn_1]
                  first
                    | (rw [rM_id (m := (FF i).2) (by
                         show (rJn R c FF i).2.2.2.2.2 i = _
                         rw [em, e3]
                         unfold joinM
                         rw [if_pos c151])]
                       rw [e2] at t ⊢
                       exact t)
                    | (have t2 := t.m ((gi_up_ne (show r + 2 ≠ R.1 i by omega)).trans Y2) i (FF i).2
                       rw [show (FF i).2 = -1 by rw [e3]; unfold joinM; rw [if_neg c151]] at t2 ⊢
                       rw [nI_clamp (by omega)]
                       rw [e2] at t2 ⊢
                       exact t2)
                · first
                    | exact YO.up (by omega) (by omega)
                    | exact (YO.up (a := R.1 i) (by omega) (by omega)).up (by omega) (by omega)
            · exact absurd rfl c120
      · refine gi_aload_n (q := 44) (i := 0) C (dm_Ro_join 25 rfl) rfl rfl rfl ?_
        refine gi_get (q := 47) C (dm_Ro_join 26 rfl) rfl fl_Ro_34 (by repeat (first | exact gi_up_self _ _ _ | assumption | rw [gi_up_ne (by omega)])) rfl ?_
        refine gi_iconst (q := 48) (v := 4) C (dm_Ro_join 27 rfl) rfl (by decide) ?_
        refine gi_icmp_lt (q := 51) (tgt := 55) C (dm_Ro_join 28 rfl) rfl (by decide) (fun c48 => ?_) (fun c48 => ?_)
        · refine gi_iconst (q := 56) (v := 0) C (dm_Ro_join 31 rfl) rfl (by decide) ?_
          refine gi_istore_n (q := 57) (i := 3) C (dm_Ro_join 32 rfl) rfl rfl (Nat.le_of_ble_eq_true rfl) ?_
          refine gi_iconst (q := 58) (v := 0) C (dm_Ro_join 33 rfl) rfl (by decide) ?_
          refine gi_istore (q := 60) C (dm_Ro_join 34 rfl) rfl (Nat.le_of_ble_eq_true rfl) ?_
          have V0 := H.o R.2.1 R.2.2.1 (nI (ch + 1))
          obtain ⟨FF, hFF⟩ : ∃ FF : Nat → Sl, FF = (fun j => joinSl false (f j) (g j)) := ⟨_, rfl⟩
          obtain ⟨c, hc⟩ : ∃ c : Int32, c = nI (ch + 1) := ⟨_, rfl⟩
          rw [← hFF, ← hc]
          rw [rJn_0 R _ FF] at V0
          rw [← hc] at V0
          refine gi_while (σ := Nat) (fun i => s - i) (fun i => [(4, .int (nI i)), (3, .int (bI false)), (0, .ref r), (1, .ref r2)]) (fun _ => n21) (fun _ => 0) (fun _ => 0) (fun i y => i ≤ s ∧ ro_at r k (rJn R c FF i) y ∧ outR r k h21 y) 0 ⟨Nat.zero_le _, V0, outR.rf.up (by omega) (by omega)⟩ ?_ (List.forall_mem_cons.mpr ⟨rfl, List.forall_mem_cons.mpr ⟨rfl, List.forall_mem_cons.mpr ⟨rfl, List.forall_mem_cons.mpr ⟨rfl, fun _ h => absurd h List.not_mem_nil⟩⟩⟩⟩) rfl rfl rfl
          rintro i y ⟨hi, Y, YO⟩ ih
          try dsimp only at *
          obtain ⟨Y0, ⟨fv', Y1, -⟩, ⟨gm', Y2, -⟩, Y3, Y4⟩ := id Y
          have Z : ro_at r2 k2 R2 y := K.keep (fun b b1 b2 => YO b (by omega))
          obtain ⟨Z0, ⟨fz, Z1, -⟩, ⟨gz, Z2, -⟩, Z3, Z4⟩ := id Z
          refine gi_iload (q := 62) C (dm_Ro_join 35 rfl) rfl rfl ?_
          refine gi_aload_n (q := 63) (i := 0) C (dm_Ro_join 36 rfl) rfl rfl rfl ?_
          refine gi_get (q := 66) C (dm_Ro_join 37 rfl) rfl fl_Ro_26 (by first | exact Y0 | exact Y1 | exact Y2 | exact Z0 | exact Z1 | exact Z2 | exact yi.2.2 | ((try simp only [gi_up_up]); rw [gi_up_ne (by omega)]; first | exact Y0 | exact Y1 | exact Y2 | exact Z0 | exact Z1 | exact Z2)) rfl ?_
          rw [show (rJn R c FF i).2.1 = nI s from hG.1]
          refine gi_icmp_ge (q := 69) (tgt := 168) C (dm_Ro_join 38 rfl) rfl (by decide) (fun c66 => ?_) (fun c66 => ?_)
          · have hik : i = s := by
              rcases Nat.lt_or_ge i s with q | q
              · exact absurd c66 (Int32.not_le.mpr (nI_lt q (by omega)))
              · omega
            subst hik
            refine gi_iconst (q := 169) (v := 1) C (dm_Ro_join 89 rfl) rfl (by decide) ?_
            refine gi_zret C hr (dm_Ro_join 90 rfl) rfl ?_
            exact ⟨rfl, rfl, Y, YO⟩
          · have hlt : i < s := by
              rcases Nat.lt_or_ge i s with q | q
              · exact q
              · exact absurd (nI_le q (by omega)) c66
            refine gi_iload (q := 71) C (dm_Ro_join 39 rfl) rfl rfl ?_
            refine gi_aload_n (q := 72) (i := 1) C (dm_Ro_join 40 rfl) rfl rfl rfl ?_
            refine gi_get (q := 75) C (dm_Ro_join 41 rfl) rfl fl_Ro_26 (by first | exact Y0 | exact Y1 | exact Y2 | exact Z0 | exact Z1 | exact Z2 | exact yi.2.2 | ((try simp only [gi_up_up]); rw [gi_up_ne (by omega)]; first | exact Y0 | exact Y1 | exact Y2 | exact Z0 | exact Z1 | exact Z2)) rfl ?_
            rw [hK.1]
            refine gi_icmp_ge (q := 78) (tgt := 168) C (dm_Ro_join 42 rfl) rfl (by decide) (fun c75 => ?_) (fun c75 => ?_)
            · exact absurd (nI_lt hlt (by omega)) (Int32.not_lt.mpr c75)
            · have yi := Y3 i (by omega)
              have zi := Z3 i (by omega)
              have g1 := hG.2 i hlt
              have g2 := hK.2 i hlt
              have oi := ho i hlt
              have ev : (rJn R c FF i).2.2.2.2.1 i = eA (f i).1 := by
                show (if i < i then _ else _) = _
                rw [if_neg (by omega)]
                exact g1.1
              have em : (rJn R c FF i).2.2.2.2.2 i = (f i).2 := by
                show (if i < i then _ else _) = _
                rw [if_neg (by omega)]
                exact g1.2
              rw [ev] at yi
              rw [g2.1] at zi
              have y1 : r + 3 ≤ R.1 i := yi.1
              have y2 : R.1 i < r + 3 + k := yi.2.1
              refine gi_aload_n (q := 79) (i := 0) C (dm_Ro_join 43 rfl) rfl rfl rfl ?_
              refine gi_get (q := 82) C (dm_Ro_join 44 rfl) rfl fl_Ro_11 (by first | exact Y0 | exact Y1 | exact Y2 | exact Z0 | exact Z1 | exact Z2 | exact yi.2.2 | ((try simp only [gi_up_up]); rw [gi_up_ne (by omega)]; first | exact Y0 | exact Y1 | exact Y2 | exact Z0 | exact Z1 | exact Z2)) rfl ?_
              refine gi_iload (q := 84) C (dm_Ro_join 45 rfl) rfl rfl ?_
              refine gi_aald (q := 85) C (dm_Ro_join 46 rfl) rfl rfl (by first | exact Y0 | exact Y1 | exact Y2 | exact Z0 | exact Z1 | exact Z2 | exact yi.2.2 | ((try simp only [gi_up_up]); rw [gi_up_ne (by omega)]; first | exact Y0 | exact Y1 | exact Y2 | exact Z0 | exact Z1 | exact Z2)) (vp_nI (by omega) (by omega)) (ro_rf Y Y1 (show i < k by omega) h31) ?_
              refine gi_get (q := 88) C (dm_Ro_join 47 rfl) rfl fl_Ro_65 (by first | exact Y0 | exact Y1 | exact Y2 | exact Z0 | exact Z1 | exact Z2 | exact yi.2.2 | ((try simp only [gi_up_up]); rw [gi_up_ne (by omega)]; first | exact Y0 | exact Y1 | exact Y2 | exact Z0 | exact Z1 | exact Z2)) rfl ?_
              refine gi_lstore (q := 90) C (dm_Ro_join 48 rfl) rfl (Nat.le_of_ble_eq_true rfl) ?_
              refine gi_aload_n (q := 91) (i := 0) C (dm_Ro_join 49 rfl) rfl rfl rfl ?_
              refine gi_get (q := 94) C (dm_Ro_join 50 rfl) rfl fl_Ro_11 (by first | exact Y0 | exact Y1 | exact Y2 | exact Z0 | exact Z1 | exact Z2 | exact yi.2.2 | ((try simp only [gi_up_up]); rw [gi_up_ne (by omega)]; first | exact Y0 | exact Y1 | exact Y2 | exact Z0 | exact Z1 | exact Z2)) rfl ?_
              refine gi_iload (q := 96) C (dm_Ro_join 51 rfl) rfl rfl ?_
              refine gi_aald (q := 97) C (dm_Ro_join 52 rfl) rfl rfl (by first | exact Y0 | exact Y1 | exact Y2 | exact Z0 | exact Z1 | exact Z2 | exact yi.2.2 | ((try simp only [gi_up_up]); rw [gi_up_ne (by omega)]; first | exact Y0 | exact Y1 | exact Y2 | exact Z0 | exact Z1 | exact Z2)) (vp_nI (by omega) (by omega)) (ro_rf Y Y1 (show i < k by omega) h31) ?_
              refine gi_get (q := 100) C (dm_Ro_join 53 rfl) rfl fl_Ro_69 (by first | exact Y0 | exact Y1 | exact Y2 | exact Z0 | exact Z1 | exact Z2 | exact yi.2.2 | ((try simp only [gi_up_up]); rw [gi_up_ne (by omega)]; first | exact Y0 | exact Y1 | exact Y2 | exact Z0 | exact Z1 | exact Z2)) rfl ?_
              refine gi_lstore (q := 102) C (dm_Ro_join 54 rfl) rfl (Nat.le_of_ble_eq_true rfl) ?_
              refine gi_aload_n (q := 103) (i := 0) C (dm_Ro_join 55 rfl) rfl rfl rfl ?_
              refine gi_get (q := 106) C (dm_Ro_join 56 rfl) rfl fl_Ro_11 (by first | exact Y0 | exact Y1 | exact Y2 | exact Z0 | exact Z1 | exact Z2 | exact yi.2.2 | ((try simp only [gi_up_up]); rw [gi_up_ne (by omega)]; first | exact Y0 | exact Y1 | exact Y2 | exact Z0 | exact Z1 | exact Z2)) rfl ?_
              refine gi_iload (q := 108) C (dm_Ro_join 57 rfl) rfl rfl ?_
              refine gi_aald (q := 109) C (dm_Ro_join 58 rfl) rfl rfl (by first | exact Y0 | exact Y1 | exact Y2 | exact Z0 | exact Z1 | exact Z2 | exact yi.2.2 | ((try simp only [gi_up_up]); rw [gi_up_ne (by omega)]; first | exact Y0 | exact Y1 | exact Y2 | exact Z0 | exact Z1 | exact Z2)) (vp_nI (by omega) (by omega)) (ro_rf Y Y1 (show i < k by omega) h31) ?_
              refine gi_aload_n (q := 110) (i := 1) C (dm_Ro_join 59 rfl) rfl rfl rfl ?_
              refine gi_get (q := 113) C (dm_Ro_join 60 rfl) rfl fl_Ro_11 (by first | exact Y0 | exact Y1 | exact Y2 | exact Z0 | exact Z1 | exact Z2 | exact yi.2.2 | ((try simp only [gi_up_up]); rw [gi_up_ne (by omega)]; first | exact Y0 | exact Y1 | exact Y2 | exact Z0 | exact Z1 | exact Z2)) rfl ?_
              refine gi_iload (q := 115) C (dm_Ro_join 61 rfl) rfl rfl ?_
              refine gi_aald (q := 116) C (dm_Ro_join 62 rfl) rfl rfl (by first | exact Y0 | exact Y1 | exact Y2 | exact Z0 | exact Z1 | exact Z2 | exact yi.2.2 | ((try simp only [gi_up_up]); rw [gi_up_ne (by omega)]; first | exact Y0 | exact Y1 | exact Y2 | exact Z0 | exact Z1 | exact Z2)) (vp_nI (by omega) (by omega)) (ro_rf Z Z1 (show i < k2 by omega) h32) ?_
              refine gi_callv 1 (q := 119) C (dm_Ro_join 63 rfl) rfl my_Va_both lk_Ro_72 im_Va_both rfl (c_Va_bothA (R.1 i) (R2.1 i) (f i).1 (g i).1 oi.1 oi.2.1 oi.2.2 (by omega) yi.2.2 zi.2.2) yi.2.2 rfl rfl ⟨(Nat.le_of_ble_eq_true rfl), (Nat.le_of_ble_eq_true rfl)⟩ (Nat.le_of_ble_eq_true rfl) ⟨(Nat.le_of_ble_eq_true rfl), (Nat.le_of_ble_eq_true rfl)⟩ (fun r116 n116 h116 e116 => ?_)
              obtain ⟨rfl, rfl, rfl⟩ := e116
              refine gi_iload_n (q := 120) (i := 3) C (dm_Ro_join 64 rfl) rfl rfl rfl ?_
              refine gi_if_eq (q := 123) (tgt := 137) C (dm_Ro_join 65 rfl) rfl (by decide) (fun c120 => ?_) (fun c120 => ?_)
              · refine gi_aload_n (q := 138) (i := 0) C (dm_Ro_join 73 rfl) rfl rfl rfl ?_
                refine gi_get (q := 141) C (dm_Ro_join 74 rfl) rfl fl_Ro_17 (by first | exact Y0 | exact Y1 | exact Y2 | exact Z0 | exact Z1 | exact Z2 | exact yi.2.2 | ((try simp only [gi_up_up]); rw [gi_up_ne (by omega)]; first | exact Y0 | exact Y1 | exact Y2 | exact Z0 | exact Z1 | exact Z2)) rfl ?_
                refine gi_iload (q := 143) C (dm_Ro_join 75 rfl) rfl rfl ?_
                refine gi_iald (q := 144) C (dm_Ro_join 76 rfl) rfl rfl (by first | exact Y0 | exact Y1 | exact Y2 | exact Z0 | exact Z1 | exact Z2 | exact yi.2.2 | ((try simp only [gi_up_up]); rw [gi_up_ne (by omega)]; first | exact Y0 | exact Y1 | exact Y2 | exact Z0 | exact Z1 | exact Z2)) (vp_nI (by omega) (by omega)) ?_
                refine gi_aload_n (q := 145) (i := 1) C (dm_Ro_join 77 rfl) rfl rfl rfl ?_
                refine gi_get (q := 148) C (dm_Ro_join 78 rfl) rfl fl_Ro_17 (by first | exact Y0 | exact Y1 | exact Y2 | exact Z0 | exact Z1 | exact Z2 | exact yi.2.2 | ((try simp only [gi_up_up]); rw [gi_up_ne (by omega)]; first | exact Y0 | exact Y1 | exact Y2 | exact Z0 | exact Z1 | exact Z2)) rfl ?_
                refine gi_iload (q := 150) C (dm_Ro_join 79 rfl) rfl rfl ?_
                refine gi_iald (q := 151) C (dm_Ro_join 80 rfl) rfl rfl (by first | exact Y0 | exact Y1 | exact Y2 | exact Z0 | exact Z1 | exact Z2 | exact yi.2.2 | ((try simp only [gi_up_up]); rw [gi_up_ne (by omega)]; first | exact Y0 | exact Y1 | exact Y2 | exact Z0 | exact Z1 | exact Z2)) (vp_nI (by omega) (by omega)) ?_
                rw [ro_mk Y Y2 (show i < k by omega) h31, ro_mk Z Z2 (show i < k2 by omega) h32, em, g2.2]
                refine gi_icmp_eq (q := 154) (tgt := 162) C (dm_Ro_join 81 rfl) rfl (by decide) (fun c151 => ?_) (fun c151 => ?_)
                · refine gi_iinc (q := 165) (v := 1) C (dm_Ro_join 87 rfl) rfl rfl (by decide) (Nat.le_of_ble_eq_true rfl) ?_
                  refine gi_goto (tgt := 60) C (dm_Ro_join 88 rfl) (by decide) ?_
                  refine gi_close (ih (i + 1) _ ⟨hlt, ?_, ?_⟩ (by omega)) (List.forall_mem_cons.mpr ⟨(by simp [gi_look, nI_1]), List.forall_mem_cons.mpr ⟨rfl, List.forall_mem_cons.mpr ⟨rfl, List.forall_mem_cons.mpr ⟨rfl, fun _ h => absurd h List.not_mem_nil⟩⟩⟩⟩) rfl rfl rfl
                  · have t := Y.v (show i < k by omega) (eA (FF i).1)
                    have e2 : (FF i).1 = bothA (f i).1 (g i).1 := by rw [hFF]; rfl
                    have e3 : (FF i).2 = joinM (f i).2 (g i).2 := by rw [hFF]; rfl
                    rw [← rJn_1]
                    first
                      | (rw [rM_id (m := (FF i).2) (by
                           show (rJn R c FF i).2.2.2.2.2 i = _
                           rw [em, e3]
                           unfold joinM
                           rw [if_pos c151])]
                         rw [e2] at t ⊢
                         exact t)
                      | (have t2 := t.m ((gi_up_ne (show r + 2 ≠ R.1 i by omega)).trans Y2) i (FF i).2
                         rw [show (FF i).2 = -1 by rw [e3]; unfold joinM; rw [if_neg c151]] at t2 ⊢
                         rw [nI_clamp (by omega)]
                         rw [e2] at t2 ⊢
                         exact t2)
                  · first
                      | exact YO.up (by omega) (by omega)
                      | exact (YO.up (a := R.1 i) (by omega) (by omega)).up (by omega) (by omega)
                · refine gi_aload_n (q := 155) (i := 0) C (dm_Ro_join 82 rfl) rfl rfl rfl ?_
                  refine gi_get (q := 158) C (dm_Ro_join 83 rfl) rfl fl_Ro_17 (by first | exact Y0 | exact Y1 | exact Y2 | exact Z0 | exact Z1 | exact Z2 | exact yi.2.2 | ((try simp only [gi_up_up]); rw [gi_up_ne (by omega)]; first | exact Y0 | exact Y1 | exact Y2 | exact Z0 | exact Z1 | exact Z2)) rfl ?_
                  refine gi_iload (q := 160) C (dm_Ro_join 84 rfl) rfl rfl ?_
                  refine gi_iconst (q := 161) (v := -1) C (dm_Ro_join 85 rfl) rfl (by decide) ?_
                  refine gi_iast (q := 162) C (dm_Ro_join 86 rfl) rfl rfl (by first | exact Y0 | exact Y1 | exact Y2 | exact Z0 | exact Z1 | exact Z2 | exact yi.2.2 | ((try simp only [gi_up_up]); rw [gi_up_ne (by omega)]; first | exact Y0 | exact Y1 | exact Y2 | exact Z0 | exact Z1 | exact Z2)) (vp_nI (by omega) (by omega)) ?_
                  refine gi_iinc (q := 165) (v := 1) C (dm_Ro_join 87 rfl) rfl rfl (by decide) (Nat.le_of_ble_eq_true rfl) ?_
                  refine gi_goto (tgt := 60) C (dm_Ro_join 88 rfl) (by decide) ?_
                  refine gi_close (ih (i + 1) _ ⟨hlt, ?_, ?_⟩ (by omega)) (List.forall_mem_cons.mpr ⟨(by simp [gi_look, nI_1]), List.forall_mem_cons.mpr ⟨rfl, List.forall_mem_cons.mpr ⟨rfl, List.forall_mem_cons.mpr ⟨rfl, fun _ h => absurd h List.not_mem_nil⟩⟩⟩⟩) rfl rfl rfl
                  · have t := Y.v (show i < k by omega) (eA (FF i).1)
                    have e2 : (FF i).1 = bothA (f i).1 (g i).1 := by rw [hFF]; rfl
                    have e3 : (FF i).2 = joinM (f i).2 (g i).2 := by rw [hFF]; rfl
                    rw [← rJn_1]
                    first
                      | (rw [rM_id (m := (FF i).2) (by
                           show (rJn R c FF i).2.2.2.2.2 i = _
                           rw [em, e3]
                           unfold joinM
                           rw [if_pos c151])]
                         rw [e2] at t ⊢
                         exact t)
                      | (have t2 := t.m ((gi_up_ne (show r + 2 ≠ R.1 i by omega)).trans Y2) i (FF i).2
                         rw [show (FF i).2 = -1 by rw [e3]; unfold joinM; rw [if_neg c151]] at t2 ⊢
                         rw [nI_clamp (by omega)]
                         rw [e2] at t2 ⊢
                         exact t2)
                  · first
                      | exact YO.up (by omega) (by omega)
                      | exact (YO.up (a := R.1 i) (by omega) (by omega)).up (by omega) (by omega)
              · exact absurd rfl c120
        · exfalso
          have hb1 := bI_t c40
          rw [hb1] at hb
          have h4 : ¬ 4 ≤ ch + 1 := by simpa using hb
          exact absurd (nI_lt (b := 4) (show ch + 1 < 4 by omega) (by omega)) c48
    · exact absurd (by rw [hn]; rfl) c24
  · exact absurd (show R.2.2.1 = 1 from ht) (by rw [c4]; decide)
set_option maxHeartbeats 4000000 in
set_option maxRecDepth 100000 in
theorem c_Ro_join_far (ch : Nat) (b : Bool) (hb : (b && decide (4 ≤ ch + 1)) = true) (hch : b = true → ch < 2 ^ 30) (h31 : k < 2 ^ 31) (h32 : k2 < 2 ^ 31) (hd : r2 + 3 + k2 ≤ r ∨ r + 3 + k ≤ r2) (H : ro_at r k R h) (K : ro_at r2 k2 R2 h) (hG : isG R s f) (hK : isG R2 s g) (s1 : s ≤ k) (s2 : s ≤ k2) (ho : ∀ j, j < s → okAv (f j).1 ∧ okAv (g j).1 ∧ arA (f j).1 = arA (g j).1) (ht : R.2.2.1 = 1) (hcc : R.2.2.2.1 = nI ch) (hn : covR (mkR true 0 s f) s g = false) : gi_T l V y_Ro_join b_Ro_join 9 (some .boolean) 2 51 0 0 [.ref r, .ref r2, .int (bI b)] n h (fun v n' h' => v = some (.int 1) ∧ n' = n ∧ ro_at r k (rJn R (nI (ch + 1)) (fun j => joinSl true (f j) (g j)) s) h' ∧ outR r k h h') := by
  refine gi_enter (by decide) (Nat.le_of_ble_eq_true rfl) ?_
  intro _ _ _ _ _ _ _ _ C hr hnm
  obtain ⟨H0, ⟨fv, H1, -⟩, ⟨gm, H2, -⟩, H3, H4⟩ := id H
  obtain ⟨K0, ⟨fk, K1, -⟩, ⟨gk, K2, -⟩, K3, K4⟩ := id K
  refine gi_aload_n (q := 1) (i := 0) C (dm_Ro_join 0 rfl) rfl rfl rfl ?_
  refine gi_get (q := 4) C (dm_Ro_join 1 rfl) rfl fl_Ro_30 (by repeat (first | exact gi_up_self _ _ _ | assumption | rw [gi_up_ne (by omega)])) rfl ?_
  refine gi_if_ne (q := 7) (tgt := 19) C (dm_Ro_join 2 rfl) rfl (by decide) (fun c4 => ?_) (fun c4 => ?_)
  · refine gi_aload_n (q := 20) (i := 0) C (dm_Ro_join 11 rfl) rfl rfl rfl ?_
    refine gi_aload_n (q := 21) (i := 1) C (dm_Ro_join 12 rfl) rfl rfl rfl ?_
    refine gi_callv 1 (q := 24) C (dm_Ro_join 13 rfl) rfl my_Ro_covers lk_Ro_62 im_Ro_covers rfl (c_Ro_covers h31 h32 H K hG hK s1 s2 ho) H0 rfl rfl ⟨(Nat.le_of_ble_eq_true rfl), (Nat.le_of_ble_eq_true rfl)⟩ (Nat.le_of_ble_eq_true rfl) ⟨(Nat.le_of_ble_eq_true rfl), (Nat.le_of_ble_eq_true rfl)⟩ (fun r21 n21 h21 e21 => ?_)
    obtain ⟨rfl, rfl, rfl⟩ := e21
    refine gi_if_eq (q := 27) (tgt := 29) C (dm_Ro_join 14 rfl) rfl (by decide) (fun c24 => ?_) (fun c24 => ?_)
    · refine gi_aload_n (q := 30) (i := 0) C (dm_Ro_join 17 rfl) rfl rfl rfl ?_
      refine gi_dup (q := 31) C (dm_Ro_join 18 rfl) rfl rfl ?_
      refine gi_get (q := 34) C (dm_Ro_join 19 rfl) rfl fl_Ro_34 (by repeat (first | exact gi_up_self _ _ _ | assumption | rw [gi_up_ne (by omega)])) rfl ?_
      refine gi_iconst (q := 35) (v := 1) C (dm_Ro_join 20 rfl) rfl (by decide) ?_
      refine gi_iadd (q := 36) C (dm_Ro_join 21 rfl) rfl ?_
      refine gi_put (q := 39) C (dm_Ro_join 22 rfl) rfl fl_Ro_34 fp_Ro_4 (by repeat (first | exact gi_up_self _ _ _ | assumption | rw [gi_up_ne (by omega)])) (Nat.le_of_ble_eq_true rfl) rfl rfl ?_
      rw [show R.2.2.2.1 + 1 = nI (ch + 1) by rw [hcc, nI_1]]
      refine gi_iload_n (q := 40) (i := 2) C (dm_Ro_join 23 rfl) rfl rfl rfl ?_
      refine gi_if_eq (q := 43) (tgt := 55) C (dm_Ro_join 24 rfl) rfl (by decide) (fun c40 => ?_) (fun c40 => ?_)
      · rw [bI_fa c40] at hb
        cases hb
      · refine gi_aload_n (q := 44) (i := 0) C (dm_Ro_join 25 rfl) rfl rfl rfl ?_
        refine gi_get (q := 47) C (dm_Ro_join 26 rfl) rfl fl_Ro_34 (by repeat (first | exact gi_up_self _ _ _ | assumption | rw [gi_up_ne (by omega)])) rfl ?_
        refine gi_iconst (q := 48) (v := 4) C (dm_Ro_join 27 rfl) rfl (by decide) ?_
        refine gi_icmp_lt (q := 51) (tgt := 55) C (dm_Ro_join 28 rfl) rfl (by decide) (fun c48 => ?_) (fun c48 => ?_)
        · exfalso
          have hb1 := bI_t c40
          rw [hb1] at hb
          have h4 : 4 ≤ ch + 1 := by simpa using hb
          have := hch hb1
          exact absurd (nI_le (a := 4) h4 (by omega)) (Int32.not_le.mpr c48)
        · refine gi_iconst (q := 52) (v := 1) C (dm_Ro_join 29 rfl) rfl (by decide) ?_
          refine gi_goto (tgt := 56) C (dm_Ro_join 30 rfl) (by decide) ?_
          refine gi_istore_n (q := 57) (i := 3) C (dm_Ro_join 32 rfl) rfl rfl (Nat.le_of_ble_eq_true rfl) ?_
          refine gi_iconst (q := 58) (v := 0) C (dm_Ro_join 33 rfl) rfl (by decide) ?_
          refine gi_istore (q := 60) C (dm_Ro_join 34 rfl) rfl (Nat.le_of_ble_eq_true rfl) ?_
          have V0 := H.o R.2.1 R.2.2.1 (nI (ch + 1))
          obtain ⟨FF, hFF⟩ : ∃ FF : Nat → Sl, FF = (fun j => joinSl true (f j) (g j)) := ⟨_, rfl⟩
          obtain ⟨c, hc⟩ : ∃ c : Int32, c = nI (ch + 1) := ⟨_, rfl⟩
          rw [← hFF, ← hc]
          rw [rJn_0 R _ FF] at V0
          rw [← hc] at V0
          refine gi_while (σ := Nat) (fun i => s - i) (fun i => [(4, .int (nI i)), (3, .int (bI true)), (0, .ref r), (1, .ref r2)]) (fun _ => n21) (fun _ => 0) (fun _ => 0) (fun i y => i ≤ s ∧ ro_at r k (rJn R c FF i) y ∧ outR r k h21 y) 0 ⟨Nat.zero_le _, V0, outR.rf.up (by omega) (by omega)⟩ ?_ (List.forall_mem_cons.mpr ⟨rfl, List.forall_mem_cons.mpr ⟨rfl, List.forall_mem_cons.mpr ⟨rfl, List.forall_mem_cons.mpr ⟨rfl, fun _ h => absurd h List.not_mem_nil⟩⟩⟩⟩) rfl rfl rfl
          rintro i y ⟨hi, Y, YO⟩ ih
          try dsimp only at *
          obtain ⟨Y0, ⟨fv', Y1, -⟩, ⟨gm', Y2, -⟩, Y3, Y4⟩ := id Y
          have Z : ro_at r2 k2 R2 y := K.keep (fun b b1 b2 => YO b (by omega))
          obtain ⟨Z0, ⟨fz, Z1, -⟩, ⟨gz, Z2, -⟩, Z3, Z4⟩ := id Z
          refine gi_iload (q := 62) C (dm_Ro_join 35 rfl) rfl rfl ?_
          refine gi_aload_n (q := 63) (i := 0) C (dm_Ro_join 36 rfl) rfl rfl rfl ?_
          refine gi_get (q := 66) C (dm_Ro_join 37 rfl) rfl fl_Ro_26 (by first | exact Y0 | exact Y1 | exact Y2 | exact Z0 | exact Z1 | exact Z2 | exact yi.2.2 | ((try simp only [gi_up_up]); rw [gi_up_ne (by omega)]; first | exact Y0 | exact Y1 | exact Y2 | exact Z0 | exact Z1 | exact Z2)) rfl ?_
          rw [show (rJn R c FF i).2.1 = nI s from hG.1]
          refine gi_icmp_ge (q := 69) (tgt := 168) C (dm_Ro_join 38 rfl) rfl (by decide) (fun c66 => ?_) (fun c66 => ?_)
          · have hik : i = s := by
              rcases Nat.lt_or_ge i s with q | q
              · exact absurd c66 (Int32.not_le.mpr (nI_lt q (by omega)))
              · omega
            subst hik
            refine gi_iconst (q := 169) (v := 1) C (dm_Ro_join 89 rfl) rfl (by decide) ?_
            refine gi_zret C hr (dm_Ro_join 90 rfl) rfl ?_
            exact ⟨rfl, rfl, Y, YO⟩
          · have hlt : i < s := by
              rcases Nat.lt_or_ge i s with q | q
              · exact q
              · exact absurd (nI_le q (by omega)) c66
            refine gi_iload (q := 71) C (dm_Ro_join 39 rfl) rfl rfl ?_
            refine gi_aload_n (q := 72) (i := 1) C (dm_Ro_join 40 rfl) rfl rfl rfl ?_
            refine gi_get (q := 75) C (dm_Ro_join 41 rfl) rfl fl_Ro_26 (by first | exact Y0 | exact Y1 | exact Y2 | exact Z0 | exact Z1 | exact Z2 | exact yi.2.2 | ((try simp only [gi_up_up]); rw [gi_up_ne (by omega)]; first | exact Y0 | exact Y1 | exact Y2 | exact Z0 | exact Z1 | exact Z2)) rfl ?_
            rw [hK.1]
            refine gi_icmp_ge (q := 78) (tgt := 168) C (dm_Ro_join 42 rfl) rfl (by decide) (fun c75 => ?_) (fun c75 => ?_)
            · exact absurd (nI_lt hlt (by omega)) (Int32.not_lt.mpr c75)
            · have yi := Y3 i (by omega)
              have zi := Z3 i (by omega)
              have g1 := hG.2 i hlt
              have g2 := hK.2 i hlt
              have oi := ho i hlt
              have ev : (rJn R c FF i).2.2.2.2.1 i = eA (f i).1 := by
                show (if i < i then _ else _) = _
                rw [if_neg (by omega)]
                exact g1.1
              have em : (rJn R c FF i).2.2.2.2.2 i = (f i).2 := by
                show (if i < i then _ else _) = _
                rw [if_neg (by omega)]
                exact g1.2
              rw [ev] at yi
              rw [g2.1] at zi
              have y1 : r + 3 ≤ R.1 i := yi.1
              have y2 : R.1 i < r + 3 + k := yi.2.1
              refine gi_aload_n (q := 79) (i := 0) C (dm_Ro_join 43 rfl) rfl rfl rfl ?_
              refine gi_get (q := 82) C (dm_Ro_join 44 rfl) rfl fl_Ro_11 (by first | exact Y0 | exact Y1 | exact Y2 | exact Z0 | exact Z1 | exact Z2 | exact yi.2.2 | ((try simp only [gi_up_up]); rw [gi_up_ne (by omega)]; first | exact Y0 | exact Y1 | exact Y2 | exact Z0 | exact Z1 | exact Z2)) rfl ?_
              refine gi_iload (q := 84) C (dm_Ro_join 45 rfl) rfl rfl ?_
              refine gi_aald (q := 85) C (dm_Ro_join 46 rfl) rfl rfl (by first | exact Y0 | exact Y1 | exact Y2 | exact Z0 | exact Z1 | exact Z2 | exact yi.2.2 | ((try simp only [gi_up_up]); rw [gi_up_ne (by omega)]; first | exact Y0 | exact Y1 | exact Y2 | exact Z0 | exact Z1 | exact Z2)) (vp_nI (by omega) (by omega)) (ro_rf Y Y1 (show i < k by omega) h31) ?_
              refine gi_get (q := 88) C (dm_Ro_join 47 rfl) rfl fl_Ro_65 (by first | exact Y0 | exact Y1 | exact Y2 | exact Z0 | exact Z1 | exact Z2 | exact yi.2.2 | ((try simp only [gi_up_up]); rw [gi_up_ne (by omega)]; first | exact Y0 | exact Y1 | exact Y2 | exact Z0 | exact Z1 | exact Z2)) rfl ?_
              refine gi_lstore (q := 90) C (dm_Ro_join 48 rfl) rfl (Nat.le_of_ble_eq_true rfl) ?_
              refine gi_aload_n (q := 91) (i := 0) C (dm_Ro_join 49 rfl) rfl rfl rfl ?_
              refine gi_get (q := 94) C (dm_Ro_join 50 rfl) rfl fl_Ro_11 (by first | exact Y0 | exact Y1 | exact Y2 | exact Z0 | exact Z1 | exact Z2 | exact yi.2.2 | ((try simp only [gi_up_up]); rw [gi_up_ne (by omega)]; first | exact Y0 | exact Y1 | exact Y2 | exact Z0 | exact Z1 | exact Z2)) rfl ?_
              refine gi_iload (q := 96) C (dm_Ro_join 51 rfl) rfl rfl ?_
              refine gi_aald (q := 97) C (dm_Ro_join 52 rfl) rfl rfl (by first | exact Y0 | exact Y1 | exact Y2 | exact Z0 | exact Z1 | exact Z2 | exact yi.2.2 | ((try simp only [gi_up_up]); rw [gi_up_ne (by omega)]; first | exact Y0 | exact Y1 | exact Y2 | exact Z0 | exact Z1 | exact Z2)) (vp_nI (by omega) (by omega)) (ro_rf Y Y1 (show i < k by omega) h31) ?_
              refine gi_get (q := 100) C (dm_Ro_join 53 rfl) rfl fl_Ro_69 (by first | exact Y0 | exact Y1 | exact Y2 | exact Z0 | exact Z1 | exact Z2 | exact yi.2.2 | ((try simp only [gi_up_up]); rw [gi_up_ne (by omega)]; first | exact Y0 | exact Y1 | exact Y2 | exact Z0 | exact Z1 | exact Z2)) rfl ?_
              refine gi_lstore (q := 102) C (dm_Ro_join 54 rfl) rfl (Nat.le_of_ble_eq_true rfl) ?_
              refine gi_aload_n (q := 103) (i := 0) C (dm_Ro_join 55 rfl) rfl rfl rfl ?_
              refine gi_get (q := 106) C (dm_Ro_join 56 rfl) rfl fl_Ro_11 (by first | exact Y0 | exact Y1 | exact Y2 | exact Z0 | exact Z1 | exact Z2 | exact yi.2.2 | ((try simp only [gi_up_up]); rw [gi_up_ne (by omega)]; first | exact Y0 | exact Y1 | exact Y2 | exact Z0 | exact Z1 | exact Z2)) rfl ?_
              refine gi_iload (q := 108) C (dm_Ro_join 57 rfl) rfl rfl ?_
              refine gi_aald (q := 109) C (dm_Ro_join 58 rfl) rfl rfl (by first | exact Y0 | exact Y1 | exact Y2 | exact Z0 | exact Z1 | exact Z2 | exact yi.2.2 | ((try simp only [gi_up_up]); rw [gi_up_ne (by omega)]; first | exact Y0 | exact Y1 | exact Y2 | exact Z0 | exact Z1 | exact Z2)) (vp_nI (by omega) (by omega)) (ro_rf Y Y1 (show i < k by omega) h31) ?_
              refine gi_aload_n (q := 110) (i := 1) C (dm_Ro_join 59 rfl) rfl rfl rfl ?_
              refine gi_get (q := 113) C (dm_Ro_join 60 rfl) rfl fl_Ro_11 (by first | exact Y0 | exact Y1 | exact Y2 | exact Z0 | exact Z1 | exact Z2 | exact yi.2.2 | ((try simp only [gi_up_up]); rw [gi_up_ne (by omega)]; first | exact Y0 | exact Y1 | exact Y2 | exact Z0 | exact Z1 | exact Z2)) rfl ?_
              refine gi_iload (q := 115) C (dm_Ro_join 61 rfl) rfl rfl ?_
              refine gi_aald (q := 116) C (dm_Ro_join 62 rfl) rfl rfl (by first | exact Y0 | exact Y1 | exact Y2 | exact Z0 | exact Z1 | exact Z2 | exact yi.2.2 | ((try simp only [gi_up_up]); rw [gi_up_ne (by omega)]; first | exact Y0 | exact Y1 | exact Y2 | exact Z0 | exact Z1 | exact Z2)) (vp_nI (by omega) (by omega)) (ro_rf Z Z1 (show i < k2 by omega) h32) ?_
              refine gi_callv 1 (q := 119) C (dm_Ro_join 63 rfl) rfl my_Va_both lk_Ro_72 im_Va_both rfl (c_Va_bothA (R.1 i) (R2.1 i) (f i).1 (g i).1 oi.1 oi.2.1 oi.2.2 (by omega) yi.2.2 zi.2.2) yi.2.2 rfl rfl ⟨(Nat.le_of_ble_eq_true rfl), (Nat.le_of_ble_eq_true rfl)⟩ (Nat.le_of_ble_eq_true rfl) ⟨(Nat.le_of_ble_eq_true rfl), (Nat.le_of_ble_eq_true rfl)⟩ (fun r116 n116 h116 e116 => ?_)
              obtain ⟨rfl, rfl, rfl⟩ := e116
              refine gi_iload_n (q := 120) (i := 3) C (dm_Ro_join 64 rfl) rfl rfl rfl ?_
              refine gi_if_eq (q := 123) (tgt := 137) C (dm_Ro_join 65 rfl) rfl (by decide) (fun c120 => ?_) (fun c120 => ?_)
              · exact absurd c120 (by decide)
              · refine gi_aload_n (q := 124) (i := 0) C (dm_Ro_join 66 rfl) rfl rfl rfl ?_
                refine gi_get (q := 127) C (dm_Ro_join 67 rfl) rfl fl_Ro_11 (by first | exact Y0 | exact Y1 | exact Y2 | exact Z0 | exact Z1 | exact Z2 | exact yi.2.2 | ((try simp only [gi_up_up]); rw [gi_up_ne (by omega)]; first | exact Y0 | exact Y1 | exact Y2 | exact Z0 | exact Z1 | exact Z2)) rfl ?_
                refine gi_iload (q := 129) C (dm_Ro_join 68 rfl) rfl rfl ?_
                refine gi_aald (q := 130) C (dm_Ro_join 69 rfl) rfl rfl (by first | exact Y0 | exact Y1 | exact Y2 | exact Z0 | exact Z1 | exact Z2 | exact yi.2.2 | ((try simp only [gi_up_up]); rw [gi_up_ne (by omega)]; first | exact Y0 | exact Y1 | exact Y2 | exact Z0 | exact Z1 | exact Z2)) (vp_nI (by omega) (by omega)) (ro_rf Y Y1 (show i < k by omega) h31) ?_
                refine gi_lload (q := 132) C (dm_Ro_join 70 rfl) rfl rfl ?_
                refine gi_lload (q := 134) C (dm_Ro_join 71 rfl) rfl rfl ?_
                refine gi_callv 2 (q := 137) C (dm_Ro_join 72 rfl) rfl my_Va_spread lk_Ro_75 im_Va_spread rfl (c_Va_spreadA (R.1 i) (f i).1 (g i).1 oi.1 oi.2.1 oi.2.2 (gi_up_self _ _ _)) (gi_up_self _ _ _) rfl rfl ⟨(Nat.le_of_ble_eq_true rfl), (Nat.le_of_ble_eq_true rfl)⟩ (Nat.le_of_ble_eq_true rfl) ⟨(Nat.le_of_ble_eq_true rfl), (Nat.le_of_ble_eq_true rfl)⟩ (fun r134 n134 h134 e134 => ?_)
                obtain ⟨rfl, rfl, rfl⟩ := e134
                rw [gi_up_up]
                refine gi_aload_n (q := 138) (i := 0) C (dm_Ro_join 73 rfl) rfl rfl rfl ?_
                refine gi_get (q := 141) C (dm_Ro_join 74 rfl) rfl fl_Ro_17 (by first | exact Y0 | exact Y1 | exact Y2 | exact Z0 | exact Z1 | exact Z2 | exact yi.2.2 | ((try simp only [gi_up_up]); rw [gi_up_ne (by omega)]; first | exact Y0 | exact Y1 | exact Y2 | exact Z0 | exact Z1 | exact Z2)) rfl ?_
                refine gi_iload (q := 143) C (dm_Ro_join 75 rfl) rfl rfl ?_
                refine gi_iald (q := 144) C (dm_Ro_join 76 rfl) rfl rfl (by first | exact Y0 | exact Y1 | exact Y2 | exact Z0 | exact Z1 | exact Z2 | exact yi.2.2 | ((try simp only [gi_up_up]); rw [gi_up_ne (by omega)]; first | exact Y0 | exact Y1 | exact Y2 | exact Z0 | exact Z1 | exact Z2)) (vp_nI (by omega) (by omega)) ?_
                refine gi_aload_n (q := 145) (i := 1) C (dm_Ro_join 77 rfl) rfl rfl rfl ?_
                refine gi_get (q := 148) C (dm_Ro_join 78 rfl) rfl fl_Ro_17 (by first | exact Y0 | exact Y1 | exact Y2 | exact Z0 | exact Z1 | exact Z2 | exact yi.2.2 | ((try simp only [gi_up_up]); rw [gi_up_ne (by omega)]; first | exact Y0 | exact Y1 | exact Y2 | exact Z0 | exact Z1 | exact Z2)) rfl ?_
                refine gi_iload (q := 150) C (dm_Ro_join 79 rfl) rfl rfl ?_
                refine gi_iald (q := 151) C (dm_Ro_join 80 rfl) rfl rfl (by first | exact Y0 | exact Y1 | exact Y2 | exact Z0 | exact Z1 | exact Z2 | exact yi.2.2 | ((try simp only [gi_up_up]); rw [gi_up_ne (by omega)]; first | exact Y0 | exact Y1 | exact Y2 | exact Z0 | exact Z1 | exact Z2)) (vp_nI (by omega) (by omega)) ?_
                rw [ro_mk Y Y2 (show i < k by omega) h31, ro_mk Z Z2 (show i < k2 by omega) h32, em, g2.2]
                refine gi_icmp_eq (q := 154) (tgt := 162) C (dm_Ro_join 81 rfl) rfl (by decide) (fun c151 => ?_) (fun c151 => ?_)
                · refine gi_iinc (q := 165) (v := 1) C (dm_Ro_join 87 rfl) rfl rfl (by decide) (Nat.le_of_ble_eq_true rfl) ?_
                  refine gi_goto (tgt := 60) C (dm_Ro_join 88 rfl) (by decide) ?_
                  refine gi_close (ih (i + 1) _ ⟨hlt, ?_, ?_⟩ (by omega)) (List.forall_mem_cons.mpr ⟨(by simp [gi_look, nI_1]), List.forall_mem_cons.mpr ⟨rfl, List.forall_mem_cons.mpr ⟨rfl, List.forall_mem_cons.mpr ⟨rfl, fun _ h => absurd h List.not_mem_nil⟩⟩⟩⟩) rfl rfl rfl
                  · have t := Y.v (show i < k by omega) (eA (FF i).1)
                    have e2 : (FF i).1 = farA (f i).1 (g i).1 := by rw [hFF]; rfl
                    have e3 : (FF i).2 = joinM (f i).2 (g i).2 := by rw [hFF]; rfl
                    rw [← rJn_1]
                    first
                      | (rw [rM_id (m := (FF i).2) (by
                           show (rJn R c FF i).2.2.2.2.2 i = _
                           rw [em, e3]
                           unfold joinM
                           rw [if_pos c151])]
                         rw [e2] at t ⊢
                         exact t)
                      | (have t2 := t.m ((gi_up_ne (show r + 2 ≠ R.1 i by omega)).trans Y2) i (FF i).2
                         rw [show (FF i).2 = -1 by rw [e3]; unfold joinM; rw [if_neg c151]] at t2 ⊢
                         rw [nI_clamp (by omega)]
                         rw [e2] at t2 ⊢
                         exact t2)
                  · first
                      | exact YO.up (by omega) (by omega)
                      | exact (YO.up (a := R.1 i) (by omega) (by omega)).up (by omega) (by omega)
                · refine gi_aload_n (q := 155) (i := 0) C (dm_Ro_join 82 rfl) rfl rfl rfl ?_
                  refine gi_get (q := 158) C (dm_Ro_join 83 rfl) rfl fl_Ro_17 (by first | exact Y0 | exact Y1 | exact Y2 | exact Z0 | exact Z1 | exact Z2 | exact yi.2.2 | ((try simp only [gi_up_up]); rw [gi_up_ne (by omega)]; first | exact Y0 | exact Y1 | exact Y2 | exact Z0 | exact Z1 | exact Z2)) rfl ?_
                  refine gi_iload (q := 160) C (dm_Ro_join 84 rfl) rfl rfl ?_
                  refine gi_iconst (q := 161) (v := -1) C (dm_Ro_join 85 rfl) rfl (by decide) ?_
                  refine gi_iast (q := 162) C (dm_Ro_join 86 rfl) rfl rfl (by first | exact Y0 | exact Y1 | exact Y2 | exact Z0 | exact Z1 | exact Z2 | exact yi.2.2 | ((try simp only [gi_up_up]); rw [gi_up_ne (by omega)]; first | exact Y0 | exact Y1 | exact Y2 | exact Z0 | exact Z1 | exact Z2)) (vp_nI (by omega) (by omega)) ?_
                  refine gi_iinc (q := 165) (v := 1) C (dm_Ro_join 87 rfl) rfl rfl (by decide) (Nat.le_of_ble_eq_true rfl) ?_
                  refine gi_goto (tgt := 60) C (dm_Ro_join 88 rfl) (by decide) ?_
                  refine gi_close (ih (i + 1) _ ⟨hlt, ?_, ?_⟩ (by omega)) (List.forall_mem_cons.mpr ⟨(by simp [gi_look, nI_1]), List.forall_mem_cons.mpr ⟨rfl, List.forall_mem_cons.mpr ⟨rfl, List.forall_mem_cons.mpr ⟨rfl, fun _ h => absurd h List.not_mem_nil⟩⟩⟩⟩) rfl rfl rfl
                  · have t := Y.v (show i < k by omega) (eA (FF i).1)
                    have e2 : (FF i).1 = farA (f i).1 (g i).1 := by rw [hFF]; rfl
                    have e3 : (FF i).2 = joinM (f i).2 (g i).2 := by rw [hFF]; rfl
                    rw [← rJn_1]
                    first
                      | (rw [rM_id (m := (FF i).2) (by
                           show (rJn R c FF i).2.2.2.2.2 i = _
                           rw [em, e3]
                           unfold joinM
                           rw [if_pos c151])]
                         rw [e2] at t ⊢
                         exact t)
                      | (have t2 := t.m ((gi_up_ne (show r + 2 ≠ R.1 i by omega)).trans Y2) i (FF i).2
                         rw [show (FF i).2 = -1 by rw [e3]; unfold joinM; rw [if_neg c151]] at t2 ⊢
                         rw [nI_clamp (by omega)]
                         rw [e2] at t2 ⊢
                         exact t2)
                  · first
                      | exact YO.up (by omega) (by omega)
                      | exact (YO.up (a := R.1 i) (by omega) (by omega)).up (by omega) (by omega)
    · exact absurd (by rw [hn]; rfl) c24
  · exact absurd (show R.2.2.1 = 1 from ht) (by rw [c4]; decide)
end RO5
