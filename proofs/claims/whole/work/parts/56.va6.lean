theorem ldw (i : Nat) : nI 10 - nI i + -1 = nI 10 - nI (i + 1) := by
  rw [← nI_1 i, Int32.sub_eq_add_neg, Int32.sub_eq_add_neg, Int32.neg_add, Int32.sub_eq_add_neg, Int32.add_assoc]
theorem ldw2 {i : Nat} (h : i < 11) : nI (10 - i) + -1 = nI 10 - nI (i + 1) := by
  rw [← pk_sub (show i ≤ 10 by omega)]
  exact ldw i
section STAT
variable {p : Program} {l : Launch} {e : Env} {R : Room} {s : State} {m : MethodId} {args : Array Value} {below : List Frame} {meth : Method} {c : Code} {Q : State → Prop} {cc : ByteArray} {nL : Nat} {own : String} {V : gi_V} {cells slots pc n : Nat} {L : List (Nat × Value)} {st : List Value} {h : gi_H}
theorem gi_getsN {idx q t : Nat} {nm ds : String} (C : gi_C p s m args meth c cc nL own V) (hd : decode cc pc = .ok (.getstatic idx, 3)) (hq : pc + 3 = q) (hlk : Cond.fieldLinkNest own idx R_H nm ds R_H ∈ gi_nw) (hZ : va_Z R_H nm ds (.ref t) (fun q : Nat => V.2.2 ≤ q) s s.heap) (k : gi_G p l e R s m args below meth c Q V nL cells slots q L (.ref t :: st) n h) : gi_G p l e R s m args below meth c Q V nL cells slots pc L st n h := by
  subst hq
  exact fun ls H locs hl hh hs => va_getsN C.1 C.2.1 hZ hs C.ow (va_Nw.use rfl (C.K.2.1 _ hlk)) (fun _ h9 => h9) hd (k ls H locs hl hh hs)
theorem gi_tl {q t N : Nat} {f : Nat → Value} {i : Int32} {v : Value} (C : gi_C p s m args meth c cc nL own V) (hT : va_T .long t N f (fun q : Nat => V.2.2 ≤ q) s s.heap) (hd : decode cc pc = .ok (.laload, 1)) (hq : pc + 1 = q) (hin : vp_in i N) (hv : f i.toNatClampNeg = v) (k : gi_G p l e R s m args below meth c Q V nL cells slots q L (v :: st) n h) : gi_G p l e R s m args below meth c Q V nL cells slots pc L (.int i :: .ref t :: st) n h := by
  subst hq
  exact fun ls H locs hl hh hs => va_tl C.1 C.2.1 hT hs hin hv hd (k ls H locs hl hh hs)
theorem gi_ti {q t N : Nat} {f : Nat → Value} {i : Int32} {v : Value} (C : gi_C p s m args meth c cc nL own V) (hT : va_T .int t N f (fun q : Nat => V.2.2 ≤ q) s s.heap) (hd : decode cc pc = .ok (.iaload, 1)) (hq : pc + 1 = q) (hin : vp_in i N) (hv : f i.toNatClampNeg = v) (k : gi_G p l e R s m args below meth c Q V nL cells slots q L (v :: st) n h) : gi_G p l e R s m args below meth c Q V nL cells slots pc L (.int i :: .ref t :: st) n h := by
  subst hq
  exact fun ls H locs hl hh hs => va_ti C.1 C.2.1 hT hs hin hv hd (k ls H locs hl hh hs)
theorem gi_tlen {q t N : Nat} {f : Nat → Value} {ty : FieldType} {v : Int32} (C : gi_C p s m args meth c cc nL own V) (hT : va_T ty t N f (fun q : Nat => V.2.2 ≤ q) s s.heap) (hd : decode cc pc = .ok (.arraylength, 1)) (hq : pc + 1 = q) (hv : Int32.ofNat N = v) (k : gi_G p l e R s m args below meth c Q V nL cells slots q L (.int v :: st) n h) : gi_G p l e R s m args below meth c Q V nL cells slots pc L (.ref t :: st) n h := by
  subst hq
  exact fun ls H locs hl hh hs => va_tlen C.1 C.2.1 hT hs hv hd (k ls H locs hl hh hs)
end STAT
section VA6
variable {l : Launch} {V : gi_V} {n : Nat} {h : gi_H}
def ldI (i : Nat) : Int := match i with
  | 0 => -2147483648
  | 1 => -32768
  | 2 => -128
  | 3 => -1
  | 4 => 0
  | 5 => 1
  | 6 => 127
  | 7 => 255
  | 8 => 32767
  | 9 => 65535
  | _ => 2147483647
theorem ldI_b (i : Nat) : -2147483648 ≤ ldI i ∧ ldI i ≤ 2147483647 := by
  unfold ldI
  split <;> decide
theorem ldI_v : ∀ i : Nat, i < 11 → gi_ldL.getD i 0 = eL (ldI i) := by decide +kernel
theorem gi_ldv {i : Nat} (hi : i < 11) : gi_ld (nI i).toNatClampNeg = .long (eL (ldI i)) := by
  rw [nI_clamp (by omega), gi_ld, ldI_v i hi]
def ldF : Nat → Int → Int
  | 0, _ => -2147483648
  | i + 1, v => if ldI i ≤ v then ldI i else ldF i v
def luF : Nat → Int → Int
  | 0, _ => 2147483647
  | i + 1, v => if v ≤ ldI (10 - i) then ldI (10 - i) else luF i v
theorem ldF_b (i : Nat) (v : Int) : -2147483648 ≤ ldF i v ∧ ldF i v ≤ 2147483647 := by
  induction i with
  | zero => simp [ldF]
  | succ i ih =>
    unfold ldF
    split
    · exact ldI_b i
    · exact ih
theorem luF_b (i : Nat) (v : Int) : -2147483648 ≤ luF i v ∧ luF i v ≤ 2147483647 := by
  induction i with
  | zero => simp [luF]
  | succ i ih =>
    unfold luF
    split
    · exact ldI_b _
    · exact ih
theorem ldF_11 (v : Int) (h : -2147483648 ≤ v) : ldF 11 v = ledD v := by
  simp only [ldF, ldI, ledD, ite_self]
theorem luF_11 (v : Int) (h : v ≤ 2147483647) : luF 11 v = ledU v := by
  simp only [luF, Nat.sub_zero, Nat.reduceSub]
  simp only [ldI, ledU, ite_self]
theorem ledD_le {v : Int} (h : -2147483648 ≤ v) : ledD v ≤ v ∧ -2147483648 ≤ ledD v := by
  unfold ledD
  repeat' split
  all_goals omega
theorem ledU_le {v : Int} (h : v ≤ 2147483647) : v ≤ ledU v ∧ ledU v ≤ 2147483647 := by
  unfold ledU
  repeat' split
  all_goals omega
set_option maxHeartbeats 4000000 in
set_option maxRecDepth 100000 in
theorem c_Va_spread_S (a : Nat) (x : Sp) (ll hh : Int) (hx : okS x) (q1 : x.1 ≤ ll) (q2 : ll ≤ hh) (q3 : hh ≤ x.2.1) (ha : h a = some (eV (sV x))) : gi_T l V y_Va_spread b_Va_spread 8 none 0 0 0 0 [.ref a, .long (eL ll), .long (eL hh)] n h (gi_is none n (gi_up h a (eV (sV (movS x ll hh))))) := by
  refine gi_enter (by decide) (Nat.le_of_ble_eq_true rfl) ?_
  intro _ _ _ _ _ _ _ _ C hr hnm
  obtain ⟨tT, tL, hZT, hTT, hZL, hLL⟩ := C.K.2.2.1
  obtain ⟨o1, o2, o3, o4, o5, o6⟩ := id hx
  have o7 := hx.st
  have hz := fun q => hx.z q
  refine gi_aload_n (q := 1) (i := 0) C (dm_Va_spread 0 rfl) rfl rfl rfl ?_
  refine gi_get (q := 4) C (dm_Va_spread 1 rfl) rfl fl_Va_9 (by repeat (first | exact gi_up_self _ _ _ | assumption | rw [gi_up_ne (by omega)])) rfl ?_
  refine gi_if_ne (q := 7) (tgt := 16) C (dm_Va_spread 2 rfl) rfl (by decide) (fun c4 => ?_) (fun c4 => ?_)
  · exact absurd rfl c4
  · refine gi_aload_n (q := 8) (i := 0) C (dm_Va_spread 3 rfl) rfl rfl rfl ?_
    refine gi_get (q := 11) C (dm_Va_spread 4 rfl) rfl fl_Va_22 (by repeat (first | exact gi_up_self _ _ _ | assumption | rw [gi_up_ne (by omega)])) rfl ?_
    refine gi_lconst (q := 12) (v := 0) C (dm_Va_spread 5 rfl) rfl (by decide) ?_
    refine gi_lcmp (q := 13) C (dm_Va_spread 6 rfl) rfl ?_
    refine gi_if_ne (q := 16) (tgt := 17) C (dm_Va_spread 7 rfl) rfl (by decide) (fun c13 => ?_) (fun c13 => ?_)
    · (try simp (disch := omega) only [lg_cmp_ge, lg_cmp_le, lg_cmp_gt, lg_cmp_lt, lg_cmp_eq, eL_0, eL_1, eL_m1, eL_LO, eL_HI, eL_W, eL_add, eL_sub, eL_mul, eL_neg, eL_lt, eL_le, eL_eq, eL_remN, eL_mod0, ne_eq, Int64.not_lt, Int64.not_le] at c13)
      have hs0 : ¬ eL x.2.2 = 0 := fun q => c13 (by rw [eL_0, eL_eq (by omega) (by omega) (by omega) (by omega)] at q; exact q)
      -- the high side
      refine gi_meet (σ := Int) 102 (fun _ => [(3, .long (eL hh)), (1, .long (eL ll)), (0, .ref a)]) (fun _ => []) (fun z y => y = gi_up h a (eV (sV (z, x.2.1, x.2.2))) ∧ z = if x.1 < ll then x.1 - (x.1 - ledD x.1) / x.2.2 * x.2.2 else x.1) ?_ (fun hJ2 => ?_)
      · rintro z _ ⟨rfl, hzz⟩
        refine gi_aload_n (q := 103) (i := 0) C (dm_Va_spread 52 rfl) rfl rfl rfl ?_
        refine gi_get (q := 106) C (dm_Va_spread 53 rfl) rfl fl_Va_19 (by repeat (first | exact gi_up_self _ _ _ | assumption | rw [gi_up_ne (by omega)])) rfl ?_
        refine gi_lload_n (q := 107) (i := 3) C (dm_Va_spread 54 rfl) rfl rfl rfl ?_
        refine gi_lcmp (q := 108) C (dm_Va_spread 55 rfl) rfl ?_
        refine gi_if_eq (q := 111) (tgt := 188) C (dm_Va_spread 56 rfl) rfl (by decide) (fun c108 => ?_) (fun c108 => ?_)
        · refine gi_vret C hr (dm_Va_spread 96 rfl) ?_
          have hh2 : hh = x.2.1 := by
            have : eL x.2.1 = eL hh := (lg_cmp_eq _ _).mp c108
            rw [eL_eq (by omega) (by omega) (by omega) (by omega)] at this
            omega
          refine ⟨rfl, rfl, ?_⟩
          try simp only [gi_up_up]
          refine congrArg (gi_up h a) ?_
          first
            | (rw [movS, ← hzz, if_neg (by omega)]; done)
            | (rw [movS, ← hzz, if_pos (by omega)]
               show eV (0, eL z, eL x.2.1 + (eL (ledU x.2.1) - eL x.2.1) / eL x.2.2 * eL x.2.2, eL x.2.2, 0, 0) = _
               have hl := ledU_le o3
               simp (disch := omega) only [eL_sub, eL_add, eL_divN, eL_mul])
        · have hlt : hh < x.2.1 := by
            rcases Int.lt_or_eq_of_le q3 with q | q
            · exact q
            · exact absurd ((lg_cmp_eq _ _).mpr (congrArg eL q.symm)) c108
          refine gi_meet (σ := Unit) 162 (fun _ => [(5, .long (eL (ledU x.2.1))), (3, .long (eL hh)), (1, .long (eL ll)), (0, .ref a)]) (fun _ => []) (fun _ y => y = gi_up h a (eV (sV (z, x.2.1, x.2.2)))) ?_ (fun hJ3 => ?_)
          · rintro - _ rfl
            refine gi_aload_n (q := 163) (i := 0) C (dm_Va_spread 81 rfl) rfl rfl rfl ?_
            refine gi_dup (q := 164) C (dm_Va_spread 82 rfl) rfl rfl ?_
            refine gi_get (q := 167) C (dm_Va_spread 83 rfl) rfl fl_Va_19 (by repeat (first | exact gi_up_self _ _ _ | assumption | rw [gi_up_ne (by omega)])) rfl ?_
            refine gi_lload (q := 169) C (dm_Va_spread 84 rfl) rfl rfl ?_
            refine gi_aload_n (q := 170) (i := 0) C (dm_Va_spread 85 rfl) rfl rfl rfl ?_
            refine gi_get (q := 173) C (dm_Va_spread 86 rfl) rfl fl_Va_19 (by repeat (first | exact gi_up_self _ _ _ | assumption | rw [gi_up_ne (by omega)])) rfl ?_
            refine gi_lsub (q := 174) C (dm_Va_spread 87 rfl) rfl ?_
            refine gi_aload_n (q := 175) (i := 0) C (dm_Va_spread 88 rfl) rfl rfl rfl ?_
            refine gi_get (q := 178) C (dm_Va_spread 89 rfl) rfl fl_Va_22 (by repeat (first | exact gi_up_self _ _ _ | assumption | rw [gi_up_ne (by omega)])) rfl ?_
            refine gi_ldiv (q := 179) C (dm_Va_spread 90 rfl) rfl hs0 ?_
            refine gi_aload_n (q := 180) (i := 0) C (dm_Va_spread 91 rfl) rfl rfl rfl ?_
            refine gi_get (q := 183) C (dm_Va_spread 92 rfl) rfl fl_Va_22 (by repeat (first | exact gi_up_self _ _ _ | assumption | rw [gi_up_ne (by omega)])) rfl ?_
            refine gi_lmul (q := 184) C (dm_Va_spread 93 rfl) rfl ?_
            refine gi_ladd (q := 185) C (dm_Va_spread 94 rfl) rfl ?_
            refine gi_put (q := 188) C (dm_Va_spread 95 rfl) rfl fl_Va_19 fp_Va_2 (by repeat (first | exact gi_up_self _ _ _ | assumption | rw [gi_up_ne (by omega)])) (Nat.le_of_ble_eq_true rfl) rfl rfl ?_
            refine gi_vret C hr (dm_Va_spread 96 rfl) ?_
            refine ⟨rfl, rfl, ?_⟩
            try simp only [gi_up_up]
            refine congrArg (gi_up h a) ?_
            first
              | (rw [movS, ← hzz, if_neg (by omega)]; done)
              | (rw [movS, ← hzz, if_pos (by omega)]
                 show eV (0, eL z, eL x.2.1 + (eL (ledU x.2.1) - eL x.2.1) / eL x.2.2 * eL x.2.2, eL x.2.2, 0, 0) = _
                 have hl := ledU_le o3
                 simp (disch := omega) only [eL_sub, eL_add, eL_divN, eL_mul])
          refine gi_ldc2 (q := 114) C (dm_Va_spread 57 rfl) rfl kc_Va_38 ?_
          refine gi_lstore (q := 116) C (dm_Va_spread 58 rfl) rfl (Nat.le_of_ble_eq_true rfl) ?_
          refine gi_getsN (q := 119) C (dm_Va_spread 59 rfl) rfl (List.mem_of_getElem? (i := 10) rfl) hZL ?_
          refine gi_tlen (q := 120) (v := 11) C hLL (dm_Va_spread 60 rfl) rfl rfl ?_
          refine gi_iconst (q := 121) (v := 1) C (dm_Va_spread 61 rfl) rfl (by decide) ?_
          refine gi_isub (q := 122) C (dm_Va_spread 62 rfl) rfl ?_
          refine gi_istore (q := 124) C (dm_Va_spread 63 rfl) rfl (Nat.le_of_ble_eq_true rfl) ?_
          refine gi_while (σ := Nat) (fun i => 11 - i) (fun i => [(7, .int (nI 10 - nI i)), (5, .long (eL (luF i x.2.1))), (3, .long (eL hh)), (1, .long (eL ll)), (0, .ref a)]) (fun _ => n) (fun _ => 0) (fun _ => 0) (fun i y => y = gi_up h a (eV (sV (z, x.2.1, x.2.2))) ∧ i ≤ 11) 0 ⟨rfl, by omega⟩ ?_ (List.forall_mem_cons.mpr ⟨rfl, List.forall_mem_cons.mpr ⟨rfl, List.forall_mem_cons.mpr ⟨rfl, List.forall_mem_cons.mpr ⟨rfl, List.forall_mem_cons.mpr ⟨rfl, fun _ h => absurd h List.not_mem_nil⟩⟩⟩⟩⟩) rfl rfl rfl
          rintro i _ ⟨rfl, hi0⟩ ih
          try dsimp only at *
          refine gi_iload (q := 126) C (dm_Va_spread 64 rfl) rfl rfl ?_
          refine gi_if_lt (q := 129) (tgt := 162) C (dm_Va_spread 65 rfl) rfl (by decide) (fun c126 => ?_) (fun c126 => ?_)
          · have hi : i = 11 := by
              rcases Nat.lt_or_ge i 11 with q | q
              · exfalso
                rw [pk_sub (show i ≤ 10 by omega)] at c126
                exact absurd c126 (Int32.not_lt.mpr (nI_le (a := 0) (by omega) (by omega)))
              · omega
            subst hi
            exact gi_close (hJ3 () _ rfl) (List.forall_mem_cons.mpr ⟨(by rw [← luF_11 x.2.1 o3]; rfl), List.forall_mem_cons.mpr ⟨rfl, List.forall_mem_cons.mpr ⟨rfl, List.forall_mem_cons.mpr ⟨rfl, fun _ h => absurd h List.not_mem_nil⟩⟩⟩⟩) rfl rfl rfl
          · have hi : i < 11 := by
              rcases Nat.lt_or_ge i 11 with q | q
              · exact q
              · have hi2 : i = 11 := by omega
                subst hi2
                exact absurd (show nI 10 - nI 11 < 0 by decide) c126
            have hb1 := ldI_b (10 - i)
            rw [pk_sub (show i ≤ 10 by omega)]
            refine gi_getsN (q := 132) C (dm_Va_spread 66 rfl) rfl (List.mem_of_getElem? (i := 10) rfl) hZL ?_
            refine gi_iload (q := 134) C (dm_Va_spread 67 rfl) rfl rfl ?_
            refine gi_tl (q := 135) C hLL (dm_Va_spread 68 rfl) rfl (vp_in_nI (by omega) (by omega)) (gi_ldv (i := 10 - i) (by omega)) ?_
            refine gi_aload_n (q := 136) (i := 0) C (dm_Va_spread 69 rfl) rfl rfl rfl ?_
            refine gi_get (q := 139) C (dm_Va_spread 70 rfl) rfl fl_Va_19 (by repeat (first | exact gi_up_self _ _ _ | assumption | rw [gi_up_ne (by omega)])) rfl ?_
            refine gi_lcmp (q := 140) C (dm_Va_spread 71 rfl) rfl ?_
            refine gi_if_lt (q := 143) (tgt := 152) C (dm_Va_spread 72 rfl) rfl (by decide) (fun c140 => ?_) (fun c140 => ?_)
            · refine gi_lload (q := 154) C (dm_Va_spread 77 rfl) rfl rfl ?_
              refine gi_lstore (q := 156) C (dm_Va_spread 78 rfl) rfl (Nat.le_of_ble_eq_true rfl) ?_
              refine gi_iinc (q := 159) (v := (-1)) C (dm_Va_spread 79 rfl) rfl rfl (by decide) (Nat.le_of_ble_eq_true rfl) ?_
              refine gi_goto (tgt := 124) C (dm_Va_spread 80 rfl) (by decide) ?_
              refine gi_close (ih (i + 1) _ ⟨rfl, by omega⟩ (by omega)) (List.forall_mem_cons.mpr ⟨(congrArg (fun z => some (Value.int z)) (ldw2 hi)), List.forall_mem_cons.mpr ⟨(congrArg (fun z => some (Value.long z)) ?_), List.forall_mem_cons.mpr ⟨rfl, List.forall_mem_cons.mpr ⟨rfl, List.forall_mem_cons.mpr ⟨rfl, fun _ h => absurd h List.not_mem_nil⟩⟩⟩⟩⟩) rfl rfl rfl
              (try simp (disch := omega) only [lg_cmp_ge, lg_cmp_le, lg_cmp_gt, lg_cmp_lt, lg_cmp_eq, eL_0, eL_1, eL_m1, eL_LO, eL_HI, eL_W, eL_add, eL_sub, eL_mul, eL_neg, eL_lt, eL_le, eL_eq, eL_remN, eL_mod0, ne_eq, Int64.not_lt, Int64.not_le] at c126)
              (try simp (disch := omega) only [lg_cmp_ge, lg_cmp_le, lg_cmp_gt, lg_cmp_lt, lg_cmp_eq, eL_0, eL_1, eL_m1, eL_LO, eL_HI, eL_W, eL_add, eL_sub, eL_mul, eL_neg, eL_lt, eL_le, eL_eq, eL_remN, eL_mod0, ne_eq, Int64.not_lt, Int64.not_le] at c140)
              rw [luF]
              first
                | rw [if_pos (by omega)]
                | rw [if_neg (by omega)]
            · refine gi_getsN (q := 146) C (dm_Va_spread 73 rfl) rfl (List.mem_of_getElem? (i := 10) rfl) hZL ?_
              refine gi_iload (q := 148) C (dm_Va_spread 74 rfl) rfl rfl ?_
              refine gi_tl (q := 149) C hLL (dm_Va_spread 75 rfl) rfl (vp_in_nI (by omega) (by omega)) (gi_ldv (i := 10 - i) (by omega)) ?_
              refine gi_goto (tgt := 154) C (dm_Va_spread 76 rfl) (by decide) ?_
              refine gi_lstore (q := 156) C (dm_Va_spread 78 rfl) rfl (Nat.le_of_ble_eq_true rfl) ?_
              refine gi_iinc (q := 159) (v := (-1)) C (dm_Va_spread 79 rfl) rfl rfl (by decide) (Nat.le_of_ble_eq_true rfl) ?_
              refine gi_goto (tgt := 124) C (dm_Va_spread 80 rfl) (by decide) ?_
              refine gi_close (ih (i + 1) _ ⟨rfl, by omega⟩ (by omega)) (List.forall_mem_cons.mpr ⟨(congrArg (fun z => some (Value.int z)) (ldw2 hi)), List.forall_mem_cons.mpr ⟨(congrArg (fun z => some (Value.long z)) ?_), List.forall_mem_cons.mpr ⟨rfl, List.forall_mem_cons.mpr ⟨rfl, List.forall_mem_cons.mpr ⟨rfl, fun _ h => absurd h List.not_mem_nil⟩⟩⟩⟩⟩) rfl rfl rfl
              (try simp (disch := omega) only [lg_cmp_ge, lg_cmp_le, lg_cmp_gt, lg_cmp_lt, lg_cmp_eq, eL_0, eL_1, eL_m1, eL_LO, eL_HI, eL_W, eL_add, eL_sub, eL_mul, eL_neg, eL_lt, eL_le, eL_eq, eL_remN, eL_mod0, ne_eq, Int64.not_lt, Int64.not_le] at c126)
              (try simp (disch := omega) only [lg_cmp_ge, lg_cmp_le, lg_cmp_gt, lg_cmp_lt, lg_cmp_eq, eL_0, eL_1, eL_m1, eL_LO, eL_HI, eL_W, eL_add, eL_sub, eL_mul, eL_neg, eL_lt, eL_le, eL_eq, eL_remN, eL_mod0, ne_eq, Int64.not_lt, Int64.not_le] at c140)
              rw [luF]
              first
                | rw [if_pos (by omega)]
                | rw [if_neg (by omega)]
      refine gi_meet (σ := Unit) 76 (fun _ => [(5, .long (eL (ledD x.1))), (3, .long (eL hh)), (1, .long (eL ll)), (0, .ref a)]) (fun _ => []) (fun _ y => y = h ∧ x.1 < ll) ?_ (fun hJ => ?_)
      · rintro - _ ⟨rfl, hlt⟩
        refine gi_aload_n (q := 77) (i := 0) C (dm_Va_spread 37 rfl) rfl rfl rfl ?_
        refine gi_dup (q := 78) C (dm_Va_spread 38 rfl) rfl rfl ?_
        refine gi_get (q := 81) C (dm_Va_spread 39 rfl) rfl fl_Va_15 (by repeat (first | exact gi_up_self _ _ _ | assumption | rw [gi_up_ne (by omega)])) rfl ?_
        refine gi_aload_n (q := 82) (i := 0) C (dm_Va_spread 40 rfl) rfl rfl rfl ?_
        refine gi_get (q := 85) C (dm_Va_spread 41 rfl) rfl fl_Va_15 (by repeat (first | exact gi_up_self _ _ _ | assumption | rw [gi_up_ne (by omega)])) rfl ?_
        refine gi_lload (q := 87) C (dm_Va_spread 42 rfl) rfl rfl ?_
        refine gi_lsub (q := 88) C (dm_Va_spread 43 rfl) rfl ?_
        refine gi_aload_n (q := 89) (i := 0) C (dm_Va_spread 44 rfl) rfl rfl rfl ?_
        refine gi_get (q := 92) C (dm_Va_spread 45 rfl) rfl fl_Va_22 (by repeat (first | exact gi_up_self _ _ _ | assumption | rw [gi_up_ne (by omega)])) rfl ?_
        refine gi_ldiv (q := 93) C (dm_Va_spread 46 rfl) rfl hs0 ?_
        refine gi_aload_n (q := 94) (i := 0) C (dm_Va_spread 47 rfl) rfl rfl rfl ?_
        refine gi_get (q := 97) C (dm_Va_spread 48 rfl) rfl fl_Va_22 (by repeat (first | exact gi_up_self _ _ _ | assumption | rw [gi_up_ne (by omega)])) rfl ?_
        refine gi_lmul (q := 98) C (dm_Va_spread 49 rfl) rfl ?_
        refine gi_lsub (q := 99) C (dm_Va_spread 50 rfl) rfl ?_
        refine gi_put (q := 102) C (dm_Va_spread 51 rfl) rfl fl_Va_15 fp_Va_1 (by repeat (first | exact gi_up_self _ _ _ | assumption | rw [gi_up_ne (by omega)])) (Nat.le_of_ble_eq_true rfl) rfl rfl ?_
        simp only [gi_up_up]
        refine gi_close (hJ2 (x.1 - (x.1 - ledD x.1) / x.2.2 * x.2.2) _ ⟨?_, ?_⟩) (List.forall_mem_cons.mpr ⟨rfl, List.forall_mem_cons.mpr ⟨rfl, List.forall_mem_cons.mpr ⟨rfl, fun _ h => absurd h List.not_mem_nil⟩⟩⟩) rfl rfl rfl
        · refine congrArg (gi_up _ a) ?_
          show eV (0, eL x.1 - (eL x.1 - eL (ledD x.1)) / eL x.2.2 * eL x.2.2, eL x.2.1, eL x.2.2, 0, 0) = _
          have hl := ledD_le o1
          simp (disch := omega) only [eL_sub, eL_divN, eL_mul]
        · rw [if_pos hlt]
      refine gi_aload_n (q := 18) (i := 0) C (dm_Va_spread 9 rfl) rfl rfl rfl ?_
      refine gi_get (q := 21) C (dm_Va_spread 10 rfl) rfl fl_Va_15 (by repeat (first | exact gi_up_self _ _ _ | assumption | rw [gi_up_ne (by omega)])) rfl ?_
      refine gi_lload_n (q := 22) (i := 1) C (dm_Va_spread 11 rfl) rfl rfl rfl ?_
      refine gi_lcmp (q := 23) C (dm_Va_spread 12 rfl) rfl ?_
      refine gi_if_eq (q := 26) (tgt := 102) C (dm_Va_spread 13 rfl) rfl (by decide) (fun c23 => ?_) (fun c23 => ?_)
      · have hll : ll = x.1 := by
          have : eL x.1 = eL ll := (lg_cmp_eq _ _).mp c23
          rw [eL_eq (by omega) (by omega) (by omega) (by omega)] at this
          omega
        refine gi_close (hJ2 x.1 _ ⟨(gi_up_id ha).symm, by rw [if_neg (by omega)]⟩) (List.forall_mem_cons.mpr ⟨rfl, List.forall_mem_cons.mpr ⟨rfl, List.forall_mem_cons.mpr ⟨rfl, fun _ h => absurd h List.not_mem_nil⟩⟩⟩) rfl rfl rfl
      · have hlt : x.1 < ll := by
          rcases Int.lt_or_eq_of_le q1 with q | q
          · exact q
          · exact absurd ((lg_cmp_eq _ _).mpr (congrArg eL q)) c23
        refine gi_ldc2 (q := 29) C (dm_Va_spread 14 rfl) rfl kc_Va_36 ?_
        refine gi_lstore (q := 31) C (dm_Va_spread 15 rfl) rfl (Nat.le_of_ble_eq_true rfl) ?_
        refine gi_iconst (q := 32) (v := 0) C (dm_Va_spread 16 rfl) rfl (by decide) ?_
        refine gi_istore (q := 34) C (dm_Va_spread 17 rfl) rfl (Nat.le_of_ble_eq_true rfl) ?_
        refine gi_while (σ := Nat) (fun i => 11 - i) (fun i => [(7, .int (nI i)), (5, .long (eL (ldF i x.1))), (3, .long (eL hh)), (1, .long (eL ll)), (0, .ref a)]) (fun _ => n) (fun _ => 0) (fun _ => 0) (fun i y => y = h ∧ i ≤ 11) 0 ⟨rfl, by omega⟩ ?_ (List.forall_mem_cons.mpr ⟨rfl, List.forall_mem_cons.mpr ⟨rfl, List.forall_mem_cons.mpr ⟨rfl, List.forall_mem_cons.mpr ⟨rfl, List.forall_mem_cons.mpr ⟨rfl, fun _ h => absurd h List.not_mem_nil⟩⟩⟩⟩⟩) rfl rfl rfl
        rintro i _ ⟨rfl, hi0⟩ ih
        try dsimp only at *
        refine gi_iload (q := 36) C (dm_Va_spread 18 rfl) rfl rfl ?_
        refine gi_getsN (q := 39) C (dm_Va_spread 19 rfl) rfl (List.mem_of_getElem? (i := 10) rfl) hZL ?_
        refine gi_tlen (q := 40) (v := 11) C hLL (dm_Va_spread 20 rfl) rfl rfl ?_
        refine gi_icmp_ge (q := 43) (tgt := 76) C (dm_Va_spread 21 rfl) rfl (by decide) (fun c40 => ?_) (fun c40 => ?_)
        · have hi : i = 11 := by
            rcases Nat.lt_or_ge i 11 with q | q
            · exact absurd (show (11 : Int32) ≤ nI i from c40) (nI_ge (b := 11) q (by omega))
            · omega
          subst hi
          exact gi_close (hJ () _ ⟨rfl, hlt⟩) (List.forall_mem_cons.mpr ⟨(by rw [← ldF_11 x.1 o1]; rfl), List.forall_mem_cons.mpr ⟨rfl, List.forall_mem_cons.mpr ⟨rfl, List.forall_mem_cons.mpr ⟨rfl, fun _ h => absurd h List.not_mem_nil⟩⟩⟩⟩) rfl rfl rfl
        · have hi : i < 11 := by
            rcases Nat.lt_or_ge i 11 with q | q
            · exact q
            · exact absurd (show (11 : Int32) ≤ nI i from nI_le (a := 11) q (by omega)) c40
          have hb1 := ldI_b i
          refine gi_getsN (q := 46) C (dm_Va_spread 22 rfl) rfl (List.mem_of_getElem? (i := 10) rfl) hZL ?_
          refine gi_iload (q := 48) C (dm_Va_spread 23 rfl) rfl rfl ?_
          refine gi_tl (q := 49) C hLL (dm_Va_spread 24 rfl) rfl (vp_in_nI hi (by omega)) (gi_ldv hi) ?_
          refine gi_aload_n (q := 50) (i := 0) C (dm_Va_spread 25 rfl) rfl rfl rfl ?_
          refine gi_get (q := 53) C (dm_Va_spread 26 rfl) rfl fl_Va_15 (by repeat (first | exact gi_up_self _ _ _ | assumption | rw [gi_up_ne (by omega)])) rfl ?_
          refine gi_lcmp (q := 54) C (dm_Va_spread 27 rfl) rfl ?_
          refine gi_if_gt (q := 57) (tgt := 66) C (dm_Va_spread 28 rfl) rfl (by decide) (fun c54 => ?_) (fun c54 => ?_)
          · refine gi_lload (q := 68) C (dm_Va_spread 33 rfl) rfl rfl ?_
            refine gi_lstore (q := 70) C (dm_Va_spread 34 rfl) rfl (Nat.le_of_ble_eq_true rfl) ?_
            refine gi_iinc (q := 73) (v := 1) C (dm_Va_spread 35 rfl) rfl rfl (by decide) (Nat.le_of_ble_eq_true rfl) ?_
            refine gi_goto (tgt := 34) C (dm_Va_spread 36 rfl) (by decide) ?_
            refine gi_close (ih (i + 1) _ ⟨rfl, by omega⟩ (by omega)) (List.forall_mem_cons.mpr ⟨(by simp [gi_look, nI_1]), List.forall_mem_cons.mpr ⟨(congrArg (fun z => some (Value.long z)) ?_), List.forall_mem_cons.mpr ⟨rfl, List.forall_mem_cons.mpr ⟨rfl, List.forall_mem_cons.mpr ⟨rfl, fun _ h => absurd h List.not_mem_nil⟩⟩⟩⟩⟩) rfl rfl rfl
            (try simp (disch := omega) only [lg_cmp_ge, lg_cmp_le, lg_cmp_gt, lg_cmp_lt, lg_cmp_eq, eL_0, eL_1, eL_m1, eL_LO, eL_HI, eL_W, eL_add, eL_sub, eL_mul, eL_neg, eL_lt, eL_le, eL_eq, eL_remN, eL_mod0, ne_eq, Int64.not_lt, Int64.not_le] at c40)
            (try simp (disch := omega) only [lg_cmp_ge, lg_cmp_le, lg_cmp_gt, lg_cmp_lt, lg_cmp_eq, eL_0, eL_1, eL_m1, eL_LO, eL_HI, eL_W, eL_add, eL_sub, eL_mul, eL_neg, eL_lt, eL_le, eL_eq, eL_remN, eL_mod0, ne_eq, Int64.not_lt, Int64.not_le] at c54)
            rw [ldF]
            first
              | rw [if_pos (by omega)]
              | rw [if_neg (by omega)]
          · refine gi_getsN (q := 60) C (dm_Va_spread 29 rfl) rfl (List.mem_of_getElem? (i := 10) rfl) hZL ?_
            refine gi_iload (q := 62) C (dm_Va_spread 30 rfl) rfl rfl ?_
            refine gi_tl (q := 63) C hLL (dm_Va_spread 31 rfl) rfl (vp_in_nI hi (by omega)) (gi_ldv hi) ?_
            refine gi_goto (tgt := 68) C (dm_Va_spread 32 rfl) (by decide) ?_
            refine gi_lstore (q := 70) C (dm_Va_spread 34 rfl) rfl (Nat.le_of_ble_eq_true rfl) ?_
            refine gi_iinc (q := 73) (v := 1) C (dm_Va_spread 35 rfl) rfl rfl (by decide) (Nat.le_of_ble_eq_true rfl) ?_
            refine gi_goto (tgt := 34) C (dm_Va_spread 36 rfl) (by decide) ?_
            refine gi_close (ih (i + 1) _ ⟨rfl, by omega⟩ (by omega)) (List.forall_mem_cons.mpr ⟨(by simp [gi_look, nI_1]), List.forall_mem_cons.mpr ⟨(congrArg (fun z => some (Value.long z)) ?_), List.forall_mem_cons.mpr ⟨rfl, List.forall_mem_cons.mpr ⟨rfl, List.forall_mem_cons.mpr ⟨rfl, fun _ h => absurd h List.not_mem_nil⟩⟩⟩⟩⟩) rfl rfl rfl
            (try simp (disch := omega) only [lg_cmp_ge, lg_cmp_le, lg_cmp_gt, lg_cmp_lt, lg_cmp_eq, eL_0, eL_1, eL_m1, eL_LO, eL_HI, eL_W, eL_add, eL_sub, eL_mul, eL_neg, eL_lt, eL_le, eL_eq, eL_remN, eL_mod0, ne_eq, Int64.not_lt, Int64.not_le] at c40)
            (try simp (disch := omega) only [lg_cmp_ge, lg_cmp_le, lg_cmp_gt, lg_cmp_lt, lg_cmp_eq, eL_0, eL_1, eL_m1, eL_LO, eL_HI, eL_W, eL_add, eL_sub, eL_mul, eL_neg, eL_lt, eL_le, eL_eq, eL_remN, eL_mod0, ne_eq, Int64.not_lt, Int64.not_le] at c54)
            rw [ldF]
            first
              | rw [if_pos (by omega)]
              | rw [if_neg (by omega)]
    · refine gi_vret C hr (dm_Va_spread 8 rfl) ?_
      (try simp (disch := omega) only [lg_cmp_ge, lg_cmp_le, lg_cmp_gt, lg_cmp_lt, lg_cmp_eq, eL_0, eL_1, eL_m1, eL_LO, eL_HI, eL_W, eL_add, eL_sub, eL_mul, eL_neg, eL_lt, eL_le, eL_eq, eL_remN, eL_mod0, ne_eq, Int64.not_lt, Int64.not_le] at c4)
      (try simp (disch := omega) only [lg_cmp_ge, lg_cmp_le, lg_cmp_gt, lg_cmp_lt, lg_cmp_eq, eL_0, eL_1, eL_m1, eL_LO, eL_HI, eL_W, eL_add, eL_sub, eL_mul, eL_neg, eL_lt, eL_le, eL_eq, eL_remN, eL_mod0, ne_eq, Int64.not_lt, Int64.not_le] at c13)
      have := hz c13
      refine ⟨rfl, rfl, ?_⟩
      rw [show movS x ll hh = x by rw [movS, if_neg (by omega), if_neg (by omega)]]
      exact (gi_up_id ha).symm
end VA6
