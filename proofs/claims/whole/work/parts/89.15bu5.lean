-- needs: 89.14
section BU5
variable {l : Launch} {V : gi_V} {n : Nat} {h h' h0 : gi_H} {bu pr k m i t : Nat} {S : Nat → Int32} {F : Nat → Nat → Int32} {P : Pm} {s : Nat → Option Sh} {a : Int32}
theorem i_lt {a : Int32} {x : Nat} (h : x < 2 ^ 31) : (a < nI x) ↔ a.toInt < x := by
  rw [Int32.lt_iff_toInt_lt, show (nI x).toInt = (x : Int) from Int32.toInt_ofNat_of_lt (by omega)]
theorem i_0 {a : Int32} : (a < 0) ↔ a.toInt < 0 := by
  rw [Int32.lt_iff_toInt_lt]
  rfl
theorem isM_i {k : Nat} (hk : k ≤ 8) : isM k a = (decide (0 ≤ a.toInt) && decide (a.toInt < k)) := by
  unfold isM
  rw [Bool.eq_iff_iff, decide_eq_true_iff, Bool.and_eq_true, decide_eq_true_iff, decide_eq_true_iff, i_lt (by omega), ← Int32.not_lt, i_0]
  omega
theorem isP_i (W : wfP k P) (hm : m < k) : isP k P (nI m) a = (decide (0 ≤ a.toInt) && decide (a.toInt < pN P 5 m)) := by
  have w := wf_ar W hm
  have wn := wf_n W hm
  have w8 := W.k8
  unfold isP
  rw [isM_y W.k8 hm, nI_clamp (by omega), wn.2.2.2.1, Bool.true_and, Bool.eq_iff_iff, Bool.and_eq_true, Bool.and_eq_true, decide_eq_true_iff, decide_eq_true_iff, decide_eq_true_iff, decide_eq_true_iff, i_lt (by omega), ← Int32.not_lt, i_0]
  omega
set_option maxHeartbeats 4000000 in
set_option maxRecDepth 100000 in
theorem c_Pr_hasOperand (o : Nat) (W : wfP k P) (hm : m < k) (ho : o ≤ 35) (HP : pr_at pr (nI k) P h) : gi_T l V y_Pr_hasOperand b_Pr_hasOperand 4 (some .boolean) 2 43 0 0 [.ref pr, .int (nI m), .int (nI o), .int a] n h (gi_is (some (.int (bI (opdB k P m o a)))) n h) := by
  refine gi_enter (by decide) (Nat.le_of_ble_eq_true rfl) ?_
  intro _ _ _ _ _ _ _ _ C hr hnm
  have w8 := W.k8
  have wm := wf_ar W hm
  refine gi_iload_n (q := 1) (i := 2) C (dm_Pr_hasOperand 0 rfl) rfl rfl rfl ?_
  refine gi_iconst (q := 2) (v := 1) C (dm_Pr_hasOperand 1 rfl) rfl (by decide) ?_
  refine gi_icmp_eq (q := 5) (tgt := 10) C (dm_Pr_hasOperand 2 rfl) rfl (by decide) (fun c2 => ?_) (fun c2 => ?_)
  · refine gi_iload_n (q := 11) (i := 3) C (dm_Pr_hasOperand 6 rfl) rfl rfl rfl ?_
    refine gi_if_lt (q := 14) (tgt := 27) C (dm_Pr_hasOperand 7 rfl) rfl (by decide) (fun c11 => ?_) (fun c11 => ?_)
    · refine gi_iconst (q := 28) (v := 0) C (dm_Pr_hasOperand 15 rfl) rfl (by decide) ?_
      refine gi_zret C hr (dm_Pr_hasOperand 16 rfl) rfl ?_
      (try have f2 : o = 1 := (nI_eq (b := 1) (by omega) (by omega)).mp c2)
      (try have f2 : ¬ o = 1 := (fun z : o = 1 => c2 (by rw [z]; rfl)))
      (try have f7 : o = 2 := (nI_eq (b := 2) (by omega) (by omega)).mp c7)
      (try have f7 : ¬ o = 2 := (fun z : o = 2 => c7 (by rw [z]; rfl)))
      (try have f51 : o = 32 := (nI_eq (b := 32) (by omega) (by omega)).mp c51)
      (try have f51 : ¬ o = 32 := (fun z : o = 32 => c51 (by rw [z]; rfl)))
      (try have f63 : o = 34 := (nI_eq (b := 34) (by omega) (by omega)).mp c63)
      (try have f63 : ¬ o = 34 := (fun z : o = 34 => c63 (by rw [z]; rfl)))
      (try have f69 : o = 35 := (nI_eq (b := 35) (by omega) (by omega)).mp c69)
      (try have f69 : ¬ o = 35 := (fun z : o = 35 => c69 (by rw [z]; rfl)))
      (try have g32 : o < 19 := (nI_ltI (b := 19) (by omega) (by omega)).mp c32)
      (try have g32 : 19 ≤ o := (nI_leI (a := 19) (by omega) (by omega)).mp (Int32.not_lt.mp c32))
      (try have g38 : 27 < o := (nI_ltI (a := 27) (by omega) (by omega)).mp c38)
      (try have g38 : o ≤ 27 := (nI_leI (b := 27) (by omega) (by omega)).mp (Int32.not_lt.mp c38))
      (try rw [i_0] at c11)
      (try rw [i_0] at c73)
      (try rw [← Int32.not_lt, i_lt (by omega)] at c20)
      (try rw [← Int32.not_lt, show (4 : Int32) = nI 4 from rfl, i_lt (by omega)] at c78)
      refine ⟨?_, rfl, rfl⟩
      try rw [isM_i W.k8]
      try rw [isP_i W hm]
      congr 2
      first
        | (rw [show opdB k P m o a = true from opdB_iff.mpr (by unfold opdOk; omega)]; rfl)
        | (rw [show opdB k P m o a = false from (Bool.not_eq_true _).mp (fun z => by have z := opdB_iff.mp z; unfold opdOk at z; omega)]; rfl)
    · refine gi_iload_n (q := 15) (i := 3) C (dm_Pr_hasOperand 8 rfl) rfl rfl rfl ?_
      refine gi_aload_n (q := 16) (i := 0) C (dm_Pr_hasOperand 9 rfl) rfl rfl rfl ?_
      refine gi_iload_n (q := 17) (i := 1) C (dm_Pr_hasOperand 10 rfl) rfl rfl rfl ?_
      refine gi_callv 1 (q := 20) C (dm_Pr_hasOperand 11 rfl) rfl my_Pr_localsOf lk_Pr_45 im_Pr_localsOf rfl (q_locals W hm HP) HP.1 rfl rfl ⟨(Nat.le_of_ble_eq_true rfl), (Nat.le_of_ble_eq_true rfl)⟩ (Nat.le_of_ble_eq_true rfl) ⟨(Nat.le_of_ble_eq_true rfl), (Nat.le_of_ble_eq_true rfl)⟩ (fun r17 n17 h17 e17 => ?_)
      obtain ⟨rfl, q17, u17⟩ := e17
      rw [q17, u17]
      refine gi_icmp_ge (q := 23) (tgt := 27) C (dm_Pr_hasOperand 12 rfl) rfl (by decide) (fun c20 => ?_) (fun c20 => ?_)
      · refine gi_iconst (q := 28) (v := 0) C (dm_Pr_hasOperand 15 rfl) rfl (by decide) ?_
        refine gi_zret C hr (dm_Pr_hasOperand 16 rfl) rfl ?_
        (try have f2 : o = 1 := (nI_eq (b := 1) (by omega) (by omega)).mp c2)
        (try have f2 : ¬ o = 1 := (fun z : o = 1 => c2 (by rw [z]; rfl)))
        (try have f7 : o = 2 := (nI_eq (b := 2) (by omega) (by omega)).mp c7)
        (try have f7 : ¬ o = 2 := (fun z : o = 2 => c7 (by rw [z]; rfl)))
        (try have f51 : o = 32 := (nI_eq (b := 32) (by omega) (by omega)).mp c51)
        (try have f51 : ¬ o = 32 := (fun z : o = 32 => c51 (by rw [z]; rfl)))
        (try have f63 : o = 34 := (nI_eq (b := 34) (by omega) (by omega)).mp c63)
        (try have f63 : ¬ o = 34 := (fun z : o = 34 => c63 (by rw [z]; rfl)))
        (try have f69 : o = 35 := (nI_eq (b := 35) (by omega) (by omega)).mp c69)
        (try have f69 : ¬ o = 35 := (fun z : o = 35 => c69 (by rw [z]; rfl)))
        (try have g32 : o < 19 := (nI_ltI (b := 19) (by omega) (by omega)).mp c32)
        (try have g32 : 19 ≤ o := (nI_leI (a := 19) (by omega) (by omega)).mp (Int32.not_lt.mp c32))
        (try have g38 : 27 < o := (nI_ltI (a := 27) (by omega) (by omega)).mp c38)
        (try have g38 : o ≤ 27 := (nI_leI (b := 27) (by omega) (by omega)).mp (Int32.not_lt.mp c38))
        (try rw [i_0] at c11)
        (try rw [i_0] at c73)
        (try rw [← Int32.not_lt, i_lt (by omega)] at c20)
        (try rw [← Int32.not_lt, show (4 : Int32) = nI 4 from rfl, i_lt (by omega)] at c78)
        refine ⟨?_, rfl, rfl⟩
        try rw [isM_i W.k8]
        try rw [isP_i W hm]
        congr 2
        first
          | (rw [show opdB k P m o a = true from opdB_iff.mpr (by unfold opdOk; omega)]; rfl)
          | (rw [show opdB k P m o a = false from (Bool.not_eq_true _).mp (fun z => by have z := opdB_iff.mp z; unfold opdOk at z; omega)]; rfl)
      · refine gi_iconst (q := 24) (v := 1) C (dm_Pr_hasOperand 13 rfl) rfl (by decide) ?_
        refine gi_goto (tgt := 28) C (dm_Pr_hasOperand 14 rfl) (by decide) ?_
        refine gi_zret C hr (dm_Pr_hasOperand 16 rfl) rfl ?_
        (try have f2 : o = 1 := (nI_eq (b := 1) (by omega) (by omega)).mp c2)
        (try have f2 : ¬ o = 1 := (fun z : o = 1 => c2 (by rw [z]; rfl)))
        (try have f7 : o = 2 := (nI_eq (b := 2) (by omega) (by omega)).mp c7)
        (try have f7 : ¬ o = 2 := (fun z : o = 2 => c7 (by rw [z]; rfl)))
        (try have f51 : o = 32 := (nI_eq (b := 32) (by omega) (by omega)).mp c51)
        (try have f51 : ¬ o = 32 := (fun z : o = 32 => c51 (by rw [z]; rfl)))
        (try have f63 : o = 34 := (nI_eq (b := 34) (by omega) (by omega)).mp c63)
        (try have f63 : ¬ o = 34 := (fun z : o = 34 => c63 (by rw [z]; rfl)))
        (try have f69 : o = 35 := (nI_eq (b := 35) (by omega) (by omega)).mp c69)
        (try have f69 : ¬ o = 35 := (fun z : o = 35 => c69 (by rw [z]; rfl)))
        (try have g32 : o < 19 := (nI_ltI (b := 19) (by omega) (by omega)).mp c32)
        (try have g32 : 19 ≤ o := (nI_leI (a := 19) (by omega) (by omega)).mp (Int32.not_lt.mp c32))
        (try have g38 : 27 < o := (nI_ltI (a := 27) (by omega) (by omega)).mp c38)
        (try have g38 : o ≤ 27 := (nI_leI (b := 27) (by omega) (by omega)).mp (Int32.not_lt.mp c38))
        (try rw [i_0] at c11)
        (try rw [i_0] at c73)
        (try rw [← Int32.not_lt, i_lt (by omega)] at c20)
        (try rw [← Int32.not_lt, show (4 : Int32) = nI 4 from rfl, i_lt (by omega)] at c78)
        refine ⟨?_, rfl, rfl⟩
        try rw [isM_i W.k8]
        try rw [isP_i W hm]
        congr 2
        first
          | (rw [show opdB k P m o a = true from opdB_iff.mpr (by unfold opdOk; omega)]; rfl)
          | (rw [show opdB k P m o a = false from (Bool.not_eq_true _).mp (fun z => by have z := opdB_iff.mp z; unfold opdOk at z; omega)]; rfl)
  · refine gi_iload_n (q := 6) (i := 2) C (dm_Pr_hasOperand 3 rfl) rfl rfl rfl ?_
    refine gi_iconst (q := 7) (v := 2) C (dm_Pr_hasOperand 4 rfl) rfl (by decide) ?_
    refine gi_icmp_ne (q := 10) (tgt := 29) C (dm_Pr_hasOperand 5 rfl) rfl (by decide) (fun c7 => ?_) (fun c7 => ?_)
    · refine gi_iload_n (q := 30) (i := 2) C (dm_Pr_hasOperand 17 rfl) rfl rfl rfl ?_
      refine gi_bipush (q := 32) (v := 19) C (dm_Pr_hasOperand 18 rfl) rfl (by decide) ?_
      refine gi_icmp_lt (q := 35) (tgt := 48) C (dm_Pr_hasOperand 19 rfl) rfl (by decide) (fun c32 => ?_) (fun c32 => ?_)
      · refine gi_iload_n (q := 49) (i := 2) C (dm_Pr_hasOperand 28 rfl) rfl rfl rfl ?_
        refine gi_bipush (q := 51) (v := 32) C (dm_Pr_hasOperand 29 rfl) rfl (by decide) ?_
        refine gi_icmp_ne (q := 54) (tgt := 60) C (dm_Pr_hasOperand 30 rfl) rfl (by decide) (fun c51 => ?_) (fun c51 => ?_)
        · refine gi_iload_n (q := 61) (i := 2) C (dm_Pr_hasOperand 35 rfl) rfl rfl rfl ?_
          refine gi_bipush (q := 63) (v := 34) C (dm_Pr_hasOperand 36 rfl) rfl (by decide) ?_
          refine gi_icmp_eq (q := 66) (tgt := 72) C (dm_Pr_hasOperand 37 rfl) rfl (by decide) (fun c63 => ?_) (fun c63 => ?_)
          · refine gi_iload_n (q := 73) (i := 3) C (dm_Pr_hasOperand 41 rfl) rfl rfl rfl ?_
            refine gi_if_lt (q := 76) (tgt := 85) C (dm_Pr_hasOperand 42 rfl) rfl (by decide) (fun c73 => ?_) (fun c73 => ?_)
            · refine gi_iconst (q := 86) (v := 0) C (dm_Pr_hasOperand 48 rfl) rfl (by decide) ?_
              refine gi_zret C hr (dm_Pr_hasOperand 49 rfl) rfl ?_
              (try have f2 : o = 1 := (nI_eq (b := 1) (by omega) (by omega)).mp c2)
              (try have f2 : ¬ o = 1 := (fun z : o = 1 => c2 (by rw [z]; rfl)))
              (try have f7 : o = 2 := (nI_eq (b := 2) (by omega) (by omega)).mp c7)
              (try have f7 : ¬ o = 2 := (fun z : o = 2 => c7 (by rw [z]; rfl)))
              (try have f51 : o = 32 := (nI_eq (b := 32) (by omega) (by omega)).mp c51)
              (try have f51 : ¬ o = 32 := (fun z : o = 32 => c51 (by rw [z]; rfl)))
              (try have f63 : o = 34 := (nI_eq (b := 34) (by omega) (by omega)).mp c63)
              (try have f63 : ¬ o = 34 := (fun z : o = 34 => c63 (by rw [z]; rfl)))
              (try have f69 : o = 35 := (nI_eq (b := 35) (by omega) (by omega)).mp c69)
              (try have f69 : ¬ o = 35 := (fun z : o = 35 => c69 (by rw [z]; rfl)))
              (try have g32 : o < 19 := (nI_ltI (b := 19) (by omega) (by omega)).mp c32)
              (try have g32 : 19 ≤ o := (nI_leI (a := 19) (by omega) (by omega)).mp (Int32.not_lt.mp c32))
              (try have g38 : 27 < o := (nI_ltI (a := 27) (by omega) (by omega)).mp c38)
              (try have g38 : o ≤ 27 := (nI_leI (b := 27) (by omega) (by omega)).mp (Int32.not_lt.mp c38))
              (try rw [i_0] at c11)
              (try rw [i_0] at c73)
              (try rw [← Int32.not_lt, i_lt (by omega)] at c20)
              (try rw [← Int32.not_lt, show (4 : Int32) = nI 4 from rfl, i_lt (by omega)] at c78)
              refine ⟨?_, rfl, rfl⟩
              try rw [isM_i W.k8]
              try rw [isP_i W hm]
              congr 2
              first
                | (rw [show opdB k P m o a = true from opdB_iff.mpr (by unfold opdOk; omega)]; rfl)
                | (rw [show opdB k P m o a = false from (Bool.not_eq_true _).mp (fun z => by have z := opdB_iff.mp z; unfold opdOk at z; omega)]; rfl)
            · refine gi_iload_n (q := 77) (i := 3) C (dm_Pr_hasOperand 43 rfl) rfl rfl rfl ?_
              refine gi_iconst (q := 78) (v := 4) C (dm_Pr_hasOperand 44 rfl) rfl (by decide) ?_
              refine gi_icmp_ge (q := 81) (tgt := 85) C (dm_Pr_hasOperand 45 rfl) rfl (by decide) (fun c78 => ?_) (fun c78 => ?_)
              · refine gi_iconst (q := 86) (v := 0) C (dm_Pr_hasOperand 48 rfl) rfl (by decide) ?_
                refine gi_zret C hr (dm_Pr_hasOperand 49 rfl) rfl ?_
                (try have f2 : o = 1 := (nI_eq (b := 1) (by omega) (by omega)).mp c2)
                (try have f2 : ¬ o = 1 := (fun z : o = 1 => c2 (by rw [z]; rfl)))
                (try have f7 : o = 2 := (nI_eq (b := 2) (by omega) (by omega)).mp c7)
                (try have f7 : ¬ o = 2 := (fun z : o = 2 => c7 (by rw [z]; rfl)))
                (try have f51 : o = 32 := (nI_eq (b := 32) (by omega) (by omega)).mp c51)
                (try have f51 : ¬ o = 32 := (fun z : o = 32 => c51 (by rw [z]; rfl)))
                (try have f63 : o = 34 := (nI_eq (b := 34) (by omega) (by omega)).mp c63)
                (try have f63 : ¬ o = 34 := (fun z : o = 34 => c63 (by rw [z]; rfl)))
                (try have f69 : o = 35 := (nI_eq (b := 35) (by omega) (by omega)).mp c69)
                (try have f69 : ¬ o = 35 := (fun z : o = 35 => c69 (by rw [z]; rfl)))
                (try have g32 : o < 19 := (nI_ltI (b := 19) (by omega) (by omega)).mp c32)
                (try have g32 : 19 ≤ o := (nI_leI (a := 19) (by omega) (by omega)).mp (Int32.not_lt.mp c32))
                (try have g38 : 27 < o := (nI_ltI (a := 27) (by omega) (by omega)).mp c38)
                (try have g38 : o ≤ 27 := (nI_leI (b := 27) (by omega) (by omega)).mp (Int32.not_lt.mp c38))
                (try rw [i_0] at c11)
                (try rw [i_0] at c73)
                (try rw [← Int32.not_lt, i_lt (by omega)] at c20)
                (try rw [← Int32.not_lt, show (4 : Int32) = nI 4 from rfl, i_lt (by omega)] at c78)
                refine ⟨?_, rfl, rfl⟩
                try rw [isM_i W.k8]
                try rw [isP_i W hm]
                congr 2
                first
                  | (rw [show opdB k P m o a = true from opdB_iff.mpr (by unfold opdOk; omega)]; rfl)
                  | (rw [show opdB k P m o a = false from (Bool.not_eq_true _).mp (fun z => by have z := opdB_iff.mp z; unfold opdOk at z; omega)]; rfl)
              · refine gi_iconst (q := 82) (v := 1) C (dm_Pr_hasOperand 46 rfl) rfl (by decide) ?_
                refine gi_goto (tgt := 86) C (dm_Pr_hasOperand 47 rfl) (by decide) ?_
                refine gi_zret C hr (dm_Pr_hasOperand 49 rfl) rfl ?_
                (try have f2 : o = 1 := (nI_eq (b := 1) (by omega) (by omega)).mp c2)
                (try have f2 : ¬ o = 1 := (fun z : o = 1 => c2 (by rw [z]; rfl)))
                (try have f7 : o = 2 := (nI_eq (b := 2) (by omega) (by omega)).mp c7)
                (try have f7 : ¬ o = 2 := (fun z : o = 2 => c7 (by rw [z]; rfl)))
                (try have f51 : o = 32 := (nI_eq (b := 32) (by omega) (by omega)).mp c51)
                (try have f51 : ¬ o = 32 := (fun z : o = 32 => c51 (by rw [z]; rfl)))
                (try have f63 : o = 34 := (nI_eq (b := 34) (by omega) (by omega)).mp c63)
                (try have f63 : ¬ o = 34 := (fun z : o = 34 => c63 (by rw [z]; rfl)))
                (try have f69 : o = 35 := (nI_eq (b := 35) (by omega) (by omega)).mp c69)
                (try have f69 : ¬ o = 35 := (fun z : o = 35 => c69 (by rw [z]; rfl)))
                (try have g32 : o < 19 := (nI_ltI (b := 19) (by omega) (by omega)).mp c32)
                (try have g32 : 19 ≤ o := (nI_leI (a := 19) (by omega) (by omega)).mp (Int32.not_lt.mp c32))
                (try have g38 : 27 < o := (nI_ltI (a := 27) (by omega) (by omega)).mp c38)
                (try have g38 : o ≤ 27 := (nI_leI (b := 27) (by omega) (by omega)).mp (Int32.not_lt.mp c38))
                (try rw [i_0] at c11)
                (try rw [i_0] at c73)
                (try rw [← Int32.not_lt, i_lt (by omega)] at c20)
                (try rw [← Int32.not_lt, show (4 : Int32) = nI 4 from rfl, i_lt (by omega)] at c78)
                refine ⟨?_, rfl, rfl⟩
                try rw [isM_i W.k8]
                try rw [isP_i W hm]
                congr 2
                first
                  | (rw [show opdB k P m o a = true from opdB_iff.mpr (by unfold opdOk; omega)]; rfl)
                  | (rw [show opdB k P m o a = false from (Bool.not_eq_true _).mp (fun z => by have z := opdB_iff.mp z; unfold opdOk at z; omega)]; rfl)
          · refine gi_iload_n (q := 67) (i := 2) C (dm_Pr_hasOperand 38 rfl) rfl rfl rfl ?_
            refine gi_bipush (q := 69) (v := 35) C (dm_Pr_hasOperand 39 rfl) rfl (by decide) ?_
            refine gi_icmp_ne (q := 72) (tgt := 81) C (dm_Pr_hasOperand 40 rfl) rfl (by decide) (fun c69 => ?_) (fun c69 => ?_)
            · refine gi_iconst (q := 82) (v := 1) C (dm_Pr_hasOperand 46 rfl) rfl (by decide) ?_
              refine gi_goto (tgt := 86) C (dm_Pr_hasOperand 47 rfl) (by decide) ?_
              refine gi_zret C hr (dm_Pr_hasOperand 49 rfl) rfl ?_
              (try have f2 : o = 1 := (nI_eq (b := 1) (by omega) (by omega)).mp c2)
              (try have f2 : ¬ o = 1 := (fun z : o = 1 => c2 (by rw [z]; rfl)))
              (try have f7 : o = 2 := (nI_eq (b := 2) (by omega) (by omega)).mp c7)
              (try have f7 : ¬ o = 2 := (fun z : o = 2 => c7 (by rw [z]; rfl)))
              (try have f51 : o = 32 := (nI_eq (b := 32) (by omega) (by omega)).mp c51)
              (try have f51 : ¬ o = 32 := (fun z : o = 32 => c51 (by rw [z]; rfl)))
              (try have f63 : o = 34 := (nI_eq (b := 34) (by omega) (by omega)).mp c63)
              (try have f63 : ¬ o = 34 := (fun z : o = 34 => c63 (by rw [z]; rfl)))
              (try have f69 : o = 35 := (nI_eq (b := 35) (by omega) (by omega)).mp c69)
              (try have f69 : ¬ o = 35 := (fun z : o = 35 => c69 (by rw [z]; rfl)))
              (try have g32 : o < 19 := (nI_ltI (b := 19) (by omega) (by omega)).mp c32)
              (try have g32 : 19 ≤ o := (nI_leI (a := 19) (by omega) (by omega)).mp (Int32.not_lt.mp c32))
              (try have g38 : 27 < o := (nI_ltI (a := 27) (by omega) (by omega)).mp c38)
              (try have g38 : o ≤ 27 := (nI_leI (b := 27) (by omega) (by omega)).mp (Int32.not_lt.mp c38))
              (try rw [i_0] at c11)
              (try rw [i_0] at c73)
              (try rw [← Int32.not_lt, i_lt (by omega)] at c20)
              (try rw [← Int32.not_lt, show (4 : Int32) = nI 4 from rfl, i_lt (by omega)] at c78)
              refine ⟨?_, rfl, rfl⟩
              try rw [isM_i W.k8]
              try rw [isP_i W hm]
              congr 2
              first
                | (rw [show opdB k P m o a = true from opdB_iff.mpr (by unfold opdOk; omega)]; rfl)
                | (rw [show opdB k P m o a = false from (Bool.not_eq_true _).mp (fun z => by have z := opdB_iff.mp z; unfold opdOk at z; omega)]; rfl)
            · refine gi_iload_n (q := 73) (i := 3) C (dm_Pr_hasOperand 41 rfl) rfl rfl rfl ?_
              refine gi_if_lt (q := 76) (tgt := 85) C (dm_Pr_hasOperand 42 rfl) rfl (by decide) (fun c73 => ?_) (fun c73 => ?_)
              · refine gi_iconst (q := 86) (v := 0) C (dm_Pr_hasOperand 48 rfl) rfl (by decide) ?_
                refine gi_zret C hr (dm_Pr_hasOperand 49 rfl) rfl ?_
                (try have f2 : o = 1 := (nI_eq (b := 1) (by omega) (by omega)).mp c2)
                (try have f2 : ¬ o = 1 := (fun z : o = 1 => c2 (by rw [z]; rfl)))
                (try have f7 : o = 2 := (nI_eq (b := 2) (by omega) (by omega)).mp c7)
                (try have f7 : ¬ o = 2 := (fun z : o = 2 => c7 (by rw [z]; rfl)))
                (try have f51 : o = 32 := (nI_eq (b := 32) (by omega) (by omega)).mp c51)
                (try have f51 : ¬ o = 32 := (fun z : o = 32 => c51 (by rw [z]; rfl)))
                (try have f63 : o = 34 := (nI_eq (b := 34) (by omega) (by omega)).mp c63)
                (try have f63 : ¬ o = 34 := (fun z : o = 34 => c63 (by rw [z]; rfl)))
                (try have f69 : o = 35 := (nI_eq (b := 35) (by omega) (by omega)).mp c69)
                (try have f69 : ¬ o = 35 := (fun z : o = 35 => c69 (by rw [z]; rfl)))
                (try have g32 : o < 19 := (nI_ltI (b := 19) (by omega) (by omega)).mp c32)
                (try have g32 : 19 ≤ o := (nI_leI (a := 19) (by omega) (by omega)).mp (Int32.not_lt.mp c32))
                (try have g38 : 27 < o := (nI_ltI (a := 27) (by omega) (by omega)).mp c38)
                (try have g38 : o ≤ 27 := (nI_leI (b := 27) (by omega) (by omega)).mp (Int32.not_lt.mp c38))
                (try rw [i_0] at c11)
                (try rw [i_0] at c73)
                (try rw [← Int32.not_lt, i_lt (by omega)] at c20)
                (try rw [← Int32.not_lt, show (4 : Int32) = nI 4 from rfl, i_lt (by omega)] at c78)
                refine ⟨?_, rfl, rfl⟩
                try rw [isM_i W.k8]
                try rw [isP_i W hm]
                congr 2
                first
                  | (rw [show opdB k P m o a = true from opdB_iff.mpr (by unfold opdOk; omega)]; rfl)
                  | (rw [show opdB k P m o a = false from (Bool.not_eq_true _).mp (fun z => by have z := opdB_iff.mp z; unfold opdOk at z; omega)]; rfl)
              · refine gi_iload_n (q := 77) (i := 3) C (dm_Pr_hasOperand 43 rfl) rfl rfl rfl ?_
                refine gi_iconst (q := 78) (v := 4) C (dm_Pr_hasOperand 44 rfl) rfl (by decide) ?_
                refine gi_icmp_ge (q := 81) (tgt := 85) C (dm_Pr_hasOperand 45 rfl) rfl (by decide) (fun c78 => ?_) (fun c78 => ?_)
                · refine gi_iconst (q := 86) (v := 0) C (dm_Pr_hasOperand 48 rfl) rfl (by decide) ?_
                  refine gi_zret C hr (dm_Pr_hasOperand 49 rfl) rfl ?_
                  (try have f2 : o = 1 := (nI_eq (b := 1) (by omega) (by omega)).mp c2)
                  (try have f2 : ¬ o = 1 := (fun z : o = 1 => c2 (by rw [z]; rfl)))
                  (try have f7 : o = 2 := (nI_eq (b := 2) (by omega) (by omega)).mp c7)
                  (try have f7 : ¬ o = 2 := (fun z : o = 2 => c7 (by rw [z]; rfl)))
                  (try have f51 : o = 32 := (nI_eq (b := 32) (by omega) (by omega)).mp c51)
                  (try have f51 : ¬ o = 32 := (fun z : o = 32 => c51 (by rw [z]; rfl)))
                  (try have f63 : o = 34 := (nI_eq (b := 34) (by omega) (by omega)).mp c63)
                  (try have f63 : ¬ o = 34 := (fun z : o = 34 => c63 (by rw [z]; rfl)))
                  (try have f69 : o = 35 := (nI_eq (b := 35) (by omega) (by omega)).mp c69)
                  (try have f69 : ¬ o = 35 := (fun z : o = 35 => c69 (by rw [z]; rfl)))
                  (try have g32 : o < 19 := (nI_ltI (b := 19) (by omega) (by omega)).mp c32)
                  (try have g32 : 19 ≤ o := (nI_leI (a := 19) (by omega) (by omega)).mp (Int32.not_lt.mp c32))
                  (try have g38 : 27 < o := (nI_ltI (a := 27) (by omega) (by omega)).mp c38)
                  (try have g38 : o ≤ 27 := (nI_leI (b := 27) (by omega) (by omega)).mp (Int32.not_lt.mp c38))
                  (try rw [i_0] at c11)
                  (try rw [i_0] at c73)
                  (try rw [← Int32.not_lt, i_lt (by omega)] at c20)
                  (try rw [← Int32.not_lt, show (4 : Int32) = nI 4 from rfl, i_lt (by omega)] at c78)
                  refine ⟨?_, rfl, rfl⟩
                  try rw [isM_i W.k8]
                  try rw [isP_i W hm]
                  congr 2
                  first
                    | (rw [show opdB k P m o a = true from opdB_iff.mpr (by unfold opdOk; omega)]; rfl)
                    | (rw [show opdB k P m o a = false from (Bool.not_eq_true _).mp (fun z => by have z := opdB_iff.mp z; unfold opdOk at z; omega)]; rfl)
                · refine gi_iconst (q := 82) (v := 1) C (dm_Pr_hasOperand 46 rfl) rfl (by decide) ?_
                  refine gi_goto (tgt := 86) C (dm_Pr_hasOperand 47 rfl) (by decide) ?_
                  refine gi_zret C hr (dm_Pr_hasOperand 49 rfl) rfl ?_
                  (try have f2 : o = 1 := (nI_eq (b := 1) (by omega) (by omega)).mp c2)
                  (try have f2 : ¬ o = 1 := (fun z : o = 1 => c2 (by rw [z]; rfl)))
                  (try have f7 : o = 2 := (nI_eq (b := 2) (by omega) (by omega)).mp c7)
                  (try have f7 : ¬ o = 2 := (fun z : o = 2 => c7 (by rw [z]; rfl)))
                  (try have f51 : o = 32 := (nI_eq (b := 32) (by omega) (by omega)).mp c51)
                  (try have f51 : ¬ o = 32 := (fun z : o = 32 => c51 (by rw [z]; rfl)))
                  (try have f63 : o = 34 := (nI_eq (b := 34) (by omega) (by omega)).mp c63)
                  (try have f63 : ¬ o = 34 := (fun z : o = 34 => c63 (by rw [z]; rfl)))
                  (try have f69 : o = 35 := (nI_eq (b := 35) (by omega) (by omega)).mp c69)
                  (try have f69 : ¬ o = 35 := (fun z : o = 35 => c69 (by rw [z]; rfl)))
                  (try have g32 : o < 19 := (nI_ltI (b := 19) (by omega) (by omega)).mp c32)
                  (try have g32 : 19 ≤ o := (nI_leI (a := 19) (by omega) (by omega)).mp (Int32.not_lt.mp c32))
                  (try have g38 : 27 < o := (nI_ltI (a := 27) (by omega) (by omega)).mp c38)
                  (try have g38 : o ≤ 27 := (nI_leI (b := 27) (by omega) (by omega)).mp (Int32.not_lt.mp c38))
                  (try rw [i_0] at c11)
                  (try rw [i_0] at c73)
                  (try rw [← Int32.not_lt, i_lt (by omega)] at c20)
                  (try rw [← Int32.not_lt, show (4 : Int32) = nI 4 from rfl, i_lt (by omega)] at c78)
                  refine ⟨?_, rfl, rfl⟩
                  try rw [isM_i W.k8]
                  try rw [isP_i W hm]
                  congr 2
                  first
                    | (rw [show opdB k P m o a = true from opdB_iff.mpr (by unfold opdOk; omega)]; rfl)
                    | (rw [show opdB k P m o a = false from (Bool.not_eq_true _).mp (fun z => by have z := opdB_iff.mp z; unfold opdOk at z; omega)]; rfl)
        · refine gi_aload_n (q := 55) (i := 0) C (dm_Pr_hasOperand 31 rfl) rfl rfl rfl ?_
          refine gi_iload_n (q := 56) (i := 3) C (dm_Pr_hasOperand 32 rfl) rfl rfl rfl ?_
          refine gi_callv 1 (q := 59) C (dm_Pr_hasOperand 33 rfl) rfl my_Pr_hasMethod lk_Pr_37 im_Pr_hasMethod rfl (c_Pr_hasMethod a W.k8 HP) HP.1 rfl rfl ⟨(Nat.le_of_ble_eq_true rfl), (Nat.le_of_ble_eq_true rfl)⟩ (Nat.le_of_ble_eq_true rfl) ⟨(Nat.le_of_ble_eq_true rfl), (Nat.le_of_ble_eq_true rfl)⟩ (fun r56 n56 h56 e56 => ?_)
          obtain ⟨rfl, q56, u56⟩ := e56
          rw [q56, u56]
          refine gi_zret C hr (dm_Pr_hasOperand 34 rfl) (bI_nar _) ?_
          (try have f2 : o = 1 := (nI_eq (b := 1) (by omega) (by omega)).mp c2)
          (try have f2 : ¬ o = 1 := (fun z : o = 1 => c2 (by rw [z]; rfl)))
          (try have f7 : o = 2 := (nI_eq (b := 2) (by omega) (by omega)).mp c7)
          (try have f7 : ¬ o = 2 := (fun z : o = 2 => c7 (by rw [z]; rfl)))
          (try have f51 : o = 32 := (nI_eq (b := 32) (by omega) (by omega)).mp c51)
          (try have f51 : ¬ o = 32 := (fun z : o = 32 => c51 (by rw [z]; rfl)))
          (try have f63 : o = 34 := (nI_eq (b := 34) (by omega) (by omega)).mp c63)
          (try have f63 : ¬ o = 34 := (fun z : o = 34 => c63 (by rw [z]; rfl)))
          (try have f69 : o = 35 := (nI_eq (b := 35) (by omega) (by omega)).mp c69)
          (try have f69 : ¬ o = 35 := (fun z : o = 35 => c69 (by rw [z]; rfl)))
          (try have g32 : o < 19 := (nI_ltI (b := 19) (by omega) (by omega)).mp c32)
          (try have g32 : 19 ≤ o := (nI_leI (a := 19) (by omega) (by omega)).mp (Int32.not_lt.mp c32))
          (try have g38 : 27 < o := (nI_ltI (a := 27) (by omega) (by omega)).mp c38)
          (try have g38 : o ≤ 27 := (nI_leI (b := 27) (by omega) (by omega)).mp (Int32.not_lt.mp c38))
          (try rw [i_0] at c11)
          (try rw [i_0] at c73)
          (try rw [← Int32.not_lt, i_lt (by omega)] at c20)
          (try rw [← Int32.not_lt, show (4 : Int32) = nI 4 from rfl, i_lt (by omega)] at c78)
          refine ⟨?_, rfl, rfl⟩
          rw [isM_i W.k8]
          congr 3
          refine Bool.eq_iff_iff.mpr (Iff.trans ?_ opdB_iff.symm)
          unfold opdOk
          rw [Bool.and_eq_true, decide_eq_true_iff, decide_eq_true_iff]
          omega
      · refine gi_iload_n (q := 36) (i := 2) C (dm_Pr_hasOperand 20 rfl) rfl rfl rfl ?_
        refine gi_bipush (q := 38) (v := 27) C (dm_Pr_hasOperand 21 rfl) rfl (by decide) ?_
        refine gi_icmp_gt (q := 41) (tgt := 48) C (dm_Pr_hasOperand 22 rfl) rfl (by decide) (fun c38 => ?_) (fun c38 => ?_)
        · refine gi_iload_n (q := 49) (i := 2) C (dm_Pr_hasOperand 28 rfl) rfl rfl rfl ?_
          refine gi_bipush (q := 51) (v := 32) C (dm_Pr_hasOperand 29 rfl) rfl (by decide) ?_
          refine gi_icmp_ne (q := 54) (tgt := 60) C (dm_Pr_hasOperand 30 rfl) rfl (by decide) (fun c51 => ?_) (fun c51 => ?_)
          · refine gi_iload_n (q := 61) (i := 2) C (dm_Pr_hasOperand 35 rfl) rfl rfl rfl ?_
            refine gi_bipush (q := 63) (v := 34) C (dm_Pr_hasOperand 36 rfl) rfl (by decide) ?_
            refine gi_icmp_eq (q := 66) (tgt := 72) C (dm_Pr_hasOperand 37 rfl) rfl (by decide) (fun c63 => ?_) (fun c63 => ?_)
            · refine gi_iload_n (q := 73) (i := 3) C (dm_Pr_hasOperand 41 rfl) rfl rfl rfl ?_
              refine gi_if_lt (q := 76) (tgt := 85) C (dm_Pr_hasOperand 42 rfl) rfl (by decide) (fun c73 => ?_) (fun c73 => ?_)
              · refine gi_iconst (q := 86) (v := 0) C (dm_Pr_hasOperand 48 rfl) rfl (by decide) ?_
                refine gi_zret C hr (dm_Pr_hasOperand 49 rfl) rfl ?_
                (try have f2 : o = 1 := (nI_eq (b := 1) (by omega) (by omega)).mp c2)
                (try have f2 : ¬ o = 1 := (fun z : o = 1 => c2 (by rw [z]; rfl)))
                (try have f7 : o = 2 := (nI_eq (b := 2) (by omega) (by omega)).mp c7)
                (try have f7 : ¬ o = 2 := (fun z : o = 2 => c7 (by rw [z]; rfl)))
                (try have f51 : o = 32 := (nI_eq (b := 32) (by omega) (by omega)).mp c51)
                (try have f51 : ¬ o = 32 := (fun z : o = 32 => c51 (by rw [z]; rfl)))
                (try have f63 : o = 34 := (nI_eq (b := 34) (by omega) (by omega)).mp c63)
                (try have f63 : ¬ o = 34 := (fun z : o = 34 => c63 (by rw [z]; rfl)))
                (try have f69 : o = 35 := (nI_eq (b := 35) (by omega) (by omega)).mp c69)
                (try have f69 : ¬ o = 35 := (fun z : o = 35 => c69 (by rw [z]; rfl)))
                (try have g32 : o < 19 := (nI_ltI (b := 19) (by omega) (by omega)).mp c32)
                (try have g32 : 19 ≤ o := (nI_leI (a := 19) (by omega) (by omega)).mp (Int32.not_lt.mp c32))
                (try have g38 : 27 < o := (nI_ltI (a := 27) (by omega) (by omega)).mp c38)
                (try have g38 : o ≤ 27 := (nI_leI (b := 27) (by omega) (by omega)).mp (Int32.not_lt.mp c38))
                (try rw [i_0] at c11)
                (try rw [i_0] at c73)
                (try rw [← Int32.not_lt, i_lt (by omega)] at c20)
                (try rw [← Int32.not_lt, show (4 : Int32) = nI 4 from rfl, i_lt (by omega)] at c78)
                refine ⟨?_, rfl, rfl⟩
                try rw [isM_i W.k8]
                try rw [isP_i W hm]
                congr 2
                first
                  | (rw [show opdB k P m o a = true from opdB_iff.mpr (by unfold opdOk; omega)]; rfl)
                  | (rw [show opdB k P m o a = false from (Bool.not_eq_true _).mp (fun z => by have z := opdB_iff.mp z; unfold opdOk at z; omega)]; rfl)
              · refine gi_iload_n (q := 77) (i := 3) C (dm_Pr_hasOperand 43 rfl) rfl rfl rfl ?_
                refine gi_iconst (q := 78) (v := 4) C (dm_Pr_hasOperand 44 rfl) rfl (by decide) ?_
                refine gi_icmp_ge (q := 81) (tgt := 85) C (dm_Pr_hasOperand 45 rfl) rfl (by decide) (fun c78 => ?_) (fun c78 => ?_)
                · refine gi_iconst (q := 86) (v := 0) C (dm_Pr_hasOperand 48 rfl) rfl (by decide) ?_
                  refine gi_zret C hr (dm_Pr_hasOperand 49 rfl) rfl ?_
                  (try have f2 : o = 1 := (nI_eq (b := 1) (by omega) (by omega)).mp c2)
                  (try have f2 : ¬ o = 1 := (fun z : o = 1 => c2 (by rw [z]; rfl)))
                  (try have f7 : o = 2 := (nI_eq (b := 2) (by omega) (by omega)).mp c7)
                  (try have f7 : ¬ o = 2 := (fun z : o = 2 => c7 (by rw [z]; rfl)))
                  (try have f51 : o = 32 := (nI_eq (b := 32) (by omega) (by omega)).mp c51)
                  (try have f51 : ¬ o = 32 := (fun z : o = 32 => c51 (by rw [z]; rfl)))
                  (try have f63 : o = 34 := (nI_eq (b := 34) (by omega) (by omega)).mp c63)
                  (try have f63 : ¬ o = 34 := (fun z : o = 34 => c63 (by rw [z]; rfl)))
                  (try have f69 : o = 35 := (nI_eq (b := 35) (by omega) (by omega)).mp c69)
                  (try have f69 : ¬ o = 35 := (fun z : o = 35 => c69 (by rw [z]; rfl)))
                  (try have g32 : o < 19 := (nI_ltI (b := 19) (by omega) (by omega)).mp c32)
                  (try have g32 : 19 ≤ o := (nI_leI (a := 19) (by omega) (by omega)).mp (Int32.not_lt.mp c32))
                  (try have g38 : 27 < o := (nI_ltI (a := 27) (by omega) (by omega)).mp c38)
                  (try have g38 : o ≤ 27 := (nI_leI (b := 27) (by omega) (by omega)).mp (Int32.not_lt.mp c38))
                  (try rw [i_0] at c11)
                  (try rw [i_0] at c73)
                  (try rw [← Int32.not_lt, i_lt (by omega)] at c20)
                  (try rw [← Int32.not_lt, show (4 : Int32) = nI 4 from rfl, i_lt (by omega)] at c78)
                  refine ⟨?_, rfl, rfl⟩
                  try rw [isM_i W.k8]
                  try rw [isP_i W hm]
                  congr 2
                  first
                    | (rw [show opdB k P m o a = true from opdB_iff.mpr (by unfold opdOk; omega)]; rfl)
                    | (rw [show opdB k P m o a = false from (Bool.not_eq_true _).mp (fun z => by have z := opdB_iff.mp z; unfold opdOk at z; omega)]; rfl)
                · refine gi_iconst (q := 82) (v := 1) C (dm_Pr_hasOperand 46 rfl) rfl (by decide) ?_
                  refine gi_goto (tgt := 86) C (dm_Pr_hasOperand 47 rfl) (by decide) ?_
                  refine gi_zret C hr (dm_Pr_hasOperand 49 rfl) rfl ?_
                  (try have f2 : o = 1 := (nI_eq (b := 1) (by omega) (by omega)).mp c2)
                  (try have f2 : ¬ o = 1 := (fun z : o = 1 => c2 (by rw [z]; rfl)))
                  (try have f7 : o = 2 := (nI_eq (b := 2) (by omega) (by omega)).mp c7)
                  (try have f7 : ¬ o = 2 := (fun z : o = 2 => c7 (by rw [z]; rfl)))
                  (try have f51 : o = 32 := (nI_eq (b := 32) (by omega) (by omega)).mp c51)
                  (try have f51 : ¬ o = 32 := (fun z : o = 32 => c51 (by rw [z]; rfl)))
                  (try have f63 : o = 34 := (nI_eq (b := 34) (by omega) (by omega)).mp c63)
                  (try have f63 : ¬ o = 34 := (fun z : o = 34 => c63 (by rw [z]; rfl)))
                  (try have f69 : o = 35 := (nI_eq (b := 35) (by omega) (by omega)).mp c69)
                  (try have f69 : ¬ o = 35 := (fun z : o = 35 => c69 (by rw [z]; rfl)))
                  (try have g32 : o < 19 := (nI_ltI (b := 19) (by omega) (by omega)).mp c32)
                  (try have g32 : 19 ≤ o := (nI_leI (a := 19) (by omega) (by omega)).mp (Int32.not_lt.mp c32))
                  (try have g38 : 27 < o := (nI_ltI (a := 27) (by omega) (by omega)).mp c38)
                  (try have g38 : o ≤ 27 := (nI_leI (b := 27) (by omega) (by omega)).mp (Int32.not_lt.mp c38))
                  (try rw [i_0] at c11)
                  (try rw [i_0] at c73)
                  (try rw [← Int32.not_lt, i_lt (by omega)] at c20)
                  (try rw [← Int32.not_lt, show (4 : Int32) = nI 4 from rfl, i_lt (by omega)] at c78)
                  refine ⟨?_, rfl, rfl⟩
                  try rw [isM_i W.k8]
                  try rw [isP_i W hm]
                  congr 2
                  first
                    | (rw [show opdB k P m o a = true from opdB_iff.mpr (by unfold opdOk; omega)]; rfl)
                    | (rw [show opdB k P m o a = false from (Bool.not_eq_true _).mp (fun z => by have z := opdB_iff.mp z; unfold opdOk at z; omega)]; rfl)
            · refine gi_iload_n (q := 67) (i := 2) C (dm_Pr_hasOperand 38 rfl) rfl rfl rfl ?_
              refine gi_bipush (q := 69) (v := 35) C (dm_Pr_hasOperand 39 rfl) rfl (by decide) ?_
              refine gi_icmp_ne (q := 72) (tgt := 81) C (dm_Pr_hasOperand 40 rfl) rfl (by decide) (fun c69 => ?_) (fun c69 => ?_)
              · refine gi_iconst (q := 82) (v := 1) C (dm_Pr_hasOperand 46 rfl) rfl (by decide) ?_
                refine gi_goto (tgt := 86) C (dm_Pr_hasOperand 47 rfl) (by decide) ?_
                refine gi_zret C hr (dm_Pr_hasOperand 49 rfl) rfl ?_
                (try have f2 : o = 1 := (nI_eq (b := 1) (by omega) (by omega)).mp c2)
                (try have f2 : ¬ o = 1 := (fun z : o = 1 => c2 (by rw [z]; rfl)))
                (try have f7 : o = 2 := (nI_eq (b := 2) (by omega) (by omega)).mp c7)
                (try have f7 : ¬ o = 2 := (fun z : o = 2 => c7 (by rw [z]; rfl)))
                (try have f51 : o = 32 := (nI_eq (b := 32) (by omega) (by omega)).mp c51)
                (try have f51 : ¬ o = 32 := (fun z : o = 32 => c51 (by rw [z]; rfl)))
                (try have f63 : o = 34 := (nI_eq (b := 34) (by omega) (by omega)).mp c63)
                (try have f63 : ¬ o = 34 := (fun z : o = 34 => c63 (by rw [z]; rfl)))
                (try have f69 : o = 35 := (nI_eq (b := 35) (by omega) (by omega)).mp c69)
                (try have f69 : ¬ o = 35 := (fun z : o = 35 => c69 (by rw [z]; rfl)))
                (try have g32 : o < 19 := (nI_ltI (b := 19) (by omega) (by omega)).mp c32)
                (try have g32 : 19 ≤ o := (nI_leI (a := 19) (by omega) (by omega)).mp (Int32.not_lt.mp c32))
                (try have g38 : 27 < o := (nI_ltI (a := 27) (by omega) (by omega)).mp c38)
                (try have g38 : o ≤ 27 := (nI_leI (b := 27) (by omega) (by omega)).mp (Int32.not_lt.mp c38))
                (try rw [i_0] at c11)
                (try rw [i_0] at c73)
                (try rw [← Int32.not_lt, i_lt (by omega)] at c20)
                (try rw [← Int32.not_lt, show (4 : Int32) = nI 4 from rfl, i_lt (by omega)] at c78)
                refine ⟨?_, rfl, rfl⟩
                try rw [isM_i W.k8]
                try rw [isP_i W hm]
                congr 2
                first
                  | (rw [show opdB k P m o a = true from opdB_iff.mpr (by unfold opdOk; omega)]; rfl)
                  | (rw [show opdB k P m o a = false from (Bool.not_eq_true _).mp (fun z => by have z := opdB_iff.mp z; unfold opdOk at z; omega)]; rfl)
              · refine gi_iload_n (q := 73) (i := 3) C (dm_Pr_hasOperand 41 rfl) rfl rfl rfl ?_
                refine gi_if_lt (q := 76) (tgt := 85) C (dm_Pr_hasOperand 42 rfl) rfl (by decide) (fun c73 => ?_) (fun c73 => ?_)
                · refine gi_iconst (q := 86) (v := 0) C (dm_Pr_hasOperand 48 rfl) rfl (by decide) ?_
                  refine gi_zret C hr (dm_Pr_hasOperand 49 rfl) rfl ?_
                  (try have f2 : o = 1 := (nI_eq (b := 1) (by omega) (by omega)).mp c2)
                  (try have f2 : ¬ o = 1 := (fun z : o = 1 => c2 (by rw [z]; rfl)))
                  (try have f7 : o = 2 := (nI_eq (b := 2) (by omega) (by omega)).mp c7)
                  (try have f7 : ¬ o = 2 := (fun z : o = 2 => c7 (by rw [z]; rfl)))
                  (try have f51 : o = 32 := (nI_eq (b := 32) (by omega) (by omega)).mp c51)
                  (try have f51 : ¬ o = 32 := (fun z : o = 32 => c51 (by rw [z]; rfl)))
                  (try have f63 : o = 34 := (nI_eq (b := 34) (by omega) (by omega)).mp c63)
                  (try have f63 : ¬ o = 34 := (fun z : o = 34 => c63 (by rw [z]; rfl)))
                  (try have f69 : o = 35 := (nI_eq (b := 35) (by omega) (by omega)).mp c69)
                  (try have f69 : ¬ o = 35 := (fun z : o = 35 => c69 (by rw [z]; rfl)))
                  (try have g32 : o < 19 := (nI_ltI (b := 19) (by omega) (by omega)).mp c32)
                  (try have g32 : 19 ≤ o := (nI_leI (a := 19) (by omega) (by omega)).mp (Int32.not_lt.mp c32))
                  (try have g38 : 27 < o := (nI_ltI (a := 27) (by omega) (by omega)).mp c38)
                  (try have g38 : o ≤ 27 := (nI_leI (b := 27) (by omega) (by omega)).mp (Int32.not_lt.mp c38))
                  (try rw [i_0] at c11)
                  (try rw [i_0] at c73)
                  (try rw [← Int32.not_lt, i_lt (by omega)] at c20)
                  (try rw [← Int32.not_lt, show (4 : Int32) = nI 4 from rfl, i_lt (by omega)] at c78)
                  refine ⟨?_, rfl, rfl⟩
                  try rw [isM_i W.k8]
                  try rw [isP_i W hm]
                  congr 2
                  first
                    | (rw [show opdB k P m o a = true from opdB_iff.mpr (by unfold opdOk; omega)]; rfl)
                    | (rw [show opdB k P m o a = false from (Bool.not_eq_true _).mp (fun z => by have z := opdB_iff.mp z; unfold opdOk at z; omega)]; rfl)
                · refine gi_iload_n (q := 77) (i := 3) C (dm_Pr_hasOperand 43 rfl) rfl rfl rfl ?_
                  refine gi_iconst (q := 78) (v := 4) C (dm_Pr_hasOperand 44 rfl) rfl (by decide) ?_
                  refine gi_icmp_ge (q := 81) (tgt := 85) C (dm_Pr_hasOperand 45 rfl) rfl (by decide) (fun c78 => ?_) (fun c78 => ?_)
                  · refine gi_iconst (q := 86) (v := 0) C (dm_Pr_hasOperand 48 rfl) rfl (by decide) ?_
                    refine gi_zret C hr (dm_Pr_hasOperand 49 rfl) rfl ?_
                    (try have f2 : o = 1 := (nI_eq (b := 1) (by omega) (by omega)).mp c2)
                    (try have f2 : ¬ o = 1 := (fun z : o = 1 => c2 (by rw [z]; rfl)))
                    (try have f7 : o = 2 := (nI_eq (b := 2) (by omega) (by omega)).mp c7)
                    (try have f7 : ¬ o = 2 := (fun z : o = 2 => c7 (by rw [z]; rfl)))
                    (try have f51 : o = 32 := (nI_eq (b := 32) (by omega) (by omega)).mp c51)
                    (try have f51 : ¬ o = 32 := (fun z : o = 32 => c51 (by rw [z]; rfl)))
                    (try have f63 : o = 34 := (nI_eq (b := 34) (by omega) (by omega)).mp c63)
                    (try have f63 : ¬ o = 34 := (fun z : o = 34 => c63 (by rw [z]; rfl)))
                    (try have f69 : o = 35 := (nI_eq (b := 35) (by omega) (by omega)).mp c69)
                    (try have f69 : ¬ o = 35 := (fun z : o = 35 => c69 (by rw [z]; rfl)))
                    (try have g32 : o < 19 := (nI_ltI (b := 19) (by omega) (by omega)).mp c32)
                    (try have g32 : 19 ≤ o := (nI_leI (a := 19) (by omega) (by omega)).mp (Int32.not_lt.mp c32))
                    (try have g38 : 27 < o := (nI_ltI (a := 27) (by omega) (by omega)).mp c38)
                    (try have g38 : o ≤ 27 := (nI_leI (b := 27) (by omega) (by omega)).mp (Int32.not_lt.mp c38))
                    (try rw [i_0] at c11)
                    (try rw [i_0] at c73)
                    (try rw [← Int32.not_lt, i_lt (by omega)] at c20)
                    (try rw [← Int32.not_lt, show (4 : Int32) = nI 4 from rfl, i_lt (by omega)] at c78)
                    refine ⟨?_, rfl, rfl⟩
                    try rw [isM_i W.k8]
                    try rw [isP_i W hm]
                    congr 2
                    first
                      | (rw [show opdB k P m o a = true from opdB_iff.mpr (by unfold opdOk; omega)]; rfl)
                      | (rw [show opdB k P m o a = false from (Bool.not_eq_true _).mp (fun z => by have z := opdB_iff.mp z; unfold opdOk at z; omega)]; rfl)
                  · refine gi_iconst (q := 82) (v := 1) C (dm_Pr_hasOperand 46 rfl) rfl (by decide) ?_
                    refine gi_goto (tgt := 86) C (dm_Pr_hasOperand 47 rfl) (by decide) ?_
                    refine gi_zret C hr (dm_Pr_hasOperand 49 rfl) rfl ?_
                    (try have f2 : o = 1 := (nI_eq (b := 1) (by omega) (by omega)).mp c2)
                    (try have f2 : ¬ o = 1 := (fun z : o = 1 => c2 (by rw [z]; rfl)))
                    (try have f7 : o = 2 := (nI_eq (b := 2) (by omega) (by omega)).mp c7)
                    (try have f7 : ¬ o = 2 := (fun z : o = 2 => c7 (by rw [z]; rfl)))
                    (try have f51 : o = 32 := (nI_eq (b := 32) (by omega) (by omega)).mp c51)
                    (try have f51 : ¬ o = 32 := (fun z : o = 32 => c51 (by rw [z]; rfl)))
                    (try have f63 : o = 34 := (nI_eq (b := 34) (by omega) (by omega)).mp c63)
                    (try have f63 : ¬ o = 34 := (fun z : o = 34 => c63 (by rw [z]; rfl)))
                    (try have f69 : o = 35 := (nI_eq (b := 35) (by omega) (by omega)).mp c69)
                    (try have f69 : ¬ o = 35 := (fun z : o = 35 => c69 (by rw [z]; rfl)))
                    (try have g32 : o < 19 := (nI_ltI (b := 19) (by omega) (by omega)).mp c32)
                    (try have g32 : 19 ≤ o := (nI_leI (a := 19) (by omega) (by omega)).mp (Int32.not_lt.mp c32))
                    (try have g38 : 27 < o := (nI_ltI (a := 27) (by omega) (by omega)).mp c38)
                    (try have g38 : o ≤ 27 := (nI_leI (b := 27) (by omega) (by omega)).mp (Int32.not_lt.mp c38))
                    (try rw [i_0] at c11)
                    (try rw [i_0] at c73)
                    (try rw [← Int32.not_lt, i_lt (by omega)] at c20)
                    (try rw [← Int32.not_lt, show (4 : Int32) = nI 4 from rfl, i_lt (by omega)] at c78)
                    refine ⟨?_, rfl, rfl⟩
                    try rw [isM_i W.k8]
                    try rw [isP_i W hm]
                    congr 2
                    first
                      | (rw [show opdB k P m o a = true from opdB_iff.mpr (by unfold opdOk; omega)]; rfl)
                      | (rw [show opdB k P m o a = false from (Bool.not_eq_true _).mp (fun z => by have z := opdB_iff.mp z; unfold opdOk at z; omega)]; rfl)
          · refine gi_aload_n (q := 55) (i := 0) C (dm_Pr_hasOperand 31 rfl) rfl rfl rfl ?_
            refine gi_iload_n (q := 56) (i := 3) C (dm_Pr_hasOperand 32 rfl) rfl rfl rfl ?_
            refine gi_callv 1 (q := 59) C (dm_Pr_hasOperand 33 rfl) rfl my_Pr_hasMethod lk_Pr_37 im_Pr_hasMethod rfl (c_Pr_hasMethod a W.k8 HP) HP.1 rfl rfl ⟨(Nat.le_of_ble_eq_true rfl), (Nat.le_of_ble_eq_true rfl)⟩ (Nat.le_of_ble_eq_true rfl) ⟨(Nat.le_of_ble_eq_true rfl), (Nat.le_of_ble_eq_true rfl)⟩ (fun r56 n56 h56 e56 => ?_)
            obtain ⟨rfl, q56, u56⟩ := e56
            rw [q56, u56]
            refine gi_zret C hr (dm_Pr_hasOperand 34 rfl) (bI_nar _) ?_
            (try have f2 : o = 1 := (nI_eq (b := 1) (by omega) (by omega)).mp c2)
            (try have f2 : ¬ o = 1 := (fun z : o = 1 => c2 (by rw [z]; rfl)))
            (try have f7 : o = 2 := (nI_eq (b := 2) (by omega) (by omega)).mp c7)
            (try have f7 : ¬ o = 2 := (fun z : o = 2 => c7 (by rw [z]; rfl)))
            (try have f51 : o = 32 := (nI_eq (b := 32) (by omega) (by omega)).mp c51)
            (try have f51 : ¬ o = 32 := (fun z : o = 32 => c51 (by rw [z]; rfl)))
            (try have f63 : o = 34 := (nI_eq (b := 34) (by omega) (by omega)).mp c63)
            (try have f63 : ¬ o = 34 := (fun z : o = 34 => c63 (by rw [z]; rfl)))
            (try have f69 : o = 35 := (nI_eq (b := 35) (by omega) (by omega)).mp c69)
            (try have f69 : ¬ o = 35 := (fun z : o = 35 => c69 (by rw [z]; rfl)))
            (try have g32 : o < 19 := (nI_ltI (b := 19) (by omega) (by omega)).mp c32)
            (try have g32 : 19 ≤ o := (nI_leI (a := 19) (by omega) (by omega)).mp (Int32.not_lt.mp c32))
            (try have g38 : 27 < o := (nI_ltI (a := 27) (by omega) (by omega)).mp c38)
            (try have g38 : o ≤ 27 := (nI_leI (b := 27) (by omega) (by omega)).mp (Int32.not_lt.mp c38))
            (try rw [i_0] at c11)
            (try rw [i_0] at c73)
            (try rw [← Int32.not_lt, i_lt (by omega)] at c20)
            (try rw [← Int32.not_lt, show (4 : Int32) = nI 4 from rfl, i_lt (by omega)] at c78)
            refine ⟨?_, rfl, rfl⟩
            rw [isM_i W.k8]
            congr 3
            refine Bool.eq_iff_iff.mpr (Iff.trans ?_ opdB_iff.symm)
            unfold opdOk
            rw [Bool.and_eq_true, decide_eq_true_iff, decide_eq_true_iff]
            omega
        · refine gi_aload_n (q := 42) (i := 0) C (dm_Pr_hasOperand 23 rfl) rfl rfl rfl ?_
          refine gi_iload_n (q := 43) (i := 1) C (dm_Pr_hasOperand 24 rfl) rfl rfl rfl ?_
          refine gi_iload_n (q := 44) (i := 3) C (dm_Pr_hasOperand 25 rfl) rfl rfl rfl ?_
          refine gi_callv 2 (q := 47) C (dm_Pr_hasOperand 26 rfl) rfl my_Pr_hasPlace lk_Pr_41 im_Pr_hasPlace rfl (c_Pr_hasPlace (nI m) a W.k8 HP) HP.1 rfl rfl ⟨(Nat.le_of_ble_eq_true rfl), (Nat.le_of_ble_eq_true rfl)⟩ (Nat.le_of_ble_eq_true rfl) ⟨(Nat.le_of_ble_eq_true rfl), (Nat.le_of_ble_eq_true rfl)⟩ (fun r44 n44 h44 e44 => ?_)
          obtain ⟨rfl, q44, u44⟩ := e44
          rw [q44, u44]
          refine gi_zret C hr (dm_Pr_hasOperand 27 rfl) (bI_nar _) ?_
          (try have f2 : o = 1 := (nI_eq (b := 1) (by omega) (by omega)).mp c2)
          (try have f2 : ¬ o = 1 := (fun z : o = 1 => c2 (by rw [z]; rfl)))
          (try have f7 : o = 2 := (nI_eq (b := 2) (by omega) (by omega)).mp c7)
          (try have f7 : ¬ o = 2 := (fun z : o = 2 => c7 (by rw [z]; rfl)))
          (try have f51 : o = 32 := (nI_eq (b := 32) (by omega) (by omega)).mp c51)
          (try have f51 : ¬ o = 32 := (fun z : o = 32 => c51 (by rw [z]; rfl)))
          (try have f63 : o = 34 := (nI_eq (b := 34) (by omega) (by omega)).mp c63)
          (try have f63 : ¬ o = 34 := (fun z : o = 34 => c63 (by rw [z]; rfl)))
          (try have f69 : o = 35 := (nI_eq (b := 35) (by omega) (by omega)).mp c69)
          (try have f69 : ¬ o = 35 := (fun z : o = 35 => c69 (by rw [z]; rfl)))
          (try have g32 : o < 19 := (nI_ltI (b := 19) (by omega) (by omega)).mp c32)
          (try have g32 : 19 ≤ o := (nI_leI (a := 19) (by omega) (by omega)).mp (Int32.not_lt.mp c32))
          (try have g38 : 27 < o := (nI_ltI (a := 27) (by omega) (by omega)).mp c38)
          (try have g38 : o ≤ 27 := (nI_leI (b := 27) (by omega) (by omega)).mp (Int32.not_lt.mp c38))
          (try rw [i_0] at c11)
          (try rw [i_0] at c73)
          (try rw [← Int32.not_lt, i_lt (by omega)] at c20)
          (try rw [← Int32.not_lt, show (4 : Int32) = nI 4 from rfl, i_lt (by omega)] at c78)
          refine ⟨?_, rfl, rfl⟩
          rw [isP_i W hm]
          congr 3
          refine Bool.eq_iff_iff.mpr (Iff.trans ?_ opdB_iff.symm)
          unfold opdOk
          rw [Bool.and_eq_true, decide_eq_true_iff, decide_eq_true_iff]
          omega
    · refine gi_iload_n (q := 11) (i := 3) C (dm_Pr_hasOperand 6 rfl) rfl rfl rfl ?_
      refine gi_if_lt (q := 14) (tgt := 27) C (dm_Pr_hasOperand 7 rfl) rfl (by decide) (fun c11 => ?_) (fun c11 => ?_)
      · refine gi_iconst (q := 28) (v := 0) C (dm_Pr_hasOperand 15 rfl) rfl (by decide) ?_
        refine gi_zret C hr (dm_Pr_hasOperand 16 rfl) rfl ?_
        (try have f2 : o = 1 := (nI_eq (b := 1) (by omega) (by omega)).mp c2)
        (try have f2 : ¬ o = 1 := (fun z : o = 1 => c2 (by rw [z]; rfl)))
        (try have f7 : o = 2 := (nI_eq (b := 2) (by omega) (by omega)).mp c7)
        (try have f7 : ¬ o = 2 := (fun z : o = 2 => c7 (by rw [z]; rfl)))
        (try have f51 : o = 32 := (nI_eq (b := 32) (by omega) (by omega)).mp c51)
        (try have f51 : ¬ o = 32 := (fun z : o = 32 => c51 (by rw [z]; rfl)))
        (try have f63 : o = 34 := (nI_eq (b := 34) (by omega) (by omega)).mp c63)
        (try have f63 : ¬ o = 34 := (fun z : o = 34 => c63 (by rw [z]; rfl)))
        (try have f69 : o = 35 := (nI_eq (b := 35) (by omega) (by omega)).mp c69)
        (try have f69 : ¬ o = 35 := (fun z : o = 35 => c69 (by rw [z]; rfl)))
        (try have g32 : o < 19 := (nI_ltI (b := 19) (by omega) (by omega)).mp c32)
        (try have g32 : 19 ≤ o := (nI_leI (a := 19) (by omega) (by omega)).mp (Int32.not_lt.mp c32))
        (try have g38 : 27 < o := (nI_ltI (a := 27) (by omega) (by omega)).mp c38)
        (try have g38 : o ≤ 27 := (nI_leI (b := 27) (by omega) (by omega)).mp (Int32.not_lt.mp c38))
        (try rw [i_0] at c11)
        (try rw [i_0] at c73)
        (try rw [← Int32.not_lt, i_lt (by omega)] at c20)
        (try rw [← Int32.not_lt, show (4 : Int32) = nI 4 from rfl, i_lt (by omega)] at c78)
        refine ⟨?_, rfl, rfl⟩
        try rw [isM_i W.k8]
        try rw [isP_i W hm]
        congr 2
        first
          | (rw [show opdB k P m o a = true from opdB_iff.mpr (by unfold opdOk; omega)]; rfl)
          | (rw [show opdB k P m o a = false from (Bool.not_eq_true _).mp (fun z => by have z := opdB_iff.mp z; unfold opdOk at z; omega)]; rfl)
      · refine gi_iload_n (q := 15) (i := 3) C (dm_Pr_hasOperand 8 rfl) rfl rfl rfl ?_
        refine gi_aload_n (q := 16) (i := 0) C (dm_Pr_hasOperand 9 rfl) rfl rfl rfl ?_
        refine gi_iload_n (q := 17) (i := 1) C (dm_Pr_hasOperand 10 rfl) rfl rfl rfl ?_
        refine gi_callv 1 (q := 20) C (dm_Pr_hasOperand 11 rfl) rfl my_Pr_localsOf lk_Pr_45 im_Pr_localsOf rfl (q_locals W hm HP) HP.1 rfl rfl ⟨(Nat.le_of_ble_eq_true rfl), (Nat.le_of_ble_eq_true rfl)⟩ (Nat.le_of_ble_eq_true rfl) ⟨(Nat.le_of_ble_eq_true rfl), (Nat.le_of_ble_eq_true rfl)⟩ (fun r17 n17 h17 e17 => ?_)
        obtain ⟨rfl, q17, u17⟩ := e17
        rw [q17, u17]
        refine gi_icmp_ge (q := 23) (tgt := 27) C (dm_Pr_hasOperand 12 rfl) rfl (by decide) (fun c20 => ?_) (fun c20 => ?_)
        · refine gi_iconst (q := 28) (v := 0) C (dm_Pr_hasOperand 15 rfl) rfl (by decide) ?_
          refine gi_zret C hr (dm_Pr_hasOperand 16 rfl) rfl ?_
          (try have f2 : o = 1 := (nI_eq (b := 1) (by omega) (by omega)).mp c2)
          (try have f2 : ¬ o = 1 := (fun z : o = 1 => c2 (by rw [z]; rfl)))
          (try have f7 : o = 2 := (nI_eq (b := 2) (by omega) (by omega)).mp c7)
          (try have f7 : ¬ o = 2 := (fun z : o = 2 => c7 (by rw [z]; rfl)))
          (try have f51 : o = 32 := (nI_eq (b := 32) (by omega) (by omega)).mp c51)
          (try have f51 : ¬ o = 32 := (fun z : o = 32 => c51 (by rw [z]; rfl)))
          (try have f63 : o = 34 := (nI_eq (b := 34) (by omega) (by omega)).mp c63)
          (try have f63 : ¬ o = 34 := (fun z : o = 34 => c63 (by rw [z]; rfl)))
          (try have f69 : o = 35 := (nI_eq (b := 35) (by omega) (by omega)).mp c69)
          (try have f69 : ¬ o = 35 := (fun z : o = 35 => c69 (by rw [z]; rfl)))
          (try have g32 : o < 19 := (nI_ltI (b := 19) (by omega) (by omega)).mp c32)
          (try have g32 : 19 ≤ o := (nI_leI (a := 19) (by omega) (by omega)).mp (Int32.not_lt.mp c32))
          (try have g38 : 27 < o := (nI_ltI (a := 27) (by omega) (by omega)).mp c38)
          (try have g38 : o ≤ 27 := (nI_leI (b := 27) (by omega) (by omega)).mp (Int32.not_lt.mp c38))
          (try rw [i_0] at c11)
          (try rw [i_0] at c73)
          (try rw [← Int32.not_lt, i_lt (by omega)] at c20)
          (try rw [← Int32.not_lt, show (4 : Int32) = nI 4 from rfl, i_lt (by omega)] at c78)
          refine ⟨?_, rfl, rfl⟩
          try rw [isM_i W.k8]
          try rw [isP_i W hm]
          congr 2
          first
            | (rw [show opdB k P m o a = true from opdB_iff.mpr (by unfold opdOk; omega)]; rfl)
            | (rw [show opdB k P m o a = false from (Bool.not_eq_true _).mp (fun z => by have z := opdB_iff.mp z; unfold opdOk at z; omega)]; rfl)
        · refine gi_iconst (q := 24) (v := 1) C (dm_Pr_hasOperand 13 rfl) rfl (by decide) ?_
          refine gi_goto (tgt := 28) C (dm_Pr_hasOperand 14 rfl) (by decide) ?_
          refine gi_zret C hr (dm_Pr_hasOperand 16 rfl) rfl ?_
          (try have f2 : o = 1 := (nI_eq (b := 1) (by omega) (by omega)).mp c2)
          (try have f2 : ¬ o = 1 := (fun z : o = 1 => c2 (by rw [z]; rfl)))
          (try have f7 : o = 2 := (nI_eq (b := 2) (by omega) (by omega)).mp c7)
          (try have f7 : ¬ o = 2 := (fun z : o = 2 => c7 (by rw [z]; rfl)))
          (try have f51 : o = 32 := (nI_eq (b := 32) (by omega) (by omega)).mp c51)
          (try have f51 : ¬ o = 32 := (fun z : o = 32 => c51 (by rw [z]; rfl)))
          (try have f63 : o = 34 := (nI_eq (b := 34) (by omega) (by omega)).mp c63)
          (try have f63 : ¬ o = 34 := (fun z : o = 34 => c63 (by rw [z]; rfl)))
          (try have f69 : o = 35 := (nI_eq (b := 35) (by omega) (by omega)).mp c69)
          (try have f69 : ¬ o = 35 := (fun z : o = 35 => c69 (by rw [z]; rfl)))
          (try have g32 : o < 19 := (nI_ltI (b := 19) (by omega) (by omega)).mp c32)
          (try have g32 : 19 ≤ o := (nI_leI (a := 19) (by omega) (by omega)).mp (Int32.not_lt.mp c32))
          (try have g38 : 27 < o := (nI_ltI (a := 27) (by omega) (by omega)).mp c38)
          (try have g38 : o ≤ 27 := (nI_leI (b := 27) (by omega) (by omega)).mp (Int32.not_lt.mp c38))
          (try rw [i_0] at c11)
          (try rw [i_0] at c73)
          (try rw [← Int32.not_lt, i_lt (by omega)] at c20)
          (try rw [← Int32.not_lt, show (4 : Int32) = nI 4 from rfl, i_lt (by omega)] at c78)
          refine ⟨?_, rfl, rfl⟩
          try rw [isM_i W.k8]
          try rw [isP_i W hm]
          congr 2
          first
            | (rw [show opdB k P m o a = true from opdB_iff.mpr (by unfold opdOk; omega)]; rfl)
            | (rw [show opdB k P m o a = false from (Bool.not_eq_true _).mp (fun z => by have z := opdB_iff.mp z; unfold opdOk at z; omega)]; rfl)
/-- an instruction with a bad operand -/
def odBad (k : Nat) (P : Pm) (p : Nat) : Bool := vldB k P p && !opdB k P (p / 60) (pN P 6 p) (P 7 p)
theorem odF_some {p : Nat} (hp : p < 480) (h : odBad k P p = true) (hl : ∀ q, q < p → odBad k P q = false) : odF k P = some p := rng_some hp h hl
theorem odF_none (hl : ∀ q, q < 480 → odBad k P q = false) : odF k P = none := rng_no hl
theorem odBad_v (W : wfP k P) (hm : m < k) (hi : i < pN P 5 m) : odBad k P (60 * m + i) = !opdB k P m (pN P 6 (60 * m + i)) (P 7 (60 * m + i)) := by
  have wm := wf_ar W hm
  unfold odBad
  rw [vldB_iff.mpr (show vld k P (60 * m + i) from ⟨by omega, by rw [show (60 * m + i) / 60 = m by omega]; omega⟩), Bool.true_and, show (60 * m + i) / 60 = m by omega]
theorem vld_no {q : Nat} (h : ¬ vld k P q) : vldB k P q = false := (Bool.not_eq_true _).mp (fun z => h (vldB_iff.mp z))
theorem vld_gap {q : Nat} (h1 : 60 * m + pN P 5 m ≤ q) (h2 : q < 60 * (m + 1)) : vldB k P q = false := vld_no (fun v => by
  have v2 := v.2
  rw [show q / 60 = m by omega] at v2
  omega)
theorem vld_end {q : Nat} (h1 : 60 * k ≤ q) : vldB k P q = false := vld_no (fun v => by have v1 := v.1; omega)
set_option maxHeartbeats 4000000 in
set_option maxRecDepth 100000 in
theorem c_Bu_findOperandFault (W : wfP k P) (HP : pr_at pr (nI k) P h) (Q : buO bu pr h0 S F h) : gi_T l V y_Bu_findOperandFault b_Bu_findOperandFault 3 none 3 66 0 0 [.ref bu] n h (fun v n' h' => v = none ∧ n' = n ∧ ((∃ p, odF k P = some p ∧ p < 480 ∧ buO bu pr h0 (upFl S (1, p / 60, p % 60)) F h') ∨ (odF k P = none ∧ h' = h))) := by
  refine gi_enter (by decide) (Nat.le_of_ble_eq_true rfl) ?_
  intro _ _ _ _ _ _ _ _ C hr hnm
  have w8 := W.k8
  refine gi_iconst (q := 1) (v := 0) C (dm_Bu_findOperandFault 0 rfl) rfl (by decide) ?_
  refine gi_istore_n (q := 2) (i := 1) C (dm_Bu_findOperandFault 1 rfl) rfl rfl (Nat.le_of_ble_eq_true rfl) ?_
  refine gi_while (σ := Nat) (fun m => k - m) (fun m => [(1, .int (nI m)), (0, .ref bu)]) (fun _ => n) (fun _ => 0) (fun _ => 0) (fun m y => y = h ∧ m ≤ k ∧ ∀ q, q < 60 * m → odBad k P q = false) 0 ⟨rfl, Nat.zero_le _, fun q hq => absurd hq (by omega)⟩ ?_ (List.forall_mem_cons.mpr ⟨rfl, List.forall_mem_cons.mpr ⟨rfl, fun _ h => absurd h List.not_mem_nil⟩⟩) rfl rfl rfl
  rintro m y' ⟨rfl, hm', hU⟩ ih1
  try dsimp only at *
  refine gi_iload_n (q := 3) (i := 1) C (dm_Bu_findOperandFault 2 rfl) rfl rfl rfl ?_
  refine gi_aload_n (q := 4) (i := 0) C (dm_Bu_findOperandFault 3 rfl) rfl rfl rfl ?_
  refine gi_get (q := 7) C (dm_Bu_findOperandFault 4 rfl) rfl fl_Bu_34 Q.ob rfl ?_
  refine gi_get (q := 10) C (dm_Bu_findOperandFault 5 rfl) rfl fl_Bu_54 HP.1 rfl ?_
  refine gi_icmp_ge (q := 13) (tgt := 76) C (dm_Bu_findOperandFault 6 rfl) rfl (by decide) (fun c10 => ?_) (fun c10 => ?_)
  · refine gi_vret C hr (dm_Bu_findOperandFault 40 rfl) ?_
    have hik : k = m := by
      rcases Nat.lt_or_ge m k with q | q
      · exact absurd c10 (Int32.not_le.mpr (nI_lt q (by omega)))
      · omega
    subst hik
    exact ⟨rfl, rfl, Or.inr ⟨odF_none (fun q hq => by
      rcases Nat.lt_or_ge q (60 * k) with z | z
      · exact hU q z
      · unfold odBad
        rw [vld_end z]
        rfl), rfl⟩⟩
  · have hlt : m < k := by
      rcases Nat.lt_or_ge m k with q | q
      · exact q
      · exact absurd (nI_le q (by omega)) c10
    have hm := hlt
    have wm := wf_ar W hm
    clear hlt
    refine gi_iconst (q := 14) (v := 0) C (dm_Bu_findOperandFault 7 rfl) rfl (by decide) ?_
    refine gi_istore_n (q := 15) (i := 2) C (dm_Bu_findOperandFault 8 rfl) rfl rfl (Nat.le_of_ble_eq_true rfl) ?_
    refine gi_while (σ := Nat) (fun i => pN P 5 m - i) (fun i => [(2, .int (nI i)), (1, .int (nI m)), (0, .ref bu)]) (fun _ => n) (fun _ => 0) (fun _ => 0) (fun i y => y = y' ∧ i ≤ pN P 5 m ∧ ∀ q, q < 60 * m + i → odBad k P q = false) 0 ⟨rfl, Nat.zero_le _, hU⟩ ?_ (List.forall_mem_cons.mpr ⟨rfl, List.forall_mem_cons.mpr ⟨rfl, List.forall_mem_cons.mpr ⟨rfl, fun _ h => absurd h List.not_mem_nil⟩⟩⟩) rfl rfl rfl
    clear hU
    rintro i y'' ⟨rfl, hi, hU⟩ ih2
    try dsimp only at *
    refine gi_iload_n (q := 16) (i := 2) C (dm_Bu_findOperandFault 9 rfl) rfl rfl rfl ?_
    refine gi_aload_n (q := 17) (i := 0) C (dm_Bu_findOperandFault 10 rfl) rfl rfl rfl ?_
    refine gi_get (q := 20) C (dm_Bu_findOperandFault 11 rfl) rfl fl_Bu_34 Q.ob rfl ?_
    refine gi_iload_n (q := 21) (i := 1) C (dm_Bu_findOperandFault 12 rfl) rfl rfl rfl ?_
    refine gi_callv 1 (q := 24) C (dm_Bu_findOperandFault 13 rfl) rfl my_Pr_lengthOf lk_Bu_77 im_Pr_lengthOf rfl (q_len W hm HP) HP.1 rfl rfl ⟨(Nat.le_of_ble_eq_true rfl), (Nat.le_of_ble_eq_true rfl)⟩ (Nat.le_of_ble_eq_true rfl) ⟨(Nat.le_of_ble_eq_true rfl), (Nat.le_of_ble_eq_true rfl)⟩ (fun r21 n21 h21 e21 => ?_)
    obtain ⟨rfl, q21, u21⟩ := e21
    rw [q21, u21]
    refine gi_icmp_ge (q := 27) (tgt := 70) C (dm_Bu_findOperandFault 14 rfl) rfl (by decide) (fun c24 => ?_) (fun c24 => ?_)
    · have hik : (pN P 5 m) = i := by
        rcases Nat.lt_or_ge i (pN P 5 m) with q | q
        · exact absurd c24 (Int32.not_le.mpr (nI_lt q (by omega)))
        · omega
      subst hik
      refine gi_iinc (q := 73) (v := 1) C (dm_Bu_findOperandFault 38 rfl) rfl rfl (by decide) (Nat.le_of_ble_eq_true rfl) ?_
      refine gi_goto (tgt := 2) C (dm_Bu_findOperandFault 39 rfl) (by decide) ?_
      refine gi_close (ih1 (m + 1) _ ⟨rfl, hm, fun q hq => ?_⟩ (by omega)) (List.forall_mem_cons.mpr ⟨(congrArg (fun x => some (Value.int x)) (nI_1 m)), List.forall_mem_cons.mpr ⟨rfl, fun _ h => absurd h List.not_mem_nil⟩⟩) rfl rfl rfl
      rcases Nat.lt_or_ge q (60 * m + pN P 5 m) with z | z
      · exact hU q z
      · unfold odBad
        rw [vld_gap (m := m) z (by omega)]
        rfl
    · have hlt : i < (pN P 5 m) := by
        rcases Nat.lt_or_ge i (pN P 5 m) with q | q
        · exact q
        · exact absurd (nI_le q (by omega)) c24
      have wo := wf_op W hm hlt
      refine gi_aload_n (q := 28) (i := 0) C (dm_Bu_findOperandFault 15 rfl) rfl rfl rfl ?_
      refine gi_get (q := 31) C (dm_Bu_findOperandFault 16 rfl) rfl fl_Bu_34 Q.ob rfl ?_
      refine gi_iload_n (q := 32) (i := 1) C (dm_Bu_findOperandFault 17 rfl) rfl rfl rfl ?_
      refine gi_aload_n (q := 33) (i := 0) C (dm_Bu_findOperandFault 18 rfl) rfl rfl rfl ?_
      refine gi_get (q := 36) C (dm_Bu_findOperandFault 19 rfl) rfl fl_Bu_34 Q.ob rfl ?_
      refine gi_iload_n (q := 37) (i := 1) C (dm_Bu_findOperandFault 20 rfl) rfl rfl rfl ?_
      refine gi_iload_n (q := 38) (i := 2) C (dm_Bu_findOperandFault 21 rfl) rfl rfl rfl ?_
      refine gi_callv 2 (q := 41) C (dm_Bu_findOperandFault 22 rfl) rfl my_Pr_opAt lk_Bu_81 im_Pr_opAt rfl (q_op W hm hlt HP) HP.1 rfl rfl ⟨(Nat.le_of_ble_eq_true rfl), (Nat.le_of_ble_eq_true rfl)⟩ (Nat.le_of_ble_eq_true rfl) ⟨(Nat.le_of_ble_eq_true rfl), (Nat.le_of_ble_eq_true rfl)⟩ (fun r38 n38 h38 e38 => ?_)
      obtain ⟨rfl, q38, u38⟩ := e38
      rw [q38, u38]
      refine gi_aload_n (q := 42) (i := 0) C (dm_Bu_findOperandFault 23 rfl) rfl rfl rfl ?_
      refine gi_get (q := 45) C (dm_Bu_findOperandFault 24 rfl) rfl fl_Bu_34 Q.ob rfl ?_
      refine gi_iload_n (q := 46) (i := 1) C (dm_Bu_findOperandFault 25 rfl) rfl rfl rfl ?_
      refine gi_iload_n (q := 47) (i := 2) C (dm_Bu_findOperandFault 26 rfl) rfl rfl rfl ?_
      refine gi_callv 2 (q := 50) C (dm_Bu_findOperandFault 27 rfl) rfl my_Pr_operandAt lk_Bu_85 im_Pr_operandAt rfl (q_opr W hm hlt HP) HP.1 rfl rfl ⟨(Nat.le_of_ble_eq_true rfl), (Nat.le_of_ble_eq_true rfl)⟩ (Nat.le_of_ble_eq_true rfl) ⟨(Nat.le_of_ble_eq_true rfl), (Nat.le_of_ble_eq_true rfl)⟩ (fun r47 n47 h47 e47 => ?_)
      obtain ⟨rfl, q47, u47⟩ := e47
      rw [q47, u47]
      refine gi_callv 3 (q := 53) C (dm_Bu_findOperandFault 28 rfl) rfl my_Pr_hasOperand lk_Bu_88 im_Pr_hasOperand rfl (c_Pr_hasOperand (a := P 7 (60 * m + i)) (pN P 6 (60 * m + i)) W hm wo.2 HP) HP.1 rfl rfl ⟨(Nat.le_of_ble_eq_true rfl), (Nat.le_of_ble_eq_true rfl)⟩ (Nat.le_of_ble_eq_true rfl) ⟨(Nat.le_of_ble_eq_true rfl), (Nat.le_of_ble_eq_true rfl)⟩ (fun r50 n50 h50 e50 => ?_)
      obtain ⟨rfl, q50, u50⟩ := e50
      rw [q50, u50]
      refine gi_if_ne (q := 56) (tgt := 64) C (dm_Bu_findOperandFault 29 rfl) rfl (by decide) (fun c53 => ?_) (fun c53 => ?_)
      · refine gi_iinc (q := 67) (v := 1) C (dm_Bu_findOperandFault 36 rfl) rfl rfl (by decide) (Nat.le_of_ble_eq_true rfl) ?_
        refine gi_goto (tgt := 15) C (dm_Bu_findOperandFault 37 rfl) (by decide) ?_
        refine gi_close (ih2 (i + 1) _ ⟨rfl, hlt, fun q hq => ?_⟩ (by omega)) (List.forall_mem_cons.mpr ⟨(congrArg (fun x => some (Value.int x)) (nI_1 i)), List.forall_mem_cons.mpr ⟨rfl, List.forall_mem_cons.mpr ⟨rfl, fun _ h => absurd h List.not_mem_nil⟩⟩⟩) rfl rfl rfl
        rcases Nat.lt_or_ge q (60 * m + i) with z | z
        · exact hU q z
        · rw [show q = 60 * m + i by omega, odBad_v W hm hlt, bI_t c53]
          rfl
      · refine gi_aload_n (q := 57) (i := 0) C (dm_Bu_findOperandFault 30 rfl) rfl rfl rfl ?_
        refine gi_iconst (q := 58) (v := 1) C (dm_Bu_findOperandFault 31 rfl) rfl (by decide) ?_
        refine gi_iload_n (q := 59) (i := 1) C (dm_Bu_findOperandFault 32 rfl) rfl rfl rfl ?_
        refine gi_iload_n (q := 60) (i := 2) C (dm_Bu_findOperandFault 33 rfl) rfl rfl rfl ?_
        refine gi_callv 3 (q := 63) C (dm_Bu_findOperandFault 34 rfl) rfl my_Bu_faultIs lk_Bu_92 im_Bu_faultIs rfl (c_Bu_faultIs 1 (nI m) (nI i) Q) Q.ob rfl rfl ⟨(Nat.le_of_ble_eq_true rfl), (Nat.le_of_ble_eq_true rfl)⟩ (Nat.le_of_ble_eq_true rfl) ⟨(Nat.le_of_ble_eq_true rfl), (Nat.le_of_ble_eq_true rfl)⟩ (fun r60 n60 h60 e60 => ?_)
        obtain ⟨rfl, rfl, Q60⟩ := e60
        refine gi_vret C hr (dm_Bu_findOperandFault 35 rfl) ?_
        refine ⟨rfl, rfl, Or.inl ⟨60 * m + i, odF_some (by omega) (by rw [odBad_v W hm hlt, bI_fa c53]; rfl) hU, by omega, ?_⟩⟩
        rw [show (60 * m + i) / 60 = m by omega, show (60 * m + i) % 60 = i by omega]
        exact Q60
/-- the sites of the places before p, as the arrays hold them -/
def siI (k : Nat) (P : Pm) (s : Nat → Option Sh) (F : Nat → Nat → Int32) (p : Nat) : Prop := (∀ q, q < p → vldB k P q = true → F 10 q = if isSi k P s q = true then nI (snF k P s q) else 0) ∧ (∀ q, q < p → isSi k P s q = true → F 11 (snF k P s q) = nI (q / 60) ∧ F 12 (snF k P s q) = nI (q % 60))
def siBad (k : Nat) (P : Pm) (s : Nat → Option Sh) (p : Nat) : Bool := isSi k P s p && decide (24 ≤ sct k P s p)
theorem sct_le {p : Nat} : ∀ d, sct k P s p ≤ sct k P s (p + d)
  | 0 => Nat.le_refl _
  | d + 1 => by
    have := sct_le (p := p) d
    rw [← Nat.add_assoc, sct]
    split <;> omega
theorem sct_lt {q p : Nat} (hq : q < p) (h : isSi k P s q = true) : sct k P s q < sct k P s p := by
  have := sct_le (k := k) (P := P) (s := s) (p := q + 1) (p - (q + 1))
  rw [show q + 1 + (p - (q + 1)) = p by omega] at this
  rw [sct, if_pos h] at this
  omega
theorem sct_gap {p : Nat} : ∀ d, (∀ q, p ≤ q → q < p + d → vldB k P q = false) → sct k P s (p + d) = sct k P s p
  | 0, _ => rfl
  | d + 1, h => by
    rw [← Nat.add_assoc, sct, if_neg]
    · exact sct_gap d (fun q h1 h2 => h q h1 (by omega))
    · unfold isSi
      rw [h (p + d) (by omega) (by omega)]
      simp
theorem siI.gap {p d : Nat} (h : siI k P s F p) (hv : ∀ q, p ≤ q → q < p + d → vldB k P q = false) : siI k P s F (p + d) := by
  refine ⟨fun q hq hv2 => ?_, fun q hq hs => ?_⟩
  · rcases Nat.lt_or_ge q p with z | z
    · exact h.1 q z hv2
    · rw [hv q z hq] at hv2
      cases hv2
  · rcases Nat.lt_or_ge q p with z | z
    · exact h.2 q z hs
    · unfold isSi at hs
      rw [hv q z hq] at hs
      cases hs
theorem isSi_v (W : wfP k P) (hm : m < k) (hi : i < pN P 5 m) : vldB k P (60 * m + i) = true ∧ isSi k P s (60 * m + i) = (decide (pN P 6 (60 * m + i) = 28) && (s (60 * m + i)).isSome) := by
  have wm := wf_ar W hm
  have v := vldB_iff.mpr (show vld k P (60 * m + i) from ⟨by omega, by rw [show (60 * m + i) / 60 = m by omega]; omega⟩)
  refine ⟨v, ?_⟩
  unfold isSi
  rw [v, Bool.true_and]
/-- what the search leaves alone -/
def frC (F F' : Nat → Nat → Int32) : Prop := ∀ j, j ≠ 10 → j ≠ 11 → j ≠ 12 → F' j = F j
def siS (bu pr k : Nat) (P : Pm) (s : Nat → Option Sh) (h0 : gi_H) (S : Nat → Int32) (F : Nat → Nat → Int32) (p : Nat) (y : gi_H) : Prop := ∃ F', buO bu pr h0 (upS S 1 (nI (1 + sct k P s p))) F' y ∧ frC F F' ∧ siI k P s F' p ∧ sct k P s p ≤ 24 ∧ ∀ q, q < p → siBad k P s q = false
set_option maxHeartbeats 4000000 in
set_option maxRecDepth 100000 in
theorem c_Bu_findSites (W : wfP k P) (HP : pr_at pr (nI k) P h) (dp : pr + 8 ≤ bu ∨ bu + 8 ≤ pr) (R : ∀ m, m < k → rpS P m s F) (hs8 : ∀ p x, s p = some x → x.1 ≤ 8) (hS1 : S 1 = 1) (Q : buO bu pr h S F h) : gi_T l V y_Bu_findSites b_Bu_findSites 4 none 3 65 0 0 [.ref bu] n h (fun v n' h' => v = none ∧ n' = n ∧ ((∃ p F' c, siF k P s = some p ∧ p < 480 ∧ buO bu pr h (upFl (upS S 1 c) (6, p / 60, p % 60)) F' h') ∨ (siF k P s = none ∧ siS bu pr k P s h S F 480 h'))) := by
  refine gi_enter (by decide) (Nat.le_of_ble_eq_true rfl) ?_
  intro _ _ _ _ _ _ _ _ C hr hnm
  have w8 := W.k8
  refine gi_iconst (q := 1) (v := 0) C (dm_Bu_findSites 0 rfl) rfl (by decide) ?_
  refine gi_istore_n (q := 2) (i := 1) C (dm_Bu_findSites 1 rfl) rfl rfl (Nat.le_of_ble_eq_true rfl) ?_
  refine gi_while (σ := Nat) (fun m => k - m) (fun m => [(1, .int (nI m)), (0, .ref bu)]) (fun _ => n) (fun _ => 0) (fun _ => 0) (fun m y => m ≤ k ∧ siS bu pr k P s h S F (60 * m) y) 0 ⟨Nat.zero_le _, F, ?_, fun _ _ _ _ => rfl, ⟨fun q hq _ => absurd hq (by omega), fun q hq _ => absurd hq (by omega)⟩, (by decide : 0 ≤ 24), fun q hq => absurd hq (by omega)⟩ ?_ (List.forall_mem_cons.mpr ⟨rfl, List.forall_mem_cons.mpr ⟨rfl, fun _ h => absurd h List.not_mem_nil⟩⟩) rfl rfl rfl
  · have e : upS S 1 (nI (1 + sct k P s (60 * 0))) = S := by
      funext j
      by_cases z : j = 1
      · subst z
        rw [hS1]
        simp [upS]
        rfl
      · simp [upS, z]
    rw [e]
    exact Q
  rintro m y' ⟨hm', F1, QJ, fr, I, s24, hU⟩ ih1
  try dsimp only at *
  have HPJ := HP.keep2 (h' := y') (fun b b1 b2 => QJ.2 b (by omega))
  refine gi_iload_n (q := 3) (i := 1) C (dm_Bu_findSites 2 rfl) rfl rfl rfl ?_
  refine gi_aload_n (q := 4) (i := 0) C (dm_Bu_findSites 3 rfl) rfl rfl rfl ?_
  refine gi_get (q := 7) C (dm_Bu_findSites 4 rfl) rfl fl_Bu_34 QJ.ob rfl ?_
  refine gi_get (q := 10) C (dm_Bu_findSites 5 rfl) rfl fl_Bu_54 HPJ.1 rfl ?_
  refine gi_icmp_ge (q := 13) (tgt := 138) C (dm_Bu_findSites 6 rfl) rfl (by decide) (fun c10 => ?_) (fun c10 => ?_)
  · refine gi_vret C hr (dm_Bu_findSites 78 rfl) ?_
    have hik : k = m := by
      rcases Nat.lt_or_ge m k with q | q
      · exact absurd c10 (Int32.not_le.mpr (nI_lt q (by omega)))
      · omega
    subst hik
    have gp : ∀ q, 60 * k ≤ q → q < 60 * k + (480 - 60 * k) → vldB k P q = false := fun q h1 h2 => vld_end h1
    have ep : 480 = 60 * k + (480 - 60 * k) := by omega
    have hA : ∀ q, q < 480 → siBad k P s q = false := fun q hq => by
      rcases Nat.lt_or_ge q (60 * k) with z | z
      · exact hU q z
      · unfold siBad isSi
        rw [vld_end z]
        rfl
    refine ⟨rfl, rfl, Or.inr ⟨rng_no hA, F1, ?_, fr, ?_, ?_, hA⟩⟩
    · rw [ep, sct_gap _ gp]
      exact QJ
    · rw [ep]
      exact I.gap gp
    · rw [ep, sct_gap _ gp]
      exact s24
  · have hlt : m < k := by
      rcases Nat.lt_or_ge m k with q | q
      · exact q
      · exact absurd (nI_le q (by omega)) c10
    have hm := hlt
    have wm := wf_ar W hm
    clear hlt
    refine gi_iconst (q := 14) (v := 0) C (dm_Bu_findSites 7 rfl) rfl (by decide) ?_
    refine gi_istore_n (q := 15) (i := 2) C (dm_Bu_findSites 8 rfl) rfl rfl (Nat.le_of_ble_eq_true rfl) ?_
    refine gi_while (σ := Nat) (fun i => pN P 5 m - i) (fun i => [(2, .int (nI i)), (1, .int (nI m)), (0, .ref bu)]) (fun _ => n) (fun _ => 0) (fun _ => 0) (fun i y => i ≤ pN P 5 m ∧ siS bu pr k P s h S F (60 * m + i) y) 0 ⟨Nat.zero_le _, F1, QJ, fr, I, s24, hU⟩ ?_ (List.forall_mem_cons.mpr ⟨rfl, List.forall_mem_cons.mpr ⟨rfl, List.forall_mem_cons.mpr ⟨rfl, fun _ h => absurd h List.not_mem_nil⟩⟩⟩) rfl rfl rfl
    clear hU I fr QJ HPJ s24
    rintro i y' ⟨hi, F1, QJ, fr, I, s24, hU⟩ ih2
    try dsimp only at *
    have HPJ := HP.keep2 (h' := y') (fun b b1 b2 => QJ.2 b (by omega))
    refine gi_iload_n (q := 16) (i := 2) C (dm_Bu_findSites 9 rfl) rfl rfl rfl ?_
    refine gi_aload_n (q := 17) (i := 0) C (dm_Bu_findSites 10 rfl) rfl rfl rfl ?_
    refine gi_get (q := 20) C (dm_Bu_findSites 11 rfl) rfl fl_Bu_34 (by first | exact Q6.ob | exact Q5.ob | exact Q4.ob | exact Q3.ob | exact Q2.ob | exact QJ.ob) rfl ?_
    refine gi_iload_n (q := 21) (i := 1) C (dm_Bu_findSites 12 rfl) rfl rfl rfl ?_
    refine gi_callv 1 (q := 24) C (dm_Bu_findSites 13 rfl) rfl my_Pr_lengthOf lk_Bu_77 im_Pr_lengthOf rfl (q_len W hm HPJ) HPJ.1 rfl rfl ⟨(Nat.le_of_ble_eq_true rfl), (Nat.le_of_ble_eq_true rfl)⟩ (Nat.le_of_ble_eq_true rfl) ⟨(Nat.le_of_ble_eq_true rfl), (Nat.le_of_ble_eq_true rfl)⟩ (fun r21 n21 h21 e21 => ?_)
    obtain ⟨rfl, q21, u21⟩ := e21
    rw [q21, u21]
    refine gi_icmp_ge (q := 27) (tgt := 132) C (dm_Bu_findSites 14 rfl) rfl (by decide) (fun c24 => ?_) (fun c24 => ?_)
    · have hik : (pN P 5 m) = i := by
        rcases Nat.lt_or_ge i (pN P 5 m) with q | q
        · exact absurd c24 (Int32.not_le.mpr (nI_lt q (by omega)))
        · omega
      subst hik
      have gp : ∀ q, 60 * m + pN P 5 m ≤ q → q < 60 * m + pN P 5 m + (60 - pN P 5 m) → vldB k P q = false := fun q h1 h2 => vld_gap (m := m) h1 (by omega)
      have ep : 60 * (m + 1) = 60 * m + pN P 5 m + (60 - pN P 5 m) := by omega
      refine gi_iinc (q := 135) (v := 1) C (dm_Bu_findSites 76 rfl) rfl rfl (by decide) (Nat.le_of_ble_eq_true rfl) ?_
      refine gi_goto (tgt := 2) C (dm_Bu_findSites 77 rfl) (by decide) ?_
      refine gi_close (ih1 (m + 1) _ ⟨hm, F1, by rw [ep, sct_gap _ gp]; exact QJ, fr, by rw [ep]; exact I.gap gp, by rw [ep, sct_gap _ gp]; exact s24, fun q hq => ?_⟩ (by omega)) (List.forall_mem_cons.mpr ⟨(congrArg (fun x => some (Value.int x)) (nI_1 m)), List.forall_mem_cons.mpr ⟨rfl, fun _ h => absurd h List.not_mem_nil⟩⟩) rfl rfl rfl
      rcases Nat.lt_or_ge q (60 * m + pN P 5 m) with z | z
      · exact hU q z
      · unfold siBad isSi
        rw [vld_gap (m := m) z (by omega)]
        rfl
    · have hlt : i < (pN P 5 m) := by
        rcases Nat.lt_or_ge i (pN P 5 m) with q | q
        · exact q
        · exact absurd (nI_le q (by omega)) c24
      have wo := wf_op W hm hlt
      refine gi_iload_n (q := 28) (i := 1) C (dm_Bu_findSites 15 rfl) rfl rfl rfl ?_
      refine gi_bipush (q := 30) (v := 60) C (dm_Bu_findSites 16 rfl) rfl (by decide) ?_
      refine gi_imul (q := 31) C (dm_Bu_findSites 17 rfl) rfl ?_
      refine gi_iload_n (q := 32) (i := 2) C (dm_Bu_findSites 18 rfl) rfl rfl rfl ?_
      refine gi_iadd (q := 33) C (dm_Bu_findSites 19 rfl) rfl ?_
      rw [at_60]
      refine gi_istore_n (q := 34) (i := 3) C (dm_Bu_findSites 20 rfl) rfl rfl (Nat.le_of_ble_eq_true rfl) ?_
      refine gi_aload_n (q := 35) (i := 0) C (dm_Bu_findSites 21 rfl) rfl rfl rfl ?_
      refine gi_get (q := 38) C (dm_Bu_findSites 22 rfl) rfl fl_Bu_25 (by first | exact Q6.ob | exact Q5.ob | exact Q4.ob | exact Q3.ob | exact Q2.ob | exact QJ.ob) rfl ?_
      refine gi_iload_n (q := 39) (i := 3) C (dm_Bu_findSites 23 rfl) rfl rfl rfl ?_
      refine gi_iconst (q := 40) (v := 0) C (dm_Bu_findSites 24 rfl) rfl (by decide) ?_
      refine gi_iast (q := 41) C (dm_Bu_findSites 25 rfl) rfl rfl QJ.a10 (vp_in_nI (by omega) (by omega)) ?_
      rw [nI_clamp (show 60 * m + i < 2 ^ 31 by omega)]
      have Q2 := QJ.s10 (upd (F1 10) (60 * m + i) 0)
      have HP2 := HP.keep2 (h' := gi_up y' (bu + 5) (gi_I 0 480 (upd (F1 10) (60 * m + i) 0))) (fun b b1 b2 => Q2.2 b (by omega))
      refine gi_aload_n (q := 42) (i := 0) C (dm_Bu_findSites 26 rfl) rfl rfl rfl ?_
      refine gi_get (q := 45) C (dm_Bu_findSites 27 rfl) rfl fl_Bu_34 (by first | exact Q6.ob | exact Q5.ob | exact Q4.ob | exact Q3.ob | exact Q2.ob | exact QJ.ob) rfl ?_
      refine gi_iload_n (q := 46) (i := 1) C (dm_Bu_findSites 28 rfl) rfl rfl rfl ?_
      refine gi_iload_n (q := 47) (i := 2) C (dm_Bu_findSites 29 rfl) rfl rfl rfl ?_
      refine gi_callv 2 (q := 50) C (dm_Bu_findSites 30 rfl) rfl my_Pr_opAt lk_Bu_81 im_Pr_opAt rfl (q_op W hm hlt HP2) HP2.1 rfl rfl ⟨(Nat.le_of_ble_eq_true rfl), (Nat.le_of_ble_eq_true rfl)⟩ (Nat.le_of_ble_eq_true rfl) ⟨(Nat.le_of_ble_eq_true rfl), (Nat.le_of_ble_eq_true rfl)⟩ (fun r47 n47 h47 e47 => ?_)
      obtain ⟨rfl, q47, u47⟩ := e47
      rw [q47, u47]
      refine gi_bipush (q := 52) (v := 28) C (dm_Bu_findSites 31 rfl) rfl (by decide) ?_
      refine gi_icmp_ne (q := 55) (tgt := 126) C (dm_Bu_findSites 32 rfl) rfl (by decide) (fun c52 => ?_) (fun c52 => ?_)
      · have n0 : isSi k P s (60 * m + i) = false := by
          rw [(isSi_v W hm hlt).2]
          rw [decide_eq_false (fun z => c52 (by rw [z]; rfl)), Bool.false_and]
        have sc : sct k P s (60 * m + i + 1) = sct k P s (60 * m + i) := by rw [sct, if_neg (by rw [n0]; decide)]
        refine gi_iinc (q := 129) (v := 1) C (dm_Bu_findSites 74 rfl) rfl rfl (by decide) (Nat.le_of_ble_eq_true rfl) ?_
        refine gi_goto (tgt := 15) C (dm_Bu_findSites 75 rfl) (by decide) ?_
        refine gi_close (ih2 (i + 1) _ ⟨hlt, upA F1 10 (upd (F1 10) (60 * m + i) 0), by rw [← Nat.add_assoc, sc]; exact Q2, fun j h1 h2 h3 => by rw [← fr j h1 h2 h3]; simp [upA, h1], ⟨fun q hq hv => ?_, fun q hq hs => ?_⟩, by rw [← Nat.add_assoc, sc]; exact s24, fun q hq => ?_⟩ (by omega)) (List.forall_mem_cons.mpr ⟨(congrArg (fun x => some (Value.int x)) (nI_1 i)), List.forall_mem_cons.mpr ⟨rfl, List.forall_mem_cons.mpr ⟨rfl, fun _ h => absurd h List.not_mem_nil⟩⟩⟩) rfl rfl rfl
        · by_cases z : q = 60 * m + i
          · subst z
            simp [upA, upd, n0]
          · have := I.1 q (by omega) hv
            simp only [upA, upd, z, if_true, if_false]
            exact this
        · by_cases z : q = 60 * m + i
          · subst z
            rw [n0] at hs
            cases hs
          · have := I.2 q (by omega) hs
            simpa [upA] using this
        · by_cases z : q = 60 * m + i
          · subst z
            unfold siBad
            rw [n0]
            rfl
          · exact hU q (by omega)
      · refine gi_aload_n (q := 56) (i := 0) C (dm_Bu_findSites 33 rfl) rfl rfl rfl ?_
        refine gi_get (q := 59) C (dm_Bu_findSites 34 rfl) rfl fl_Bu_9 (by first | exact Q6.ob | exact Q5.ob | exact Q4.ob | exact Q3.ob | exact Q2.ob | exact QJ.ob) rfl ?_
        refine gi_iload_n (q := 60) (i := 3) C (dm_Bu_findSites 35 rfl) rfl rfl rfl ?_
        refine gi_iald (q := 61) C (dm_Bu_findSites 36 rfl) rfl rfl Q2.a6 (vp_in_nI (by omega) (by omega)) ?_
        rw [nI_clamp (show 60 * m + i < 2 ^ 31 by omega)]
        refine gi_iconst (q := 62) (v := -1) C (dm_Bu_findSites 37 rfl) rfl (by decide) ?_
        refine gi_icmp_ne (q := 65) (tgt := 68) C (dm_Bu_findSites 38 rfl) rfl (by decide) (fun c62 => ?_) (fun c62 => ?_)
        · have yes : isSi k P s (60 * m + i) = true := by
            rw [(isSi_v W hm hlt).2, decide_eq_true ((nI_eq (b := 28) (by omega) (by omega)).mp c52)]
            cases e : s (60 * m + i) with
            | none => exact absurd (show F1 6 (60 * m + i) = -1 by rw [fr 6 (by decide) (by decide) (by decide)]; exact (R m hm i hlt).1 e) (by simpa [upA] using c62)
            | some x => rfl
          have s1 : (upS S 1 (nI (1 + sct k P s (60 * m + i)))) 1 = nI (1 + sct k P s (60 * m + i)) := by simp [upS]
          refine gi_aload_n (q := 69) (i := 0) C (dm_Bu_findSites 40 rfl) rfl rfl rfl ?_
          refine gi_get (q := 72) C (dm_Bu_findSites 41 rfl) rfl fl_Bu_48 (by first | exact Q6.ob | exact Q5.ob | exact Q4.ob | exact Q3.ob | exact Q2.ob | exact QJ.ob) rfl ?_
          refine gi_bipush (q := 74) (v := 25) C (dm_Bu_findSites 42 rfl) rfl (by decide) ?_
          rw [s1]
          refine gi_icmp_lt (q := 77) (tgt := 86) C (dm_Bu_findSites 43 rfl) rfl (by decide) (fun c74 => ?_) (fun c74 => ?_)
          · have s23 : sct k P s (60 * m + i) < 24 := by
              have := (nI_ltI (b := 25) (by omega) (by omega)).mp c74
              omega
            have sc : sct k P s (60 * m + i + 1) = sct k P s (60 * m + i) + 1 := by rw [sct, if_pos yes]
            refine gi_aload_n (q := 87) (i := 0) C (dm_Bu_findSites 50 rfl) rfl rfl rfl ?_
            refine gi_get (q := 90) C (dm_Bu_findSites 51 rfl) rfl fl_Bu_25 (by first | exact Q6.ob | exact Q5.ob | exact Q4.ob | exact Q3.ob | exact Q2.ob | exact QJ.ob) rfl ?_
            refine gi_iload_n (q := 91) (i := 3) C (dm_Bu_findSites 52 rfl) rfl rfl rfl ?_
            refine gi_aload_n (q := 92) (i := 0) C (dm_Bu_findSites 53 rfl) rfl rfl rfl ?_
            refine gi_get (q := 95) C (dm_Bu_findSites 54 rfl) rfl fl_Bu_48 (by first | exact Q6.ob | exact Q5.ob | exact Q4.ob | exact Q3.ob | exact Q2.ob | exact QJ.ob) rfl ?_
            rw [s1]
            refine gi_iast (q := 96) C (dm_Bu_findSites 55 rfl) rfl rfl Q2.a10 (vp_in_nI (by omega) (by omega)) ?_
            rw [nI_clamp (show 60 * m + i < 2 ^ 31 by omega)]
            have Q3 := Q2.s10 (upd (upA F1 10 (upd (F1 10) (60 * m + i) 0) 10) (60 * m + i) (nI (1 + sct k P s (60 * m + i))))
            refine gi_aload_n (q := 97) (i := 0) C (dm_Bu_findSites 56 rfl) rfl rfl rfl ?_
            refine gi_get (q := 100) C (dm_Bu_findSites 57 rfl) rfl fl_Bu_28 (by first | exact Q6.ob | exact Q5.ob | exact Q4.ob | exact Q3.ob | exact Q2.ob | exact QJ.ob) rfl ?_
            refine gi_aload_n (q := 101) (i := 0) C (dm_Bu_findSites 58 rfl) rfl rfl rfl ?_
            refine gi_get (q := 104) C (dm_Bu_findSites 59 rfl) rfl fl_Bu_48 (by first | exact Q6.ob | exact Q5.ob | exact Q4.ob | exact Q3.ob | exact Q2.ob | exact QJ.ob) rfl ?_
            rw [s1]
            refine gi_iload_n (q := 105) (i := 1) C (dm_Bu_findSites 60 rfl) rfl rfl rfl ?_
            refine gi_iast (q := 106) C (dm_Bu_findSites 61 rfl) rfl rfl Q3.a11 (vp_in_nI (by omega) (by omega)) ?_
            rw [nI_clamp (show 1 + sct k P s (60 * m + i) < 2 ^ 31 by omega)]
            have Q4 := Q3.s11 (upd (F1 11) (1 + sct k P s (60 * m + i)) (nI m))
            refine gi_aload_n (q := 107) (i := 0) C (dm_Bu_findSites 62 rfl) rfl rfl rfl ?_
            refine gi_get (q := 110) C (dm_Bu_findSites 63 rfl) rfl fl_Bu_31 (by first | exact Q6.ob | exact Q5.ob | exact Q4.ob | exact Q3.ob | exact Q2.ob | exact QJ.ob) rfl ?_
            refine gi_aload_n (q := 111) (i := 0) C (dm_Bu_findSites 64 rfl) rfl rfl rfl ?_
            refine gi_get (q := 114) C (dm_Bu_findSites 65 rfl) rfl fl_Bu_48 (by first | exact Q6.ob | exact Q5.ob | exact Q4.ob | exact Q3.ob | exact Q2.ob | exact QJ.ob) rfl ?_
            rw [s1]
            refine gi_iload_n (q := 115) (i := 2) C (dm_Bu_findSites 66 rfl) rfl rfl rfl ?_
            refine gi_iast (q := 116) C (dm_Bu_findSites 67 rfl) rfl rfl Q4.a12 (vp_in_nI (by omega) (by omega)) ?_
            rw [nI_clamp (show 1 + sct k P s (60 * m + i) < 2 ^ 31 by omega)]
            have Q5 := Q4.s12 (upd (F1 12) (1 + sct k P s (60 * m + i)) (nI i))
            refine gi_aload_n (q := 117) (i := 0) C (dm_Bu_findSites 68 rfl) rfl rfl rfl ?_
            refine gi_dup (q := 118) C (dm_Bu_findSites 69 rfl) rfl rfl ?_
            refine gi_get (q := 121) C (dm_Bu_findSites 70 rfl) rfl fl_Bu_48 (by first | exact Q6.ob | exact Q5.ob | exact Q4.ob | exact Q3.ob | exact Q2.ob | exact QJ.ob) rfl ?_
            refine gi_iconst (q := 122) (v := 1) C (dm_Bu_findSites 71 rfl) rfl (by decide) ?_
            refine gi_iadd (q := 123) C (dm_Bu_findSites 72 rfl) rfl ?_
            rw [s1, nI_1]
            refine gi_put (q := 126) C (dm_Bu_findSites 73 rfl) rfl fl_Bu_48 fp_Bu_1 (by first | exact Q6.ob | exact Q5.ob | exact Q4.ob | exact Q3.ob | exact Q2.ob | exact QJ.ob) (Nat.le_of_ble_eq_true rfl) rfl rfl ?_
            have Q6 := Q5.pO (upS S 1 (nI (1 + sct k P s (60 * m + i) + 1)))
            refine gi_iinc (q := 129) (v := 1) C (dm_Bu_findSites 74 rfl) rfl rfl (by decide) (Nat.le_of_ble_eq_true rfl) ?_
            refine gi_goto (tgt := 15) C (dm_Bu_findSites 75 rfl) (by decide) ?_
            refine gi_close (ih2 (i + 1) _ ⟨hlt, _, by rw [← Nat.add_assoc, sc]; exact Q6, fun j h1 h2 h3 => by rw [← fr j h1 h2 h3]; simp [upA, h1, h2, h3], ⟨fun q hq hv => ?_, fun q hq hs => ?_⟩, by rw [← Nat.add_assoc, sc]; omega, fun q hq => ?_⟩ (by omega)) (List.forall_mem_cons.mpr ⟨(congrArg (fun x => some (Value.int x)) (nI_1 i)), List.forall_mem_cons.mpr ⟨rfl, List.forall_mem_cons.mpr ⟨rfl, fun _ h => absurd h List.not_mem_nil⟩⟩⟩) rfl rfl rfl
            · by_cases z : q = 60 * m + i
              · subst z
                rw [if_pos yes]
                simp [upA, upd, snF]
              · have := I.1 q (by omega) hv
                simpa [upA, upd, z] using this
            · by_cases z : q = 60 * m + i
              · subst z
                rw [show (60 * m + i) / 60 = m by omega, show (60 * m + i) % 60 = i by omega]
                simp [upA, upd, snF]
              · have := I.2 q (by omega) hs
                have lt := sct_lt (k := k) (P := P) (s := s) (show q < 60 * m + i by omega) hs
                have ne : snF k P s q ≠ 1 + sct k P s (60 * m + i) := by unfold snF; omega
                simpa [upA, upd, ne] using this
            · by_cases z : q = 60 * m + i
              · subst z
                unfold siBad
                rw [decide_eq_false (show ¬ 24 ≤ sct k P s (60 * m + i) by omega), Bool.and_false]
              · exact hU q (by omega)
          · refine gi_aload_n (q := 78) (i := 0) C (dm_Bu_findSites 44 rfl) rfl rfl rfl ?_
            refine gi_bipush (q := 80) (v := 6) C (dm_Bu_findSites 45 rfl) rfl (by decide) ?_
            refine gi_iload_n (q := 81) (i := 1) C (dm_Bu_findSites 46 rfl) rfl rfl rfl ?_
            refine gi_iload_n (q := 82) (i := 2) C (dm_Bu_findSites 47 rfl) rfl rfl rfl ?_
            refine gi_callv 3 (q := 85) C (dm_Bu_findSites 48 rfl) rfl my_Bu_faultIs lk_Bu_92 im_Bu_faultIs rfl (c_Bu_faultIs 6 (nI m) (nI i) Q2) Q2.ob rfl rfl ⟨(Nat.le_of_ble_eq_true rfl), (Nat.le_of_ble_eq_true rfl)⟩ (Nat.le_of_ble_eq_true rfl) ⟨(Nat.le_of_ble_eq_true rfl), (Nat.le_of_ble_eq_true rfl)⟩ (fun r82 n82 h82 e82 => ?_)
            obtain ⟨rfl, rfl, Q82⟩ := e82
            refine gi_vret C hr (dm_Bu_findSites 49 rfl) ?_
            have s24' : 24 ≤ sct k P s (60 * m + i) := by
              have := (nI_leI (a := 25) (by omega) (by omega)).mp (Int32.not_lt.mp c74)
              omega
            refine ⟨rfl, rfl, Or.inl ⟨60 * m + i, upA F1 10 (upd (F1 10) (60 * m + i) 0), nI (1 + sct k P s (60 * m + i)), rng_some (by omega) (by rw [yes, decide_eq_true s24']; rfl) hU, by omega, ?_⟩⟩
            rw [show (60 * m + i) / 60 = m by omega, show (60 * m + i) % 60 = i by omega]
            exact Q82
        · refine gi_goto (tgt := 126) C (dm_Bu_findSites 39 rfl) (by decide) ?_
          have n0 : isSi k P s (60 * m + i) = false := by
            rw [(isSi_v W hm hlt).2]
            cases e : s (60 * m + i) with
            | none => simp
            | some x =>
              exfalso
              have e6 : F1 6 (60 * m + i) = nI x.1 := by rw [fr 6 (by decide) (by decide) (by decide)]; exact ((R m hm i hlt).2 x e).1
              have c62 : F1 6 (60 * m + i) = -1 := by simpa [upA] using c62
              rw [e6] at c62
              exact nI_m1ne (by have := hs8 _ _ e; omega) c62
          have sc : sct k P s (60 * m + i + 1) = sct k P s (60 * m + i) := by rw [sct, if_neg (by rw [n0]; decide)]
          refine gi_iinc (q := 129) (v := 1) C (dm_Bu_findSites 74 rfl) rfl rfl (by decide) (Nat.le_of_ble_eq_true rfl) ?_
          refine gi_goto (tgt := 15) C (dm_Bu_findSites 75 rfl) (by decide) ?_
          refine gi_close (ih2 (i + 1) _ ⟨hlt, upA F1 10 (upd (F1 10) (60 * m + i) 0), by rw [← Nat.add_assoc, sc]; exact Q2, fun j h1 h2 h3 => by rw [← fr j h1 h2 h3]; simp [upA, h1], ⟨fun q hq hv => ?_, fun q hq hs => ?_⟩, by rw [← Nat.add_assoc, sc]; exact s24, fun q hq => ?_⟩ (by omega)) (List.forall_mem_cons.mpr ⟨(congrArg (fun x => some (Value.int x)) (nI_1 i)), List.forall_mem_cons.mpr ⟨rfl, List.forall_mem_cons.mpr ⟨rfl, fun _ h => absurd h List.not_mem_nil⟩⟩⟩) rfl rfl rfl
          · by_cases z : q = 60 * m + i
            · subst z
              simp [upA, upd, n0]
            · have := I.1 q (by omega) hv
              simp only [upA, upd, z, if_true, if_false]
              exact this
          · by_cases z : q = 60 * m + i
            · subst z
              rw [n0] at hs
              cases hs
            · have := I.2 q (by omega) hs
              simpa [upA] using this
          · by_cases z : q = 60 * m + i
            · subst z
              unfold siBad
              rw [n0]
              rfl
            · exact hU q (by omega)
end BU5
