-- needs: 89.92
section RL4
variable {l : Launch} {V : gi_V} {n : Nat} {h h' : gi_H} {M k : Nat} {P : Pm} {sh : Nat → Option Sh} {S S' : Nat → Int32} {J J' : Nat → Int64} {F F' : Nat → Nat → Int32} {G G' : Nat → Nat → Int64} {Fz : Fa} {sn : Nat → Nat} {wd : Nat → Bool}
set_option maxHeartbeats 4000000 in
set_option maxRecDepth 100000 in
theorem c_Mo_asks (op wr : Nat) (h1 : 1 ≤ wr) (h4 : wr ≤ 4) (ho : op ≤ 35) : gi_T l V y_Mo_asks b_Mo_asks 3 (some .boolean) 0 0 0 0 [.ref M, .int (nI op), .int (nI wr)] n h (gi_is (some (.int (bI (ask op wr)))) n h) := by
  refine gi_enter (by decide) (Nat.le_of_ble_eq_true rfl) ?_
  intro _ _ _ _ _ _ _ _ C hr hnm
  have jw1 : (nI wr = 1) = (wr = 1) := nI_eqP (b := 1) (by omega) (by decide)
  have jw2 : (nI wr = 2) = (wr = 2) := nI_eqP (b := 2) (by omega) (by decide)
  have jw3 : (nI wr = 3) = (wr = 3) := nI_eqP (b := 3) (by omega) (by decide)
  have jw4 : (nI wr = 4) = (wr = 4) := nI_eqP (b := 4) (by omega) (by decide)
  have jo10 : (nI op = 10) = (op = 10) := nI_eqP (b := 10) (by omega) (by decide)
  have jo11 : (nI op = 11) = (op = 11) := nI_eqP (b := 11) (by omega) (by decide)
  have jo28 : (nI op = 28) = (op = 28) := nI_eqP (b := 28) (by omega) (by decide)
  have jo30 : (nI op = 30) = (op = 30) := nI_eqP (b := 30) (by omega) (by decide)
  have jo31 : (nI op = 31) = (op = 31) := nI_eqP (b := 31) (by omega) (by decide)
  have jl29 : (nI op < 29) = (op < 29) := nI_ltP (b := 29) (by omega) (by decide)
  have jg31 : (nI op ≤ 31) = (op ≤ 31) := nI_leP (b := 31) (by omega) (by decide)
  refine gi_iload_n (q := 1) (i := 2) C (dm_Mo_asks 0 rfl) rfl rfl rfl ?_
  refine gi_iconst (q := 2) (v := 1) C (dm_Mo_asks 1 rfl) rfl (by decide) ?_
  refine gi_icmp_ne (q := 5) (tgt := 17) C (dm_Mo_asks 2 rfl) rfl (by decide) (fun c2 => ?_) (fun c2 => ?_)
  · refine gi_iload_n (q := 18) (i := 2) C (dm_Mo_asks 9 rfl) rfl rfl rfl ?_
    refine gi_iconst (q := 19) (v := 2) C (dm_Mo_asks 10 rfl) rfl (by decide) ?_
    refine gi_icmp_ne (q := 22) (tgt := 34) C (dm_Mo_asks 11 rfl) rfl (by decide) (fun c19 => ?_) (fun c19 => ?_)
    · refine gi_iload_n (q := 35) (i := 2) C (dm_Mo_asks 18 rfl) rfl rfl rfl ?_
      refine gi_iconst (q := 36) (v := 3) C (dm_Mo_asks 19 rfl) rfl (by decide) ?_
      refine gi_icmp_ne (q := 39) (tgt := 51) C (dm_Mo_asks 20 rfl) rfl (by decide) (fun c36 => ?_) (fun c36 => ?_)
      · refine gi_iload_n (q := 52) (i := 2) C (dm_Mo_asks 27 rfl) rfl rfl rfl ?_
        refine gi_iconst (q := 53) (v := 4) C (dm_Mo_asks 28 rfl) rfl (by decide) ?_
        refine gi_icmp_ne (q := 56) (tgt := 66) C (dm_Mo_asks 29 rfl) rfl (by decide) (fun c53 => ?_) (fun c53 => ?_)
        · refine gi_iconst (q := 67) (v := 0) C (dm_Mo_asks 35 rfl) rfl (by decide) ?_
          refine gi_zret C hr (dm_Mo_asks 36 rfl) rfl ?_
          (try simp (disch := omega) only [jw1, jw2, jw3, jw4, jo10, jo11, jo28, jo30, jo31, jl29, jg31] at c2)
          (try simp (disch := omega) only [jw1, jw2, jw3, jw4, jo10, jo11, jo28, jo30, jo31, jl29, jg31] at c19)
          (try simp (disch := omega) only [jw1, jw2, jw3, jw4, jo10, jo11, jo28, jo30, jo31, jl29, jg31] at c36)
          (try simp (disch := omega) only [jw1, jw2, jw3, jw4, jo10, jo11, jo28, jo30, jo31, jl29, jg31] at c53)
          refine ⟨?_, rfl, rfl⟩
          first
            | (rw [show ask op wr = true from by unfold ask; simp; omega]; rfl)
            | (rw [show ask op wr = false from by unfold ask; simp; omega]; rfl)
        · refine gi_iload_n (q := 57) (i := 1) C (dm_Mo_asks 30 rfl) rfl rfl rfl ?_
          refine gi_bipush (q := 59) (v := 28) C (dm_Mo_asks 31 rfl) rfl (by decide) ?_
          refine gi_icmp_ne (q := 62) (tgt := 66) C (dm_Mo_asks 32 rfl) rfl (by decide) (fun c59 => ?_) (fun c59 => ?_)
          · refine gi_iconst (q := 67) (v := 0) C (dm_Mo_asks 35 rfl) rfl (by decide) ?_
            refine gi_zret C hr (dm_Mo_asks 36 rfl) rfl ?_
            (try simp (disch := omega) only [jw1, jw2, jw3, jw4, jo10, jo11, jo28, jo30, jo31, jl29, jg31] at c2)
            (try simp (disch := omega) only [jw1, jw2, jw3, jw4, jo10, jo11, jo28, jo30, jo31, jl29, jg31] at c19)
            (try simp (disch := omega) only [jw1, jw2, jw3, jw4, jo10, jo11, jo28, jo30, jo31, jl29, jg31] at c36)
            (try simp (disch := omega) only [jw1, jw2, jw3, jw4, jo10, jo11, jo28, jo30, jo31, jl29, jg31] at c53)
            (try simp (disch := omega) only [jw1, jw2, jw3, jw4, jo10, jo11, jo28, jo30, jo31, jl29, jg31] at c59)
            refine ⟨?_, rfl, rfl⟩
            first
              | (rw [show ask op wr = true from by unfold ask; simp; omega]; rfl)
              | (rw [show ask op wr = false from by unfold ask; simp; omega]; rfl)
          · refine gi_iconst (q := 63) (v := 1) C (dm_Mo_asks 33 rfl) rfl (by decide) ?_
            refine gi_goto (tgt := 67) C (dm_Mo_asks 34 rfl) (by decide) ?_
            refine gi_zret C hr (dm_Mo_asks 36 rfl) rfl ?_
            (try simp (disch := omega) only [jw1, jw2, jw3, jw4, jo10, jo11, jo28, jo30, jo31, jl29, jg31] at c2)
            (try simp (disch := omega) only [jw1, jw2, jw3, jw4, jo10, jo11, jo28, jo30, jo31, jl29, jg31] at c19)
            (try simp (disch := omega) only [jw1, jw2, jw3, jw4, jo10, jo11, jo28, jo30, jo31, jl29, jg31] at c36)
            (try simp (disch := omega) only [jw1, jw2, jw3, jw4, jo10, jo11, jo28, jo30, jo31, jl29, jg31] at c53)
            (try simp (disch := omega) only [jw1, jw2, jw3, jw4, jo10, jo11, jo28, jo30, jo31, jl29, jg31] at c59)
            refine ⟨?_, rfl, rfl⟩
            first
              | (rw [show ask op wr = true from by unfold ask; simp; omega]; rfl)
              | (rw [show ask op wr = false from by unfold ask; simp; omega]; rfl)
      · refine gi_iload_n (q := 40) (i := 1) C (dm_Mo_asks 21 rfl) rfl rfl rfl ?_
        refine gi_bipush (q := 42) (v := 30) C (dm_Mo_asks 22 rfl) rfl (by decide) ?_
        refine gi_icmp_eq (q := 45) (tgt := 62) C (dm_Mo_asks 23 rfl) rfl (by decide) (fun c42 => ?_) (fun c42 => ?_)
        · refine gi_iconst (q := 63) (v := 1) C (dm_Mo_asks 33 rfl) rfl (by decide) ?_
          refine gi_goto (tgt := 67) C (dm_Mo_asks 34 rfl) (by decide) ?_
          refine gi_zret C hr (dm_Mo_asks 36 rfl) rfl ?_
          (try simp (disch := omega) only [jw1, jw2, jw3, jw4, jo10, jo11, jo28, jo30, jo31, jl29, jg31] at c2)
          (try simp (disch := omega) only [jw1, jw2, jw3, jw4, jo10, jo11, jo28, jo30, jo31, jl29, jg31] at c19)
          (try simp (disch := omega) only [jw1, jw2, jw3, jw4, jo10, jo11, jo28, jo30, jo31, jl29, jg31] at c36)
          (try simp (disch := omega) only [jw1, jw2, jw3, jw4, jo10, jo11, jo28, jo30, jo31, jl29, jg31] at c42)
          refine ⟨?_, rfl, rfl⟩
          first
            | (rw [show ask op wr = true from by unfold ask; simp; omega]; rfl)
            | (rw [show ask op wr = false from by unfold ask; simp; omega]; rfl)
        · refine gi_iload_n (q := 46) (i := 1) C (dm_Mo_asks 24 rfl) rfl rfl rfl ?_
          refine gi_bipush (q := 48) (v := 31) C (dm_Mo_asks 25 rfl) rfl (by decide) ?_
          refine gi_icmp_eq (q := 51) (tgt := 62) C (dm_Mo_asks 26 rfl) rfl (by decide) (fun c48 => ?_) (fun c48 => ?_)
          · refine gi_iconst (q := 63) (v := 1) C (dm_Mo_asks 33 rfl) rfl (by decide) ?_
            refine gi_goto (tgt := 67) C (dm_Mo_asks 34 rfl) (by decide) ?_
            refine gi_zret C hr (dm_Mo_asks 36 rfl) rfl ?_
            (try simp (disch := omega) only [jw1, jw2, jw3, jw4, jo10, jo11, jo28, jo30, jo31, jl29, jg31] at c2)
            (try simp (disch := omega) only [jw1, jw2, jw3, jw4, jo10, jo11, jo28, jo30, jo31, jl29, jg31] at c19)
            (try simp (disch := omega) only [jw1, jw2, jw3, jw4, jo10, jo11, jo28, jo30, jo31, jl29, jg31] at c36)
            (try simp (disch := omega) only [jw1, jw2, jw3, jw4, jo10, jo11, jo28, jo30, jo31, jl29, jg31] at c42)
            (try simp (disch := omega) only [jw1, jw2, jw3, jw4, jo10, jo11, jo28, jo30, jo31, jl29, jg31] at c48)
            refine ⟨?_, rfl, rfl⟩
            first
              | (rw [show ask op wr = true from by unfold ask; simp; omega]; rfl)
              | (rw [show ask op wr = false from by unfold ask; simp; omega]; rfl)
          · refine gi_iload_n (q := 52) (i := 2) C (dm_Mo_asks 27 rfl) rfl rfl rfl ?_
            refine gi_iconst (q := 53) (v := 4) C (dm_Mo_asks 28 rfl) rfl (by decide) ?_
            refine gi_icmp_ne (q := 56) (tgt := 66) C (dm_Mo_asks 29 rfl) rfl (by decide) (fun c53 => ?_) (fun c53 => ?_)
            · refine gi_iconst (q := 67) (v := 0) C (dm_Mo_asks 35 rfl) rfl (by decide) ?_
              refine gi_zret C hr (dm_Mo_asks 36 rfl) rfl ?_
              (try simp (disch := omega) only [jw1, jw2, jw3, jw4, jo10, jo11, jo28, jo30, jo31, jl29, jg31] at c2)
              (try simp (disch := omega) only [jw1, jw2, jw3, jw4, jo10, jo11, jo28, jo30, jo31, jl29, jg31] at c19)
              (try simp (disch := omega) only [jw1, jw2, jw3, jw4, jo10, jo11, jo28, jo30, jo31, jl29, jg31] at c36)
              (try simp (disch := omega) only [jw1, jw2, jw3, jw4, jo10, jo11, jo28, jo30, jo31, jl29, jg31] at c42)
              (try simp (disch := omega) only [jw1, jw2, jw3, jw4, jo10, jo11, jo28, jo30, jo31, jl29, jg31] at c48)
              (try simp (disch := omega) only [jw1, jw2, jw3, jw4, jo10, jo11, jo28, jo30, jo31, jl29, jg31] at c53)
              refine ⟨?_, rfl, rfl⟩
              first
                | (rw [show ask op wr = true from by unfold ask; simp; omega]; rfl)
                | (rw [show ask op wr = false from by unfold ask; simp; omega]; rfl)
            · refine gi_iload_n (q := 57) (i := 1) C (dm_Mo_asks 30 rfl) rfl rfl rfl ?_
              refine gi_bipush (q := 59) (v := 28) C (dm_Mo_asks 31 rfl) rfl (by decide) ?_
              refine gi_icmp_ne (q := 62) (tgt := 66) C (dm_Mo_asks 32 rfl) rfl (by decide) (fun c59 => ?_) (fun c59 => ?_)
              · refine gi_iconst (q := 67) (v := 0) C (dm_Mo_asks 35 rfl) rfl (by decide) ?_
                refine gi_zret C hr (dm_Mo_asks 36 rfl) rfl ?_
                (try simp (disch := omega) only [jw1, jw2, jw3, jw4, jo10, jo11, jo28, jo30, jo31, jl29, jg31] at c2)
                (try simp (disch := omega) only [jw1, jw2, jw3, jw4, jo10, jo11, jo28, jo30, jo31, jl29, jg31] at c19)
                (try simp (disch := omega) only [jw1, jw2, jw3, jw4, jo10, jo11, jo28, jo30, jo31, jl29, jg31] at c36)
                (try simp (disch := omega) only [jw1, jw2, jw3, jw4, jo10, jo11, jo28, jo30, jo31, jl29, jg31] at c42)
                (try simp (disch := omega) only [jw1, jw2, jw3, jw4, jo10, jo11, jo28, jo30, jo31, jl29, jg31] at c48)
                (try simp (disch := omega) only [jw1, jw2, jw3, jw4, jo10, jo11, jo28, jo30, jo31, jl29, jg31] at c53)
                (try simp (disch := omega) only [jw1, jw2, jw3, jw4, jo10, jo11, jo28, jo30, jo31, jl29, jg31] at c59)
                refine ⟨?_, rfl, rfl⟩
                first
                  | (rw [show ask op wr = true from by unfold ask; simp; omega]; rfl)
                  | (rw [show ask op wr = false from by unfold ask; simp; omega]; rfl)
              · refine gi_iconst (q := 63) (v := 1) C (dm_Mo_asks 33 rfl) rfl (by decide) ?_
                refine gi_goto (tgt := 67) C (dm_Mo_asks 34 rfl) (by decide) ?_
                refine gi_zret C hr (dm_Mo_asks 36 rfl) rfl ?_
                (try simp (disch := omega) only [jw1, jw2, jw3, jw4, jo10, jo11, jo28, jo30, jo31, jl29, jg31] at c2)
                (try simp (disch := omega) only [jw1, jw2, jw3, jw4, jo10, jo11, jo28, jo30, jo31, jl29, jg31] at c19)
                (try simp (disch := omega) only [jw1, jw2, jw3, jw4, jo10, jo11, jo28, jo30, jo31, jl29, jg31] at c36)
                (try simp (disch := omega) only [jw1, jw2, jw3, jw4, jo10, jo11, jo28, jo30, jo31, jl29, jg31] at c42)
                (try simp (disch := omega) only [jw1, jw2, jw3, jw4, jo10, jo11, jo28, jo30, jo31, jl29, jg31] at c48)
                (try simp (disch := omega) only [jw1, jw2, jw3, jw4, jo10, jo11, jo28, jo30, jo31, jl29, jg31] at c53)
                (try simp (disch := omega) only [jw1, jw2, jw3, jw4, jo10, jo11, jo28, jo30, jo31, jl29, jg31] at c59)
                refine ⟨?_, rfl, rfl⟩
                first
                  | (rw [show ask op wr = true from by unfold ask; simp; omega]; rfl)
                  | (rw [show ask op wr = false from by unfold ask; simp; omega]; rfl)
    · refine gi_iload_n (q := 23) (i := 1) C (dm_Mo_asks 12 rfl) rfl rfl rfl ?_
      refine gi_bipush (q := 25) (v := 29) C (dm_Mo_asks 13 rfl) rfl (by decide) ?_
      refine gi_icmp_lt (q := 28) (tgt := 34) C (dm_Mo_asks 14 rfl) rfl (by decide) (fun c25 => ?_) (fun c25 => ?_)
      · refine gi_iload_n (q := 35) (i := 2) C (dm_Mo_asks 18 rfl) rfl rfl rfl ?_
        refine gi_iconst (q := 36) (v := 3) C (dm_Mo_asks 19 rfl) rfl (by decide) ?_
        refine gi_icmp_ne (q := 39) (tgt := 51) C (dm_Mo_asks 20 rfl) rfl (by decide) (fun c36 => ?_) (fun c36 => ?_)
        · refine gi_iload_n (q := 52) (i := 2) C (dm_Mo_asks 27 rfl) rfl rfl rfl ?_
          refine gi_iconst (q := 53) (v := 4) C (dm_Mo_asks 28 rfl) rfl (by decide) ?_
          refine gi_icmp_ne (q := 56) (tgt := 66) C (dm_Mo_asks 29 rfl) rfl (by decide) (fun c53 => ?_) (fun c53 => ?_)
          · refine gi_iconst (q := 67) (v := 0) C (dm_Mo_asks 35 rfl) rfl (by decide) ?_
            refine gi_zret C hr (dm_Mo_asks 36 rfl) rfl ?_
            (try simp (disch := omega) only [jw1, jw2, jw3, jw4, jo10, jo11, jo28, jo30, jo31, jl29, jg31] at c2)
            (try simp (disch := omega) only [jw1, jw2, jw3, jw4, jo10, jo11, jo28, jo30, jo31, jl29, jg31] at c19)
            (try simp (disch := omega) only [jw1, jw2, jw3, jw4, jo10, jo11, jo28, jo30, jo31, jl29, jg31] at c25)
            (try simp (disch := omega) only [jw1, jw2, jw3, jw4, jo10, jo11, jo28, jo30, jo31, jl29, jg31] at c36)
            (try simp (disch := omega) only [jw1, jw2, jw3, jw4, jo10, jo11, jo28, jo30, jo31, jl29, jg31] at c53)
            refine ⟨?_, rfl, rfl⟩
            first
              | (rw [show ask op wr = true from by unfold ask; simp; omega]; rfl)
              | (rw [show ask op wr = false from by unfold ask; simp; omega]; rfl)
          · refine gi_iload_n (q := 57) (i := 1) C (dm_Mo_asks 30 rfl) rfl rfl rfl ?_
            refine gi_bipush (q := 59) (v := 28) C (dm_Mo_asks 31 rfl) rfl (by decide) ?_
            refine gi_icmp_ne (q := 62) (tgt := 66) C (dm_Mo_asks 32 rfl) rfl (by decide) (fun c59 => ?_) (fun c59 => ?_)
            · refine gi_iconst (q := 67) (v := 0) C (dm_Mo_asks 35 rfl) rfl (by decide) ?_
              refine gi_zret C hr (dm_Mo_asks 36 rfl) rfl ?_
              (try simp (disch := omega) only [jw1, jw2, jw3, jw4, jo10, jo11, jo28, jo30, jo31, jl29, jg31] at c2)
              (try simp (disch := omega) only [jw1, jw2, jw3, jw4, jo10, jo11, jo28, jo30, jo31, jl29, jg31] at c19)
              (try simp (disch := omega) only [jw1, jw2, jw3, jw4, jo10, jo11, jo28, jo30, jo31, jl29, jg31] at c25)
              (try simp (disch := omega) only [jw1, jw2, jw3, jw4, jo10, jo11, jo28, jo30, jo31, jl29, jg31] at c36)
              (try simp (disch := omega) only [jw1, jw2, jw3, jw4, jo10, jo11, jo28, jo30, jo31, jl29, jg31] at c53)
              (try simp (disch := omega) only [jw1, jw2, jw3, jw4, jo10, jo11, jo28, jo30, jo31, jl29, jg31] at c59)
              refine ⟨?_, rfl, rfl⟩
              first
                | (rw [show ask op wr = true from by unfold ask; simp; omega]; rfl)
                | (rw [show ask op wr = false from by unfold ask; simp; omega]; rfl)
            · refine gi_iconst (q := 63) (v := 1) C (dm_Mo_asks 33 rfl) rfl (by decide) ?_
              refine gi_goto (tgt := 67) C (dm_Mo_asks 34 rfl) (by decide) ?_
              refine gi_zret C hr (dm_Mo_asks 36 rfl) rfl ?_
              (try simp (disch := omega) only [jw1, jw2, jw3, jw4, jo10, jo11, jo28, jo30, jo31, jl29, jg31] at c2)
              (try simp (disch := omega) only [jw1, jw2, jw3, jw4, jo10, jo11, jo28, jo30, jo31, jl29, jg31] at c19)
              (try simp (disch := omega) only [jw1, jw2, jw3, jw4, jo10, jo11, jo28, jo30, jo31, jl29, jg31] at c25)
              (try simp (disch := omega) only [jw1, jw2, jw3, jw4, jo10, jo11, jo28, jo30, jo31, jl29, jg31] at c36)
              (try simp (disch := omega) only [jw1, jw2, jw3, jw4, jo10, jo11, jo28, jo30, jo31, jl29, jg31] at c53)
              (try simp (disch := omega) only [jw1, jw2, jw3, jw4, jo10, jo11, jo28, jo30, jo31, jl29, jg31] at c59)
              refine ⟨?_, rfl, rfl⟩
              first
                | (rw [show ask op wr = true from by unfold ask; simp; omega]; rfl)
                | (rw [show ask op wr = false from by unfold ask; simp; omega]; rfl)
        · refine gi_iload_n (q := 40) (i := 1) C (dm_Mo_asks 21 rfl) rfl rfl rfl ?_
          refine gi_bipush (q := 42) (v := 30) C (dm_Mo_asks 22 rfl) rfl (by decide) ?_
          refine gi_icmp_eq (q := 45) (tgt := 62) C (dm_Mo_asks 23 rfl) rfl (by decide) (fun c42 => ?_) (fun c42 => ?_)
          · refine gi_iconst (q := 63) (v := 1) C (dm_Mo_asks 33 rfl) rfl (by decide) ?_
            refine gi_goto (tgt := 67) C (dm_Mo_asks 34 rfl) (by decide) ?_
            refine gi_zret C hr (dm_Mo_asks 36 rfl) rfl ?_
            (try simp (disch := omega) only [jw1, jw2, jw3, jw4, jo10, jo11, jo28, jo30, jo31, jl29, jg31] at c2)
            (try simp (disch := omega) only [jw1, jw2, jw3, jw4, jo10, jo11, jo28, jo30, jo31, jl29, jg31] at c19)
            (try simp (disch := omega) only [jw1, jw2, jw3, jw4, jo10, jo11, jo28, jo30, jo31, jl29, jg31] at c25)
            (try simp (disch := omega) only [jw1, jw2, jw3, jw4, jo10, jo11, jo28, jo30, jo31, jl29, jg31] at c36)
            (try simp (disch := omega) only [jw1, jw2, jw3, jw4, jo10, jo11, jo28, jo30, jo31, jl29, jg31] at c42)
            refine ⟨?_, rfl, rfl⟩
            first
              | (rw [show ask op wr = true from by unfold ask; simp; omega]; rfl)
              | (rw [show ask op wr = false from by unfold ask; simp; omega]; rfl)
          · refine gi_iload_n (q := 46) (i := 1) C (dm_Mo_asks 24 rfl) rfl rfl rfl ?_
            refine gi_bipush (q := 48) (v := 31) C (dm_Mo_asks 25 rfl) rfl (by decide) ?_
            refine gi_icmp_eq (q := 51) (tgt := 62) C (dm_Mo_asks 26 rfl) rfl (by decide) (fun c48 => ?_) (fun c48 => ?_)
            · refine gi_iconst (q := 63) (v := 1) C (dm_Mo_asks 33 rfl) rfl (by decide) ?_
              refine gi_goto (tgt := 67) C (dm_Mo_asks 34 rfl) (by decide) ?_
              refine gi_zret C hr (dm_Mo_asks 36 rfl) rfl ?_
              (try simp (disch := omega) only [jw1, jw2, jw3, jw4, jo10, jo11, jo28, jo30, jo31, jl29, jg31] at c2)
              (try simp (disch := omega) only [jw1, jw2, jw3, jw4, jo10, jo11, jo28, jo30, jo31, jl29, jg31] at c19)
              (try simp (disch := omega) only [jw1, jw2, jw3, jw4, jo10, jo11, jo28, jo30, jo31, jl29, jg31] at c25)
              (try simp (disch := omega) only [jw1, jw2, jw3, jw4, jo10, jo11, jo28, jo30, jo31, jl29, jg31] at c36)
              (try simp (disch := omega) only [jw1, jw2, jw3, jw4, jo10, jo11, jo28, jo30, jo31, jl29, jg31] at c42)
              (try simp (disch := omega) only [jw1, jw2, jw3, jw4, jo10, jo11, jo28, jo30, jo31, jl29, jg31] at c48)
              refine ⟨?_, rfl, rfl⟩
              first
                | (rw [show ask op wr = true from by unfold ask; simp; omega]; rfl)
                | (rw [show ask op wr = false from by unfold ask; simp; omega]; rfl)
            · refine gi_iload_n (q := 52) (i := 2) C (dm_Mo_asks 27 rfl) rfl rfl rfl ?_
              refine gi_iconst (q := 53) (v := 4) C (dm_Mo_asks 28 rfl) rfl (by decide) ?_
              refine gi_icmp_ne (q := 56) (tgt := 66) C (dm_Mo_asks 29 rfl) rfl (by decide) (fun c53 => ?_) (fun c53 => ?_)
              · refine gi_iconst (q := 67) (v := 0) C (dm_Mo_asks 35 rfl) rfl (by decide) ?_
                refine gi_zret C hr (dm_Mo_asks 36 rfl) rfl ?_
                (try simp (disch := omega) only [jw1, jw2, jw3, jw4, jo10, jo11, jo28, jo30, jo31, jl29, jg31] at c2)
                (try simp (disch := omega) only [jw1, jw2, jw3, jw4, jo10, jo11, jo28, jo30, jo31, jl29, jg31] at c19)
                (try simp (disch := omega) only [jw1, jw2, jw3, jw4, jo10, jo11, jo28, jo30, jo31, jl29, jg31] at c25)
                (try simp (disch := omega) only [jw1, jw2, jw3, jw4, jo10, jo11, jo28, jo30, jo31, jl29, jg31] at c36)
                (try simp (disch := omega) only [jw1, jw2, jw3, jw4, jo10, jo11, jo28, jo30, jo31, jl29, jg31] at c42)
                (try simp (disch := omega) only [jw1, jw2, jw3, jw4, jo10, jo11, jo28, jo30, jo31, jl29, jg31] at c48)
                (try simp (disch := omega) only [jw1, jw2, jw3, jw4, jo10, jo11, jo28, jo30, jo31, jl29, jg31] at c53)
                refine ⟨?_, rfl, rfl⟩
                first
                  | (rw [show ask op wr = true from by unfold ask; simp; omega]; rfl)
                  | (rw [show ask op wr = false from by unfold ask; simp; omega]; rfl)
              · refine gi_iload_n (q := 57) (i := 1) C (dm_Mo_asks 30 rfl) rfl rfl rfl ?_
                refine gi_bipush (q := 59) (v := 28) C (dm_Mo_asks 31 rfl) rfl (by decide) ?_
                refine gi_icmp_ne (q := 62) (tgt := 66) C (dm_Mo_asks 32 rfl) rfl (by decide) (fun c59 => ?_) (fun c59 => ?_)
                · refine gi_iconst (q := 67) (v := 0) C (dm_Mo_asks 35 rfl) rfl (by decide) ?_
                  refine gi_zret C hr (dm_Mo_asks 36 rfl) rfl ?_
                  (try simp (disch := omega) only [jw1, jw2, jw3, jw4, jo10, jo11, jo28, jo30, jo31, jl29, jg31] at c2)
                  (try simp (disch := omega) only [jw1, jw2, jw3, jw4, jo10, jo11, jo28, jo30, jo31, jl29, jg31] at c19)
                  (try simp (disch := omega) only [jw1, jw2, jw3, jw4, jo10, jo11, jo28, jo30, jo31, jl29, jg31] at c25)
                  (try simp (disch := omega) only [jw1, jw2, jw3, jw4, jo10, jo11, jo28, jo30, jo31, jl29, jg31] at c36)
                  (try simp (disch := omega) only [jw1, jw2, jw3, jw4, jo10, jo11, jo28, jo30, jo31, jl29, jg31] at c42)
                  (try simp (disch := omega) only [jw1, jw2, jw3, jw4, jo10, jo11, jo28, jo30, jo31, jl29, jg31] at c48)
                  (try simp (disch := omega) only [jw1, jw2, jw3, jw4, jo10, jo11, jo28, jo30, jo31, jl29, jg31] at c53)
                  (try simp (disch := omega) only [jw1, jw2, jw3, jw4, jo10, jo11, jo28, jo30, jo31, jl29, jg31] at c59)
                  refine ⟨?_, rfl, rfl⟩
                  first
                    | (rw [show ask op wr = true from by unfold ask; simp; omega]; rfl)
                    | (rw [show ask op wr = false from by unfold ask; simp; omega]; rfl)
                · refine gi_iconst (q := 63) (v := 1) C (dm_Mo_asks 33 rfl) rfl (by decide) ?_
                  refine gi_goto (tgt := 67) C (dm_Mo_asks 34 rfl) (by decide) ?_
                  refine gi_zret C hr (dm_Mo_asks 36 rfl) rfl ?_
                  (try simp (disch := omega) only [jw1, jw2, jw3, jw4, jo10, jo11, jo28, jo30, jo31, jl29, jg31] at c2)
                  (try simp (disch := omega) only [jw1, jw2, jw3, jw4, jo10, jo11, jo28, jo30, jo31, jl29, jg31] at c19)
                  (try simp (disch := omega) only [jw1, jw2, jw3, jw4, jo10, jo11, jo28, jo30, jo31, jl29, jg31] at c25)
                  (try simp (disch := omega) only [jw1, jw2, jw3, jw4, jo10, jo11, jo28, jo30, jo31, jl29, jg31] at c36)
                  (try simp (disch := omega) only [jw1, jw2, jw3, jw4, jo10, jo11, jo28, jo30, jo31, jl29, jg31] at c42)
                  (try simp (disch := omega) only [jw1, jw2, jw3, jw4, jo10, jo11, jo28, jo30, jo31, jl29, jg31] at c48)
                  (try simp (disch := omega) only [jw1, jw2, jw3, jw4, jo10, jo11, jo28, jo30, jo31, jl29, jg31] at c53)
                  (try simp (disch := omega) only [jw1, jw2, jw3, jw4, jo10, jo11, jo28, jo30, jo31, jl29, jg31] at c59)
                  refine ⟨?_, rfl, rfl⟩
                  first
                    | (rw [show ask op wr = true from by unfold ask; simp; omega]; rfl)
                    | (rw [show ask op wr = false from by unfold ask; simp; omega]; rfl)
      · refine gi_iload_n (q := 29) (i := 1) C (dm_Mo_asks 15 rfl) rfl rfl rfl ?_
        refine gi_bipush (q := 31) (v := 31) C (dm_Mo_asks 16 rfl) rfl (by decide) ?_
        refine gi_icmp_le (q := 34) (tgt := 62) C (dm_Mo_asks 17 rfl) rfl (by decide) (fun c31 => ?_) (fun c31 => ?_)
        · refine gi_iconst (q := 63) (v := 1) C (dm_Mo_asks 33 rfl) rfl (by decide) ?_
          refine gi_goto (tgt := 67) C (dm_Mo_asks 34 rfl) (by decide) ?_
          refine gi_zret C hr (dm_Mo_asks 36 rfl) rfl ?_
          (try simp (disch := omega) only [jw1, jw2, jw3, jw4, jo10, jo11, jo28, jo30, jo31, jl29, jg31] at c2)
          (try simp (disch := omega) only [jw1, jw2, jw3, jw4, jo10, jo11, jo28, jo30, jo31, jl29, jg31] at c19)
          (try simp (disch := omega) only [jw1, jw2, jw3, jw4, jo10, jo11, jo28, jo30, jo31, jl29, jg31] at c25)
          (try simp (disch := omega) only [jw1, jw2, jw3, jw4, jo10, jo11, jo28, jo30, jo31, jl29, jg31] at c31)
          refine ⟨?_, rfl, rfl⟩
          first
            | (rw [show ask op wr = true from by unfold ask; simp; omega]; rfl)
            | (rw [show ask op wr = false from by unfold ask; simp; omega]; rfl)
        · refine gi_iload_n (q := 35) (i := 2) C (dm_Mo_asks 18 rfl) rfl rfl rfl ?_
          refine gi_iconst (q := 36) (v := 3) C (dm_Mo_asks 19 rfl) rfl (by decide) ?_
          refine gi_icmp_ne (q := 39) (tgt := 51) C (dm_Mo_asks 20 rfl) rfl (by decide) (fun c36 => ?_) (fun c36 => ?_)
          · refine gi_iload_n (q := 52) (i := 2) C (dm_Mo_asks 27 rfl) rfl rfl rfl ?_
            refine gi_iconst (q := 53) (v := 4) C (dm_Mo_asks 28 rfl) rfl (by decide) ?_
            refine gi_icmp_ne (q := 56) (tgt := 66) C (dm_Mo_asks 29 rfl) rfl (by decide) (fun c53 => ?_) (fun c53 => ?_)
            · refine gi_iconst (q := 67) (v := 0) C (dm_Mo_asks 35 rfl) rfl (by decide) ?_
              refine gi_zret C hr (dm_Mo_asks 36 rfl) rfl ?_
              (try simp (disch := omega) only [jw1, jw2, jw3, jw4, jo10, jo11, jo28, jo30, jo31, jl29, jg31] at c2)
              (try simp (disch := omega) only [jw1, jw2, jw3, jw4, jo10, jo11, jo28, jo30, jo31, jl29, jg31] at c19)
              (try simp (disch := omega) only [jw1, jw2, jw3, jw4, jo10, jo11, jo28, jo30, jo31, jl29, jg31] at c25)
              (try simp (disch := omega) only [jw1, jw2, jw3, jw4, jo10, jo11, jo28, jo30, jo31, jl29, jg31] at c31)
              (try simp (disch := omega) only [jw1, jw2, jw3, jw4, jo10, jo11, jo28, jo30, jo31, jl29, jg31] at c36)
              (try simp (disch := omega) only [jw1, jw2, jw3, jw4, jo10, jo11, jo28, jo30, jo31, jl29, jg31] at c53)
              refine ⟨?_, rfl, rfl⟩
              first
                | (rw [show ask op wr = true from by unfold ask; simp; omega]; rfl)
                | (rw [show ask op wr = false from by unfold ask; simp; omega]; rfl)
            · refine gi_iload_n (q := 57) (i := 1) C (dm_Mo_asks 30 rfl) rfl rfl rfl ?_
              refine gi_bipush (q := 59) (v := 28) C (dm_Mo_asks 31 rfl) rfl (by decide) ?_
              refine gi_icmp_ne (q := 62) (tgt := 66) C (dm_Mo_asks 32 rfl) rfl (by decide) (fun c59 => ?_) (fun c59 => ?_)
              · refine gi_iconst (q := 67) (v := 0) C (dm_Mo_asks 35 rfl) rfl (by decide) ?_
                refine gi_zret C hr (dm_Mo_asks 36 rfl) rfl ?_
                (try simp (disch := omega) only [jw1, jw2, jw3, jw4, jo10, jo11, jo28, jo30, jo31, jl29, jg31] at c2)
                (try simp (disch := omega) only [jw1, jw2, jw3, jw4, jo10, jo11, jo28, jo30, jo31, jl29, jg31] at c19)
                (try simp (disch := omega) only [jw1, jw2, jw3, jw4, jo10, jo11, jo28, jo30, jo31, jl29, jg31] at c25)
                (try simp (disch := omega) only [jw1, jw2, jw3, jw4, jo10, jo11, jo28, jo30, jo31, jl29, jg31] at c31)
                (try simp (disch := omega) only [jw1, jw2, jw3, jw4, jo10, jo11, jo28, jo30, jo31, jl29, jg31] at c36)
                (try simp (disch := omega) only [jw1, jw2, jw3, jw4, jo10, jo11, jo28, jo30, jo31, jl29, jg31] at c53)
                (try simp (disch := omega) only [jw1, jw2, jw3, jw4, jo10, jo11, jo28, jo30, jo31, jl29, jg31] at c59)
                refine ⟨?_, rfl, rfl⟩
                first
                  | (rw [show ask op wr = true from by unfold ask; simp; omega]; rfl)
                  | (rw [show ask op wr = false from by unfold ask; simp; omega]; rfl)
              · refine gi_iconst (q := 63) (v := 1) C (dm_Mo_asks 33 rfl) rfl (by decide) ?_
                refine gi_goto (tgt := 67) C (dm_Mo_asks 34 rfl) (by decide) ?_
                refine gi_zret C hr (dm_Mo_asks 36 rfl) rfl ?_
                (try simp (disch := omega) only [jw1, jw2, jw3, jw4, jo10, jo11, jo28, jo30, jo31, jl29, jg31] at c2)
                (try simp (disch := omega) only [jw1, jw2, jw3, jw4, jo10, jo11, jo28, jo30, jo31, jl29, jg31] at c19)
                (try simp (disch := omega) only [jw1, jw2, jw3, jw4, jo10, jo11, jo28, jo30, jo31, jl29, jg31] at c25)
                (try simp (disch := omega) only [jw1, jw2, jw3, jw4, jo10, jo11, jo28, jo30, jo31, jl29, jg31] at c31)
                (try simp (disch := omega) only [jw1, jw2, jw3, jw4, jo10, jo11, jo28, jo30, jo31, jl29, jg31] at c36)
                (try simp (disch := omega) only [jw1, jw2, jw3, jw4, jo10, jo11, jo28, jo30, jo31, jl29, jg31] at c53)
                (try simp (disch := omega) only [jw1, jw2, jw3, jw4, jo10, jo11, jo28, jo30, jo31, jl29, jg31] at c59)
                refine ⟨?_, rfl, rfl⟩
                first
                  | (rw [show ask op wr = true from by unfold ask; simp; omega]; rfl)
                  | (rw [show ask op wr = false from by unfold ask; simp; omega]; rfl)
          · refine gi_iload_n (q := 40) (i := 1) C (dm_Mo_asks 21 rfl) rfl rfl rfl ?_
            refine gi_bipush (q := 42) (v := 30) C (dm_Mo_asks 22 rfl) rfl (by decide) ?_
            refine gi_icmp_eq (q := 45) (tgt := 62) C (dm_Mo_asks 23 rfl) rfl (by decide) (fun c42 => ?_) (fun c42 => ?_)
            · refine gi_iconst (q := 63) (v := 1) C (dm_Mo_asks 33 rfl) rfl (by decide) ?_
              refine gi_goto (tgt := 67) C (dm_Mo_asks 34 rfl) (by decide) ?_
              refine gi_zret C hr (dm_Mo_asks 36 rfl) rfl ?_
              (try simp (disch := omega) only [jw1, jw2, jw3, jw4, jo10, jo11, jo28, jo30, jo31, jl29, jg31] at c2)
              (try simp (disch := omega) only [jw1, jw2, jw3, jw4, jo10, jo11, jo28, jo30, jo31, jl29, jg31] at c19)
              (try simp (disch := omega) only [jw1, jw2, jw3, jw4, jo10, jo11, jo28, jo30, jo31, jl29, jg31] at c25)
              (try simp (disch := omega) only [jw1, jw2, jw3, jw4, jo10, jo11, jo28, jo30, jo31, jl29, jg31] at c31)
              (try simp (disch := omega) only [jw1, jw2, jw3, jw4, jo10, jo11, jo28, jo30, jo31, jl29, jg31] at c36)
              (try simp (disch := omega) only [jw1, jw2, jw3, jw4, jo10, jo11, jo28, jo30, jo31, jl29, jg31] at c42)
              refine ⟨?_, rfl, rfl⟩
              first
                | (rw [show ask op wr = true from by unfold ask; simp; omega]; rfl)
                | (rw [show ask op wr = false from by unfold ask; simp; omega]; rfl)
            · refine gi_iload_n (q := 46) (i := 1) C (dm_Mo_asks 24 rfl) rfl rfl rfl ?_
              refine gi_bipush (q := 48) (v := 31) C (dm_Mo_asks 25 rfl) rfl (by decide) ?_
              refine gi_icmp_eq (q := 51) (tgt := 62) C (dm_Mo_asks 26 rfl) rfl (by decide) (fun c48 => ?_) (fun c48 => ?_)
              · refine gi_iconst (q := 63) (v := 1) C (dm_Mo_asks 33 rfl) rfl (by decide) ?_
                refine gi_goto (tgt := 67) C (dm_Mo_asks 34 rfl) (by decide) ?_
                refine gi_zret C hr (dm_Mo_asks 36 rfl) rfl ?_
                (try simp (disch := omega) only [jw1, jw2, jw3, jw4, jo10, jo11, jo28, jo30, jo31, jl29, jg31] at c2)
                (try simp (disch := omega) only [jw1, jw2, jw3, jw4, jo10, jo11, jo28, jo30, jo31, jl29, jg31] at c19)
                (try simp (disch := omega) only [jw1, jw2, jw3, jw4, jo10, jo11, jo28, jo30, jo31, jl29, jg31] at c25)
                (try simp (disch := omega) only [jw1, jw2, jw3, jw4, jo10, jo11, jo28, jo30, jo31, jl29, jg31] at c31)
                (try simp (disch := omega) only [jw1, jw2, jw3, jw4, jo10, jo11, jo28, jo30, jo31, jl29, jg31] at c36)
                (try simp (disch := omega) only [jw1, jw2, jw3, jw4, jo10, jo11, jo28, jo30, jo31, jl29, jg31] at c42)
                (try simp (disch := omega) only [jw1, jw2, jw3, jw4, jo10, jo11, jo28, jo30, jo31, jl29, jg31] at c48)
                refine ⟨?_, rfl, rfl⟩
                first
                  | (rw [show ask op wr = true from by unfold ask; simp; omega]; rfl)
                  | (rw [show ask op wr = false from by unfold ask; simp; omega]; rfl)
              · refine gi_iload_n (q := 52) (i := 2) C (dm_Mo_asks 27 rfl) rfl rfl rfl ?_
                refine gi_iconst (q := 53) (v := 4) C (dm_Mo_asks 28 rfl) rfl (by decide) ?_
                refine gi_icmp_ne (q := 56) (tgt := 66) C (dm_Mo_asks 29 rfl) rfl (by decide) (fun c53 => ?_) (fun c53 => ?_)
                · refine gi_iconst (q := 67) (v := 0) C (dm_Mo_asks 35 rfl) rfl (by decide) ?_
                  refine gi_zret C hr (dm_Mo_asks 36 rfl) rfl ?_
                  (try simp (disch := omega) only [jw1, jw2, jw3, jw4, jo10, jo11, jo28, jo30, jo31, jl29, jg31] at c2)
                  (try simp (disch := omega) only [jw1, jw2, jw3, jw4, jo10, jo11, jo28, jo30, jo31, jl29, jg31] at c19)
                  (try simp (disch := omega) only [jw1, jw2, jw3, jw4, jo10, jo11, jo28, jo30, jo31, jl29, jg31] at c25)
                  (try simp (disch := omega) only [jw1, jw2, jw3, jw4, jo10, jo11, jo28, jo30, jo31, jl29, jg31] at c31)
                  (try simp (disch := omega) only [jw1, jw2, jw3, jw4, jo10, jo11, jo28, jo30, jo31, jl29, jg31] at c36)
                  (try simp (disch := omega) only [jw1, jw2, jw3, jw4, jo10, jo11, jo28, jo30, jo31, jl29, jg31] at c42)
                  (try simp (disch := omega) only [jw1, jw2, jw3, jw4, jo10, jo11, jo28, jo30, jo31, jl29, jg31] at c48)
                  (try simp (disch := omega) only [jw1, jw2, jw3, jw4, jo10, jo11, jo28, jo30, jo31, jl29, jg31] at c53)
                  refine ⟨?_, rfl, rfl⟩
                  first
                    | (rw [show ask op wr = true from by unfold ask; simp; omega]; rfl)
                    | (rw [show ask op wr = false from by unfold ask; simp; omega]; rfl)
                · refine gi_iload_n (q := 57) (i := 1) C (dm_Mo_asks 30 rfl) rfl rfl rfl ?_
                  refine gi_bipush (q := 59) (v := 28) C (dm_Mo_asks 31 rfl) rfl (by decide) ?_
                  refine gi_icmp_ne (q := 62) (tgt := 66) C (dm_Mo_asks 32 rfl) rfl (by decide) (fun c59 => ?_) (fun c59 => ?_)
                  · refine gi_iconst (q := 67) (v := 0) C (dm_Mo_asks 35 rfl) rfl (by decide) ?_
                    refine gi_zret C hr (dm_Mo_asks 36 rfl) rfl ?_
                    (try simp (disch := omega) only [jw1, jw2, jw3, jw4, jo10, jo11, jo28, jo30, jo31, jl29, jg31] at c2)
                    (try simp (disch := omega) only [jw1, jw2, jw3, jw4, jo10, jo11, jo28, jo30, jo31, jl29, jg31] at c19)
                    (try simp (disch := omega) only [jw1, jw2, jw3, jw4, jo10, jo11, jo28, jo30, jo31, jl29, jg31] at c25)
                    (try simp (disch := omega) only [jw1, jw2, jw3, jw4, jo10, jo11, jo28, jo30, jo31, jl29, jg31] at c31)
                    (try simp (disch := omega) only [jw1, jw2, jw3, jw4, jo10, jo11, jo28, jo30, jo31, jl29, jg31] at c36)
                    (try simp (disch := omega) only [jw1, jw2, jw3, jw4, jo10, jo11, jo28, jo30, jo31, jl29, jg31] at c42)
                    (try simp (disch := omega) only [jw1, jw2, jw3, jw4, jo10, jo11, jo28, jo30, jo31, jl29, jg31] at c48)
                    (try simp (disch := omega) only [jw1, jw2, jw3, jw4, jo10, jo11, jo28, jo30, jo31, jl29, jg31] at c53)
                    (try simp (disch := omega) only [jw1, jw2, jw3, jw4, jo10, jo11, jo28, jo30, jo31, jl29, jg31] at c59)
                    refine ⟨?_, rfl, rfl⟩
                    first
                      | (rw [show ask op wr = true from by unfold ask; simp; omega]; rfl)
                      | (rw [show ask op wr = false from by unfold ask; simp; omega]; rfl)
                  · refine gi_iconst (q := 63) (v := 1) C (dm_Mo_asks 33 rfl) rfl (by decide) ?_
                    refine gi_goto (tgt := 67) C (dm_Mo_asks 34 rfl) (by decide) ?_
                    refine gi_zret C hr (dm_Mo_asks 36 rfl) rfl ?_
                    (try simp (disch := omega) only [jw1, jw2, jw3, jw4, jo10, jo11, jo28, jo30, jo31, jl29, jg31] at c2)
                    (try simp (disch := omega) only [jw1, jw2, jw3, jw4, jo10, jo11, jo28, jo30, jo31, jl29, jg31] at c19)
                    (try simp (disch := omega) only [jw1, jw2, jw3, jw4, jo10, jo11, jo28, jo30, jo31, jl29, jg31] at c25)
                    (try simp (disch := omega) only [jw1, jw2, jw3, jw4, jo10, jo11, jo28, jo30, jo31, jl29, jg31] at c31)
                    (try simp (disch := omega) only [jw1, jw2, jw3, jw4, jo10, jo11, jo28, jo30, jo31, jl29, jg31] at c36)
                    (try simp (disch := omega) only [jw1, jw2, jw3, jw4, jo10, jo11, jo28, jo30, jo31, jl29, jg31] at c42)
                    (try simp (disch := omega) only [jw1, jw2, jw3, jw4, jo10, jo11, jo28, jo30, jo31, jl29, jg31] at c48)
                    (try simp (disch := omega) only [jw1, jw2, jw3, jw4, jo10, jo11, jo28, jo30, jo31, jl29, jg31] at c53)
                    (try simp (disch := omega) only [jw1, jw2, jw3, jw4, jo10, jo11, jo28, jo30, jo31, jl29, jg31] at c59)
                    refine ⟨?_, rfl, rfl⟩
                    first
                      | (rw [show ask op wr = true from by unfold ask; simp; omega]; rfl)
                      | (rw [show ask op wr = false from by unfold ask; simp; omega]; rfl)
  · refine gi_iload_n (q := 6) (i := 1) C (dm_Mo_asks 3 rfl) rfl rfl rfl ?_
    refine gi_bipush (q := 8) (v := 10) C (dm_Mo_asks 4 rfl) rfl (by decide) ?_
    refine gi_icmp_eq (q := 11) (tgt := 62) C (dm_Mo_asks 5 rfl) rfl (by decide) (fun c8 => ?_) (fun c8 => ?_)
    · refine gi_iconst (q := 63) (v := 1) C (dm_Mo_asks 33 rfl) rfl (by decide) ?_
      refine gi_goto (tgt := 67) C (dm_Mo_asks 34 rfl) (by decide) ?_
      refine gi_zret C hr (dm_Mo_asks 36 rfl) rfl ?_
      (try simp (disch := omega) only [jw1, jw2, jw3, jw4, jo10, jo11, jo28, jo30, jo31, jl29, jg31] at c2)
      (try simp (disch := omega) only [jw1, jw2, jw3, jw4, jo10, jo11, jo28, jo30, jo31, jl29, jg31] at c8)
      refine ⟨?_, rfl, rfl⟩
      first
        | (rw [show ask op wr = true from by unfold ask; simp; omega]; rfl)
        | (rw [show ask op wr = false from by unfold ask; simp; omega]; rfl)
    · refine gi_iload_n (q := 12) (i := 1) C (dm_Mo_asks 6 rfl) rfl rfl rfl ?_
      refine gi_bipush (q := 14) (v := 11) C (dm_Mo_asks 7 rfl) rfl (by decide) ?_
      refine gi_icmp_eq (q := 17) (tgt := 62) C (dm_Mo_asks 8 rfl) rfl (by decide) (fun c14 => ?_) (fun c14 => ?_)
      · refine gi_iconst (q := 63) (v := 1) C (dm_Mo_asks 33 rfl) rfl (by decide) ?_
        refine gi_goto (tgt := 67) C (dm_Mo_asks 34 rfl) (by decide) ?_
        refine gi_zret C hr (dm_Mo_asks 36 rfl) rfl ?_
        (try simp (disch := omega) only [jw1, jw2, jw3, jw4, jo10, jo11, jo28, jo30, jo31, jl29, jg31] at c2)
        (try simp (disch := omega) only [jw1, jw2, jw3, jw4, jo10, jo11, jo28, jo30, jo31, jl29, jg31] at c8)
        (try simp (disch := omega) only [jw1, jw2, jw3, jw4, jo10, jo11, jo28, jo30, jo31, jl29, jg31] at c14)
        refine ⟨?_, rfl, rfl⟩
        first
          | (rw [show ask op wr = true from by unfold ask; simp; omega]; rfl)
          | (rw [show ask op wr = false from by unfold ask; simp; omega]; rfl)
      · refine gi_iload_n (q := 18) (i := 2) C (dm_Mo_asks 9 rfl) rfl rfl rfl ?_
        refine gi_iconst (q := 19) (v := 2) C (dm_Mo_asks 10 rfl) rfl (by decide) ?_
        refine gi_icmp_ne (q := 22) (tgt := 34) C (dm_Mo_asks 11 rfl) rfl (by decide) (fun c19 => ?_) (fun c19 => ?_)
        · refine gi_iload_n (q := 35) (i := 2) C (dm_Mo_asks 18 rfl) rfl rfl rfl ?_
          refine gi_iconst (q := 36) (v := 3) C (dm_Mo_asks 19 rfl) rfl (by decide) ?_
          refine gi_icmp_ne (q := 39) (tgt := 51) C (dm_Mo_asks 20 rfl) rfl (by decide) (fun c36 => ?_) (fun c36 => ?_)
          · refine gi_iload_n (q := 52) (i := 2) C (dm_Mo_asks 27 rfl) rfl rfl rfl ?_
            refine gi_iconst (q := 53) (v := 4) C (dm_Mo_asks 28 rfl) rfl (by decide) ?_
            refine gi_icmp_ne (q := 56) (tgt := 66) C (dm_Mo_asks 29 rfl) rfl (by decide) (fun c53 => ?_) (fun c53 => ?_)
            · refine gi_iconst (q := 67) (v := 0) C (dm_Mo_asks 35 rfl) rfl (by decide) ?_
              refine gi_zret C hr (dm_Mo_asks 36 rfl) rfl ?_
              (try simp (disch := omega) only [jw1, jw2, jw3, jw4, jo10, jo11, jo28, jo30, jo31, jl29, jg31] at c2)
              (try simp (disch := omega) only [jw1, jw2, jw3, jw4, jo10, jo11, jo28, jo30, jo31, jl29, jg31] at c8)
              (try simp (disch := omega) only [jw1, jw2, jw3, jw4, jo10, jo11, jo28, jo30, jo31, jl29, jg31] at c14)
              (try simp (disch := omega) only [jw1, jw2, jw3, jw4, jo10, jo11, jo28, jo30, jo31, jl29, jg31] at c19)
              (try simp (disch := omega) only [jw1, jw2, jw3, jw4, jo10, jo11, jo28, jo30, jo31, jl29, jg31] at c36)
              (try simp (disch := omega) only [jw1, jw2, jw3, jw4, jo10, jo11, jo28, jo30, jo31, jl29, jg31] at c53)
              refine ⟨?_, rfl, rfl⟩
              first
                | (rw [show ask op wr = true from by unfold ask; simp; omega]; rfl)
                | (rw [show ask op wr = false from by unfold ask; simp; omega]; rfl)
            · refine gi_iload_n (q := 57) (i := 1) C (dm_Mo_asks 30 rfl) rfl rfl rfl ?_
              refine gi_bipush (q := 59) (v := 28) C (dm_Mo_asks 31 rfl) rfl (by decide) ?_
              refine gi_icmp_ne (q := 62) (tgt := 66) C (dm_Mo_asks 32 rfl) rfl (by decide) (fun c59 => ?_) (fun c59 => ?_)
              · refine gi_iconst (q := 67) (v := 0) C (dm_Mo_asks 35 rfl) rfl (by decide) ?_
                refine gi_zret C hr (dm_Mo_asks 36 rfl) rfl ?_
                (try simp (disch := omega) only [jw1, jw2, jw3, jw4, jo10, jo11, jo28, jo30, jo31, jl29, jg31] at c2)
                (try simp (disch := omega) only [jw1, jw2, jw3, jw4, jo10, jo11, jo28, jo30, jo31, jl29, jg31] at c8)
                (try simp (disch := omega) only [jw1, jw2, jw3, jw4, jo10, jo11, jo28, jo30, jo31, jl29, jg31] at c14)
                (try simp (disch := omega) only [jw1, jw2, jw3, jw4, jo10, jo11, jo28, jo30, jo31, jl29, jg31] at c19)
                (try simp (disch := omega) only [jw1, jw2, jw3, jw4, jo10, jo11, jo28, jo30, jo31, jl29, jg31] at c36)
                (try simp (disch := omega) only [jw1, jw2, jw3, jw4, jo10, jo11, jo28, jo30, jo31, jl29, jg31] at c53)
                (try simp (disch := omega) only [jw1, jw2, jw3, jw4, jo10, jo11, jo28, jo30, jo31, jl29, jg31] at c59)
                refine ⟨?_, rfl, rfl⟩
                first
                  | (rw [show ask op wr = true from by unfold ask; simp; omega]; rfl)
                  | (rw [show ask op wr = false from by unfold ask; simp; omega]; rfl)
              · refine gi_iconst (q := 63) (v := 1) C (dm_Mo_asks 33 rfl) rfl (by decide) ?_
                refine gi_goto (tgt := 67) C (dm_Mo_asks 34 rfl) (by decide) ?_
                refine gi_zret C hr (dm_Mo_asks 36 rfl) rfl ?_
                (try simp (disch := omega) only [jw1, jw2, jw3, jw4, jo10, jo11, jo28, jo30, jo31, jl29, jg31] at c2)
                (try simp (disch := omega) only [jw1, jw2, jw3, jw4, jo10, jo11, jo28, jo30, jo31, jl29, jg31] at c8)
                (try simp (disch := omega) only [jw1, jw2, jw3, jw4, jo10, jo11, jo28, jo30, jo31, jl29, jg31] at c14)
                (try simp (disch := omega) only [jw1, jw2, jw3, jw4, jo10, jo11, jo28, jo30, jo31, jl29, jg31] at c19)
                (try simp (disch := omega) only [jw1, jw2, jw3, jw4, jo10, jo11, jo28, jo30, jo31, jl29, jg31] at c36)
                (try simp (disch := omega) only [jw1, jw2, jw3, jw4, jo10, jo11, jo28, jo30, jo31, jl29, jg31] at c53)
                (try simp (disch := omega) only [jw1, jw2, jw3, jw4, jo10, jo11, jo28, jo30, jo31, jl29, jg31] at c59)
                refine ⟨?_, rfl, rfl⟩
                first
                  | (rw [show ask op wr = true from by unfold ask; simp; omega]; rfl)
                  | (rw [show ask op wr = false from by unfold ask; simp; omega]; rfl)
          · refine gi_iload_n (q := 40) (i := 1) C (dm_Mo_asks 21 rfl) rfl rfl rfl ?_
            refine gi_bipush (q := 42) (v := 30) C (dm_Mo_asks 22 rfl) rfl (by decide) ?_
            refine gi_icmp_eq (q := 45) (tgt := 62) C (dm_Mo_asks 23 rfl) rfl (by decide) (fun c42 => ?_) (fun c42 => ?_)
            · refine gi_iconst (q := 63) (v := 1) C (dm_Mo_asks 33 rfl) rfl (by decide) ?_
              refine gi_goto (tgt := 67) C (dm_Mo_asks 34 rfl) (by decide) ?_
              refine gi_zret C hr (dm_Mo_asks 36 rfl) rfl ?_
              (try simp (disch := omega) only [jw1, jw2, jw3, jw4, jo10, jo11, jo28, jo30, jo31, jl29, jg31] at c2)
              (try simp (disch := omega) only [jw1, jw2, jw3, jw4, jo10, jo11, jo28, jo30, jo31, jl29, jg31] at c8)
              (try simp (disch := omega) only [jw1, jw2, jw3, jw4, jo10, jo11, jo28, jo30, jo31, jl29, jg31] at c14)
              (try simp (disch := omega) only [jw1, jw2, jw3, jw4, jo10, jo11, jo28, jo30, jo31, jl29, jg31] at c19)
              (try simp (disch := omega) only [jw1, jw2, jw3, jw4, jo10, jo11, jo28, jo30, jo31, jl29, jg31] at c36)
              (try simp (disch := omega) only [jw1, jw2, jw3, jw4, jo10, jo11, jo28, jo30, jo31, jl29, jg31] at c42)
              refine ⟨?_, rfl, rfl⟩
              first
                | (rw [show ask op wr = true from by unfold ask; simp; omega]; rfl)
                | (rw [show ask op wr = false from by unfold ask; simp; omega]; rfl)
            · refine gi_iload_n (q := 46) (i := 1) C (dm_Mo_asks 24 rfl) rfl rfl rfl ?_
              refine gi_bipush (q := 48) (v := 31) C (dm_Mo_asks 25 rfl) rfl (by decide) ?_
              refine gi_icmp_eq (q := 51) (tgt := 62) C (dm_Mo_asks 26 rfl) rfl (by decide) (fun c48 => ?_) (fun c48 => ?_)
              · refine gi_iconst (q := 63) (v := 1) C (dm_Mo_asks 33 rfl) rfl (by decide) ?_
                refine gi_goto (tgt := 67) C (dm_Mo_asks 34 rfl) (by decide) ?_
                refine gi_zret C hr (dm_Mo_asks 36 rfl) rfl ?_
                (try simp (disch := omega) only [jw1, jw2, jw3, jw4, jo10, jo11, jo28, jo30, jo31, jl29, jg31] at c2)
                (try simp (disch := omega) only [jw1, jw2, jw3, jw4, jo10, jo11, jo28, jo30, jo31, jl29, jg31] at c8)
                (try simp (disch := omega) only [jw1, jw2, jw3, jw4, jo10, jo11, jo28, jo30, jo31, jl29, jg31] at c14)
                (try simp (disch := omega) only [jw1, jw2, jw3, jw4, jo10, jo11, jo28, jo30, jo31, jl29, jg31] at c19)
                (try simp (disch := omega) only [jw1, jw2, jw3, jw4, jo10, jo11, jo28, jo30, jo31, jl29, jg31] at c36)
                (try simp (disch := omega) only [jw1, jw2, jw3, jw4, jo10, jo11, jo28, jo30, jo31, jl29, jg31] at c42)
                (try simp (disch := omega) only [jw1, jw2, jw3, jw4, jo10, jo11, jo28, jo30, jo31, jl29, jg31] at c48)
                refine ⟨?_, rfl, rfl⟩
                first
                  | (rw [show ask op wr = true from by unfold ask; simp; omega]; rfl)
                  | (rw [show ask op wr = false from by unfold ask; simp; omega]; rfl)
              · refine gi_iload_n (q := 52) (i := 2) C (dm_Mo_asks 27 rfl) rfl rfl rfl ?_
                refine gi_iconst (q := 53) (v := 4) C (dm_Mo_asks 28 rfl) rfl (by decide) ?_
                refine gi_icmp_ne (q := 56) (tgt := 66) C (dm_Mo_asks 29 rfl) rfl (by decide) (fun c53 => ?_) (fun c53 => ?_)
                · refine gi_iconst (q := 67) (v := 0) C (dm_Mo_asks 35 rfl) rfl (by decide) ?_
                  refine gi_zret C hr (dm_Mo_asks 36 rfl) rfl ?_
                  (try simp (disch := omega) only [jw1, jw2, jw3, jw4, jo10, jo11, jo28, jo30, jo31, jl29, jg31] at c2)
                  (try simp (disch := omega) only [jw1, jw2, jw3, jw4, jo10, jo11, jo28, jo30, jo31, jl29, jg31] at c8)
                  (try simp (disch := omega) only [jw1, jw2, jw3, jw4, jo10, jo11, jo28, jo30, jo31, jl29, jg31] at c14)
                  (try simp (disch := omega) only [jw1, jw2, jw3, jw4, jo10, jo11, jo28, jo30, jo31, jl29, jg31] at c19)
                  (try simp (disch := omega) only [jw1, jw2, jw3, jw4, jo10, jo11, jo28, jo30, jo31, jl29, jg31] at c36)
                  (try simp (disch := omega) only [jw1, jw2, jw3, jw4, jo10, jo11, jo28, jo30, jo31, jl29, jg31] at c42)
                  (try simp (disch := omega) only [jw1, jw2, jw3, jw4, jo10, jo11, jo28, jo30, jo31, jl29, jg31] at c48)
                  (try simp (disch := omega) only [jw1, jw2, jw3, jw4, jo10, jo11, jo28, jo30, jo31, jl29, jg31] at c53)
                  refine ⟨?_, rfl, rfl⟩
                  first
                    | (rw [show ask op wr = true from by unfold ask; simp; omega]; rfl)
                    | (rw [show ask op wr = false from by unfold ask; simp; omega]; rfl)
                · refine gi_iload_n (q := 57) (i := 1) C (dm_Mo_asks 30 rfl) rfl rfl rfl ?_
                  refine gi_bipush (q := 59) (v := 28) C (dm_Mo_asks 31 rfl) rfl (by decide) ?_
                  refine gi_icmp_ne (q := 62) (tgt := 66) C (dm_Mo_asks 32 rfl) rfl (by decide) (fun c59 => ?_) (fun c59 => ?_)
                  · refine gi_iconst (q := 67) (v := 0) C (dm_Mo_asks 35 rfl) rfl (by decide) ?_
                    refine gi_zret C hr (dm_Mo_asks 36 rfl) rfl ?_
                    (try simp (disch := omega) only [jw1, jw2, jw3, jw4, jo10, jo11, jo28, jo30, jo31, jl29, jg31] at c2)
                    (try simp (disch := omega) only [jw1, jw2, jw3, jw4, jo10, jo11, jo28, jo30, jo31, jl29, jg31] at c8)
                    (try simp (disch := omega) only [jw1, jw2, jw3, jw4, jo10, jo11, jo28, jo30, jo31, jl29, jg31] at c14)
                    (try simp (disch := omega) only [jw1, jw2, jw3, jw4, jo10, jo11, jo28, jo30, jo31, jl29, jg31] at c19)
                    (try simp (disch := omega) only [jw1, jw2, jw3, jw4, jo10, jo11, jo28, jo30, jo31, jl29, jg31] at c36)
                    (try simp (disch := omega) only [jw1, jw2, jw3, jw4, jo10, jo11, jo28, jo30, jo31, jl29, jg31] at c42)
                    (try simp (disch := omega) only [jw1, jw2, jw3, jw4, jo10, jo11, jo28, jo30, jo31, jl29, jg31] at c48)
                    (try simp (disch := omega) only [jw1, jw2, jw3, jw4, jo10, jo11, jo28, jo30, jo31, jl29, jg31] at c53)
                    (try simp (disch := omega) only [jw1, jw2, jw3, jw4, jo10, jo11, jo28, jo30, jo31, jl29, jg31] at c59)
                    refine ⟨?_, rfl, rfl⟩
                    first
                      | (rw [show ask op wr = true from by unfold ask; simp; omega]; rfl)
                      | (rw [show ask op wr = false from by unfold ask; simp; omega]; rfl)
                  · refine gi_iconst (q := 63) (v := 1) C (dm_Mo_asks 33 rfl) rfl (by decide) ?_
                    refine gi_goto (tgt := 67) C (dm_Mo_asks 34 rfl) (by decide) ?_
                    refine gi_zret C hr (dm_Mo_asks 36 rfl) rfl ?_
                    (try simp (disch := omega) only [jw1, jw2, jw3, jw4, jo10, jo11, jo28, jo30, jo31, jl29, jg31] at c2)
                    (try simp (disch := omega) only [jw1, jw2, jw3, jw4, jo10, jo11, jo28, jo30, jo31, jl29, jg31] at c8)
                    (try simp (disch := omega) only [jw1, jw2, jw3, jw4, jo10, jo11, jo28, jo30, jo31, jl29, jg31] at c14)
                    (try simp (disch := omega) only [jw1, jw2, jw3, jw4, jo10, jo11, jo28, jo30, jo31, jl29, jg31] at c19)
                    (try simp (disch := omega) only [jw1, jw2, jw3, jw4, jo10, jo11, jo28, jo30, jo31, jl29, jg31] at c36)
                    (try simp (disch := omega) only [jw1, jw2, jw3, jw4, jo10, jo11, jo28, jo30, jo31, jl29, jg31] at c42)
                    (try simp (disch := omega) only [jw1, jw2, jw3, jw4, jo10, jo11, jo28, jo30, jo31, jl29, jg31] at c48)
                    (try simp (disch := omega) only [jw1, jw2, jw3, jw4, jo10, jo11, jo28, jo30, jo31, jl29, jg31] at c53)
                    (try simp (disch := omega) only [jw1, jw2, jw3, jw4, jo10, jo11, jo28, jo30, jo31, jl29, jg31] at c59)
                    refine ⟨?_, rfl, rfl⟩
                    first
                      | (rw [show ask op wr = true from by unfold ask; simp; omega]; rfl)
                      | (rw [show ask op wr = false from by unfold ask; simp; omega]; rfl)
        · refine gi_iload_n (q := 23) (i := 1) C (dm_Mo_asks 12 rfl) rfl rfl rfl ?_
          refine gi_bipush (q := 25) (v := 29) C (dm_Mo_asks 13 rfl) rfl (by decide) ?_
          refine gi_icmp_lt (q := 28) (tgt := 34) C (dm_Mo_asks 14 rfl) rfl (by decide) (fun c25 => ?_) (fun c25 => ?_)
          · refine gi_iload_n (q := 35) (i := 2) C (dm_Mo_asks 18 rfl) rfl rfl rfl ?_
            refine gi_iconst (q := 36) (v := 3) C (dm_Mo_asks 19 rfl) rfl (by decide) ?_
            refine gi_icmp_ne (q := 39) (tgt := 51) C (dm_Mo_asks 20 rfl) rfl (by decide) (fun c36 => ?_) (fun c36 => ?_)
            · refine gi_iload_n (q := 52) (i := 2) C (dm_Mo_asks 27 rfl) rfl rfl rfl ?_
              refine gi_iconst (q := 53) (v := 4) C (dm_Mo_asks 28 rfl) rfl (by decide) ?_
              refine gi_icmp_ne (q := 56) (tgt := 66) C (dm_Mo_asks 29 rfl) rfl (by decide) (fun c53 => ?_) (fun c53 => ?_)
              · refine gi_iconst (q := 67) (v := 0) C (dm_Mo_asks 35 rfl) rfl (by decide) ?_
                refine gi_zret C hr (dm_Mo_asks 36 rfl) rfl ?_
                (try simp (disch := omega) only [jw1, jw2, jw3, jw4, jo10, jo11, jo28, jo30, jo31, jl29, jg31] at c2)
                (try simp (disch := omega) only [jw1, jw2, jw3, jw4, jo10, jo11, jo28, jo30, jo31, jl29, jg31] at c8)
                (try simp (disch := omega) only [jw1, jw2, jw3, jw4, jo10, jo11, jo28, jo30, jo31, jl29, jg31] at c14)
                (try simp (disch := omega) only [jw1, jw2, jw3, jw4, jo10, jo11, jo28, jo30, jo31, jl29, jg31] at c19)
                (try simp (disch := omega) only [jw1, jw2, jw3, jw4, jo10, jo11, jo28, jo30, jo31, jl29, jg31] at c25)
                (try simp (disch := omega) only [jw1, jw2, jw3, jw4, jo10, jo11, jo28, jo30, jo31, jl29, jg31] at c36)
                (try simp (disch := omega) only [jw1, jw2, jw3, jw4, jo10, jo11, jo28, jo30, jo31, jl29, jg31] at c53)
                refine ⟨?_, rfl, rfl⟩
                first
                  | (rw [show ask op wr = true from by unfold ask; simp; omega]; rfl)
                  | (rw [show ask op wr = false from by unfold ask; simp; omega]; rfl)
              · refine gi_iload_n (q := 57) (i := 1) C (dm_Mo_asks 30 rfl) rfl rfl rfl ?_
                refine gi_bipush (q := 59) (v := 28) C (dm_Mo_asks 31 rfl) rfl (by decide) ?_
                refine gi_icmp_ne (q := 62) (tgt := 66) C (dm_Mo_asks 32 rfl) rfl (by decide) (fun c59 => ?_) (fun c59 => ?_)
                · refine gi_iconst (q := 67) (v := 0) C (dm_Mo_asks 35 rfl) rfl (by decide) ?_
                  refine gi_zret C hr (dm_Mo_asks 36 rfl) rfl ?_
                  (try simp (disch := omega) only [jw1, jw2, jw3, jw4, jo10, jo11, jo28, jo30, jo31, jl29, jg31] at c2)
                  (try simp (disch := omega) only [jw1, jw2, jw3, jw4, jo10, jo11, jo28, jo30, jo31, jl29, jg31] at c8)
                  (try simp (disch := omega) only [jw1, jw2, jw3, jw4, jo10, jo11, jo28, jo30, jo31, jl29, jg31] at c14)
                  (try simp (disch := omega) only [jw1, jw2, jw3, jw4, jo10, jo11, jo28, jo30, jo31, jl29, jg31] at c19)
                  (try simp (disch := omega) only [jw1, jw2, jw3, jw4, jo10, jo11, jo28, jo30, jo31, jl29, jg31] at c25)
                  (try simp (disch := omega) only [jw1, jw2, jw3, jw4, jo10, jo11, jo28, jo30, jo31, jl29, jg31] at c36)
                  (try simp (disch := omega) only [jw1, jw2, jw3, jw4, jo10, jo11, jo28, jo30, jo31, jl29, jg31] at c53)
                  (try simp (disch := omega) only [jw1, jw2, jw3, jw4, jo10, jo11, jo28, jo30, jo31, jl29, jg31] at c59)
                  refine ⟨?_, rfl, rfl⟩
                  first
                    | (rw [show ask op wr = true from by unfold ask; simp; omega]; rfl)
                    | (rw [show ask op wr = false from by unfold ask; simp; omega]; rfl)
                · refine gi_iconst (q := 63) (v := 1) C (dm_Mo_asks 33 rfl) rfl (by decide) ?_
                  refine gi_goto (tgt := 67) C (dm_Mo_asks 34 rfl) (by decide) ?_
                  refine gi_zret C hr (dm_Mo_asks 36 rfl) rfl ?_
                  (try simp (disch := omega) only [jw1, jw2, jw3, jw4, jo10, jo11, jo28, jo30, jo31, jl29, jg31] at c2)
                  (try simp (disch := omega) only [jw1, jw2, jw3, jw4, jo10, jo11, jo28, jo30, jo31, jl29, jg31] at c8)
                  (try simp (disch := omega) only [jw1, jw2, jw3, jw4, jo10, jo11, jo28, jo30, jo31, jl29, jg31] at c14)
                  (try simp (disch := omega) only [jw1, jw2, jw3, jw4, jo10, jo11, jo28, jo30, jo31, jl29, jg31] at c19)
                  (try simp (disch := omega) only [jw1, jw2, jw3, jw4, jo10, jo11, jo28, jo30, jo31, jl29, jg31] at c25)
                  (try simp (disch := omega) only [jw1, jw2, jw3, jw4, jo10, jo11, jo28, jo30, jo31, jl29, jg31] at c36)
                  (try simp (disch := omega) only [jw1, jw2, jw3, jw4, jo10, jo11, jo28, jo30, jo31, jl29, jg31] at c53)
                  (try simp (disch := omega) only [jw1, jw2, jw3, jw4, jo10, jo11, jo28, jo30, jo31, jl29, jg31] at c59)
                  refine ⟨?_, rfl, rfl⟩
                  first
                    | (rw [show ask op wr = true from by unfold ask; simp; omega]; rfl)
                    | (rw [show ask op wr = false from by unfold ask; simp; omega]; rfl)
            · refine gi_iload_n (q := 40) (i := 1) C (dm_Mo_asks 21 rfl) rfl rfl rfl ?_
              refine gi_bipush (q := 42) (v := 30) C (dm_Mo_asks 22 rfl) rfl (by decide) ?_
              refine gi_icmp_eq (q := 45) (tgt := 62) C (dm_Mo_asks 23 rfl) rfl (by decide) (fun c42 => ?_) (fun c42 => ?_)
              · refine gi_iconst (q := 63) (v := 1) C (dm_Mo_asks 33 rfl) rfl (by decide) ?_
                refine gi_goto (tgt := 67) C (dm_Mo_asks 34 rfl) (by decide) ?_
                refine gi_zret C hr (dm_Mo_asks 36 rfl) rfl ?_
                (try simp (disch := omega) only [jw1, jw2, jw3, jw4, jo10, jo11, jo28, jo30, jo31, jl29, jg31] at c2)
                (try simp (disch := omega) only [jw1, jw2, jw3, jw4, jo10, jo11, jo28, jo30, jo31, jl29, jg31] at c8)
                (try simp (disch := omega) only [jw1, jw2, jw3, jw4, jo10, jo11, jo28, jo30, jo31, jl29, jg31] at c14)
                (try simp (disch := omega) only [jw1, jw2, jw3, jw4, jo10, jo11, jo28, jo30, jo31, jl29, jg31] at c19)
                (try simp (disch := omega) only [jw1, jw2, jw3, jw4, jo10, jo11, jo28, jo30, jo31, jl29, jg31] at c25)
                (try simp (disch := omega) only [jw1, jw2, jw3, jw4, jo10, jo11, jo28, jo30, jo31, jl29, jg31] at c36)
                (try simp (disch := omega) only [jw1, jw2, jw3, jw4, jo10, jo11, jo28, jo30, jo31, jl29, jg31] at c42)
                refine ⟨?_, rfl, rfl⟩
                first
                  | (rw [show ask op wr = true from by unfold ask; simp; omega]; rfl)
                  | (rw [show ask op wr = false from by unfold ask; simp; omega]; rfl)
              · refine gi_iload_n (q := 46) (i := 1) C (dm_Mo_asks 24 rfl) rfl rfl rfl ?_
                refine gi_bipush (q := 48) (v := 31) C (dm_Mo_asks 25 rfl) rfl (by decide) ?_
                refine gi_icmp_eq (q := 51) (tgt := 62) C (dm_Mo_asks 26 rfl) rfl (by decide) (fun c48 => ?_) (fun c48 => ?_)
                · refine gi_iconst (q := 63) (v := 1) C (dm_Mo_asks 33 rfl) rfl (by decide) ?_
                  refine gi_goto (tgt := 67) C (dm_Mo_asks 34 rfl) (by decide) ?_
                  refine gi_zret C hr (dm_Mo_asks 36 rfl) rfl ?_
                  (try simp (disch := omega) only [jw1, jw2, jw3, jw4, jo10, jo11, jo28, jo30, jo31, jl29, jg31] at c2)
                  (try simp (disch := omega) only [jw1, jw2, jw3, jw4, jo10, jo11, jo28, jo30, jo31, jl29, jg31] at c8)
                  (try simp (disch := omega) only [jw1, jw2, jw3, jw4, jo10, jo11, jo28, jo30, jo31, jl29, jg31] at c14)
                  (try simp (disch := omega) only [jw1, jw2, jw3, jw4, jo10, jo11, jo28, jo30, jo31, jl29, jg31] at c19)
                  (try simp (disch := omega) only [jw1, jw2, jw3, jw4, jo10, jo11, jo28, jo30, jo31, jl29, jg31] at c25)
                  (try simp (disch := omega) only [jw1, jw2, jw3, jw4, jo10, jo11, jo28, jo30, jo31, jl29, jg31] at c36)
                  (try simp (disch := omega) only [jw1, jw2, jw3, jw4, jo10, jo11, jo28, jo30, jo31, jl29, jg31] at c42)
                  (try simp (disch := omega) only [jw1, jw2, jw3, jw4, jo10, jo11, jo28, jo30, jo31, jl29, jg31] at c48)
                  refine ⟨?_, rfl, rfl⟩
                  first
                    | (rw [show ask op wr = true from by unfold ask; simp; omega]; rfl)
                    | (rw [show ask op wr = false from by unfold ask; simp; omega]; rfl)
                · refine gi_iload_n (q := 52) (i := 2) C (dm_Mo_asks 27 rfl) rfl rfl rfl ?_
                  refine gi_iconst (q := 53) (v := 4) C (dm_Mo_asks 28 rfl) rfl (by decide) ?_
                  refine gi_icmp_ne (q := 56) (tgt := 66) C (dm_Mo_asks 29 rfl) rfl (by decide) (fun c53 => ?_) (fun c53 => ?_)
                  · refine gi_iconst (q := 67) (v := 0) C (dm_Mo_asks 35 rfl) rfl (by decide) ?_
                    refine gi_zret C hr (dm_Mo_asks 36 rfl) rfl ?_
                    (try simp (disch := omega) only [jw1, jw2, jw3, jw4, jo10, jo11, jo28, jo30, jo31, jl29, jg31] at c2)
                    (try simp (disch := omega) only [jw1, jw2, jw3, jw4, jo10, jo11, jo28, jo30, jo31, jl29, jg31] at c8)
                    (try simp (disch := omega) only [jw1, jw2, jw3, jw4, jo10, jo11, jo28, jo30, jo31, jl29, jg31] at c14)
                    (try simp (disch := omega) only [jw1, jw2, jw3, jw4, jo10, jo11, jo28, jo30, jo31, jl29, jg31] at c19)
                    (try simp (disch := omega) only [jw1, jw2, jw3, jw4, jo10, jo11, jo28, jo30, jo31, jl29, jg31] at c25)
                    (try simp (disch := omega) only [jw1, jw2, jw3, jw4, jo10, jo11, jo28, jo30, jo31, jl29, jg31] at c36)
                    (try simp (disch := omega) only [jw1, jw2, jw3, jw4, jo10, jo11, jo28, jo30, jo31, jl29, jg31] at c42)
                    (try simp (disch := omega) only [jw1, jw2, jw3, jw4, jo10, jo11, jo28, jo30, jo31, jl29, jg31] at c48)
                    (try simp (disch := omega) only [jw1, jw2, jw3, jw4, jo10, jo11, jo28, jo30, jo31, jl29, jg31] at c53)
                    refine ⟨?_, rfl, rfl⟩
                    first
                      | (rw [show ask op wr = true from by unfold ask; simp; omega]; rfl)
                      | (rw [show ask op wr = false from by unfold ask; simp; omega]; rfl)
                  · refine gi_iload_n (q := 57) (i := 1) C (dm_Mo_asks 30 rfl) rfl rfl rfl ?_
                    refine gi_bipush (q := 59) (v := 28) C (dm_Mo_asks 31 rfl) rfl (by decide) ?_
                    refine gi_icmp_ne (q := 62) (tgt := 66) C (dm_Mo_asks 32 rfl) rfl (by decide) (fun c59 => ?_) (fun c59 => ?_)
                    · refine gi_iconst (q := 67) (v := 0) C (dm_Mo_asks 35 rfl) rfl (by decide) ?_
                      refine gi_zret C hr (dm_Mo_asks 36 rfl) rfl ?_
                      (try simp (disch := omega) only [jw1, jw2, jw3, jw4, jo10, jo11, jo28, jo30, jo31, jl29, jg31] at c2)
                      (try simp (disch := omega) only [jw1, jw2, jw3, jw4, jo10, jo11, jo28, jo30, jo31, jl29, jg31] at c8)
                      (try simp (disch := omega) only [jw1, jw2, jw3, jw4, jo10, jo11, jo28, jo30, jo31, jl29, jg31] at c14)
                      (try simp (disch := omega) only [jw1, jw2, jw3, jw4, jo10, jo11, jo28, jo30, jo31, jl29, jg31] at c19)
                      (try simp (disch := omega) only [jw1, jw2, jw3, jw4, jo10, jo11, jo28, jo30, jo31, jl29, jg31] at c25)
                      (try simp (disch := omega) only [jw1, jw2, jw3, jw4, jo10, jo11, jo28, jo30, jo31, jl29, jg31] at c36)
                      (try simp (disch := omega) only [jw1, jw2, jw3, jw4, jo10, jo11, jo28, jo30, jo31, jl29, jg31] at c42)
                      (try simp (disch := omega) only [jw1, jw2, jw3, jw4, jo10, jo11, jo28, jo30, jo31, jl29, jg31] at c48)
                      (try simp (disch := omega) only [jw1, jw2, jw3, jw4, jo10, jo11, jo28, jo30, jo31, jl29, jg31] at c53)
                      (try simp (disch := omega) only [jw1, jw2, jw3, jw4, jo10, jo11, jo28, jo30, jo31, jl29, jg31] at c59)
                      refine ⟨?_, rfl, rfl⟩
                      first
                        | (rw [show ask op wr = true from by unfold ask; simp; omega]; rfl)
                        | (rw [show ask op wr = false from by unfold ask; simp; omega]; rfl)
                    · refine gi_iconst (q := 63) (v := 1) C (dm_Mo_asks 33 rfl) rfl (by decide) ?_
                      refine gi_goto (tgt := 67) C (dm_Mo_asks 34 rfl) (by decide) ?_
                      refine gi_zret C hr (dm_Mo_asks 36 rfl) rfl ?_
                      (try simp (disch := omega) only [jw1, jw2, jw3, jw4, jo10, jo11, jo28, jo30, jo31, jl29, jg31] at c2)
                      (try simp (disch := omega) only [jw1, jw2, jw3, jw4, jo10, jo11, jo28, jo30, jo31, jl29, jg31] at c8)
                      (try simp (disch := omega) only [jw1, jw2, jw3, jw4, jo10, jo11, jo28, jo30, jo31, jl29, jg31] at c14)
                      (try simp (disch := omega) only [jw1, jw2, jw3, jw4, jo10, jo11, jo28, jo30, jo31, jl29, jg31] at c19)
                      (try simp (disch := omega) only [jw1, jw2, jw3, jw4, jo10, jo11, jo28, jo30, jo31, jl29, jg31] at c25)
                      (try simp (disch := omega) only [jw1, jw2, jw3, jw4, jo10, jo11, jo28, jo30, jo31, jl29, jg31] at c36)
                      (try simp (disch := omega) only [jw1, jw2, jw3, jw4, jo10, jo11, jo28, jo30, jo31, jl29, jg31] at c42)
                      (try simp (disch := omega) only [jw1, jw2, jw3, jw4, jo10, jo11, jo28, jo30, jo31, jl29, jg31] at c48)
                      (try simp (disch := omega) only [jw1, jw2, jw3, jw4, jo10, jo11, jo28, jo30, jo31, jl29, jg31] at c53)
                      (try simp (disch := omega) only [jw1, jw2, jw3, jw4, jo10, jo11, jo28, jo30, jo31, jl29, jg31] at c59)
                      refine ⟨?_, rfl, rfl⟩
                      first
                        | (rw [show ask op wr = true from by unfold ask; simp; omega]; rfl)
                        | (rw [show ask op wr = false from by unfold ask; simp; omega]; rfl)
          · refine gi_iload_n (q := 29) (i := 1) C (dm_Mo_asks 15 rfl) rfl rfl rfl ?_
            refine gi_bipush (q := 31) (v := 31) C (dm_Mo_asks 16 rfl) rfl (by decide) ?_
            refine gi_icmp_le (q := 34) (tgt := 62) C (dm_Mo_asks 17 rfl) rfl (by decide) (fun c31 => ?_) (fun c31 => ?_)
            · refine gi_iconst (q := 63) (v := 1) C (dm_Mo_asks 33 rfl) rfl (by decide) ?_
              refine gi_goto (tgt := 67) C (dm_Mo_asks 34 rfl) (by decide) ?_
              refine gi_zret C hr (dm_Mo_asks 36 rfl) rfl ?_
              (try simp (disch := omega) only [jw1, jw2, jw3, jw4, jo10, jo11, jo28, jo30, jo31, jl29, jg31] at c2)
              (try simp (disch := omega) only [jw1, jw2, jw3, jw4, jo10, jo11, jo28, jo30, jo31, jl29, jg31] at c8)
              (try simp (disch := omega) only [jw1, jw2, jw3, jw4, jo10, jo11, jo28, jo30, jo31, jl29, jg31] at c14)
              (try simp (disch := omega) only [jw1, jw2, jw3, jw4, jo10, jo11, jo28, jo30, jo31, jl29, jg31] at c19)
              (try simp (disch := omega) only [jw1, jw2, jw3, jw4, jo10, jo11, jo28, jo30, jo31, jl29, jg31] at c25)
              (try simp (disch := omega) only [jw1, jw2, jw3, jw4, jo10, jo11, jo28, jo30, jo31, jl29, jg31] at c31)
              refine ⟨?_, rfl, rfl⟩
              first
                | (rw [show ask op wr = true from by unfold ask; simp; omega]; rfl)
                | (rw [show ask op wr = false from by unfold ask; simp; omega]; rfl)
            · refine gi_iload_n (q := 35) (i := 2) C (dm_Mo_asks 18 rfl) rfl rfl rfl ?_
              refine gi_iconst (q := 36) (v := 3) C (dm_Mo_asks 19 rfl) rfl (by decide) ?_
              refine gi_icmp_ne (q := 39) (tgt := 51) C (dm_Mo_asks 20 rfl) rfl (by decide) (fun c36 => ?_) (fun c36 => ?_)
              · refine gi_iload_n (q := 52) (i := 2) C (dm_Mo_asks 27 rfl) rfl rfl rfl ?_
                refine gi_iconst (q := 53) (v := 4) C (dm_Mo_asks 28 rfl) rfl (by decide) ?_
                refine gi_icmp_ne (q := 56) (tgt := 66) C (dm_Mo_asks 29 rfl) rfl (by decide) (fun c53 => ?_) (fun c53 => ?_)
                · refine gi_iconst (q := 67) (v := 0) C (dm_Mo_asks 35 rfl) rfl (by decide) ?_
                  refine gi_zret C hr (dm_Mo_asks 36 rfl) rfl ?_
                  (try simp (disch := omega) only [jw1, jw2, jw3, jw4, jo10, jo11, jo28, jo30, jo31, jl29, jg31] at c2)
                  (try simp (disch := omega) only [jw1, jw2, jw3, jw4, jo10, jo11, jo28, jo30, jo31, jl29, jg31] at c8)
                  (try simp (disch := omega) only [jw1, jw2, jw3, jw4, jo10, jo11, jo28, jo30, jo31, jl29, jg31] at c14)
                  (try simp (disch := omega) only [jw1, jw2, jw3, jw4, jo10, jo11, jo28, jo30, jo31, jl29, jg31] at c19)
                  (try simp (disch := omega) only [jw1, jw2, jw3, jw4, jo10, jo11, jo28, jo30, jo31, jl29, jg31] at c25)
                  (try simp (disch := omega) only [jw1, jw2, jw3, jw4, jo10, jo11, jo28, jo30, jo31, jl29, jg31] at c31)
                  (try simp (disch := omega) only [jw1, jw2, jw3, jw4, jo10, jo11, jo28, jo30, jo31, jl29, jg31] at c36)
                  (try simp (disch := omega) only [jw1, jw2, jw3, jw4, jo10, jo11, jo28, jo30, jo31, jl29, jg31] at c53)
                  refine ⟨?_, rfl, rfl⟩
                  first
                    | (rw [show ask op wr = true from by unfold ask; simp; omega]; rfl)
                    | (rw [show ask op wr = false from by unfold ask; simp; omega]; rfl)
                · refine gi_iload_n (q := 57) (i := 1) C (dm_Mo_asks 30 rfl) rfl rfl rfl ?_
                  refine gi_bipush (q := 59) (v := 28) C (dm_Mo_asks 31 rfl) rfl (by decide) ?_
                  refine gi_icmp_ne (q := 62) (tgt := 66) C (dm_Mo_asks 32 rfl) rfl (by decide) (fun c59 => ?_) (fun c59 => ?_)
                  · refine gi_iconst (q := 67) (v := 0) C (dm_Mo_asks 35 rfl) rfl (by decide) ?_
                    refine gi_zret C hr (dm_Mo_asks 36 rfl) rfl ?_
                    (try simp (disch := omega) only [jw1, jw2, jw3, jw4, jo10, jo11, jo28, jo30, jo31, jl29, jg31] at c2)
                    (try simp (disch := omega) only [jw1, jw2, jw3, jw4, jo10, jo11, jo28, jo30, jo31, jl29, jg31] at c8)
                    (try simp (disch := omega) only [jw1, jw2, jw3, jw4, jo10, jo11, jo28, jo30, jo31, jl29, jg31] at c14)
                    (try simp (disch := omega) only [jw1, jw2, jw3, jw4, jo10, jo11, jo28, jo30, jo31, jl29, jg31] at c19)
                    (try simp (disch := omega) only [jw1, jw2, jw3, jw4, jo10, jo11, jo28, jo30, jo31, jl29, jg31] at c25)
                    (try simp (disch := omega) only [jw1, jw2, jw3, jw4, jo10, jo11, jo28, jo30, jo31, jl29, jg31] at c31)
                    (try simp (disch := omega) only [jw1, jw2, jw3, jw4, jo10, jo11, jo28, jo30, jo31, jl29, jg31] at c36)
                    (try simp (disch := omega) only [jw1, jw2, jw3, jw4, jo10, jo11, jo28, jo30, jo31, jl29, jg31] at c53)
                    (try simp (disch := omega) only [jw1, jw2, jw3, jw4, jo10, jo11, jo28, jo30, jo31, jl29, jg31] at c59)
                    refine ⟨?_, rfl, rfl⟩
                    first
                      | (rw [show ask op wr = true from by unfold ask; simp; omega]; rfl)
                      | (rw [show ask op wr = false from by unfold ask; simp; omega]; rfl)
                  · refine gi_iconst (q := 63) (v := 1) C (dm_Mo_asks 33 rfl) rfl (by decide) ?_
                    refine gi_goto (tgt := 67) C (dm_Mo_asks 34 rfl) (by decide) ?_
                    refine gi_zret C hr (dm_Mo_asks 36 rfl) rfl ?_
                    (try simp (disch := omega) only [jw1, jw2, jw3, jw4, jo10, jo11, jo28, jo30, jo31, jl29, jg31] at c2)
                    (try simp (disch := omega) only [jw1, jw2, jw3, jw4, jo10, jo11, jo28, jo30, jo31, jl29, jg31] at c8)
                    (try simp (disch := omega) only [jw1, jw2, jw3, jw4, jo10, jo11, jo28, jo30, jo31, jl29, jg31] at c14)
                    (try simp (disch := omega) only [jw1, jw2, jw3, jw4, jo10, jo11, jo28, jo30, jo31, jl29, jg31] at c19)
                    (try simp (disch := omega) only [jw1, jw2, jw3, jw4, jo10, jo11, jo28, jo30, jo31, jl29, jg31] at c25)
                    (try simp (disch := omega) only [jw1, jw2, jw3, jw4, jo10, jo11, jo28, jo30, jo31, jl29, jg31] at c31)
                    (try simp (disch := omega) only [jw1, jw2, jw3, jw4, jo10, jo11, jo28, jo30, jo31, jl29, jg31] at c36)
                    (try simp (disch := omega) only [jw1, jw2, jw3, jw4, jo10, jo11, jo28, jo30, jo31, jl29, jg31] at c53)
                    (try simp (disch := omega) only [jw1, jw2, jw3, jw4, jo10, jo11, jo28, jo30, jo31, jl29, jg31] at c59)
                    refine ⟨?_, rfl, rfl⟩
                    first
                      | (rw [show ask op wr = true from by unfold ask; simp; omega]; rfl)
                      | (rw [show ask op wr = false from by unfold ask; simp; omega]; rfl)
              · refine gi_iload_n (q := 40) (i := 1) C (dm_Mo_asks 21 rfl) rfl rfl rfl ?_
                refine gi_bipush (q := 42) (v := 30) C (dm_Mo_asks 22 rfl) rfl (by decide) ?_
                refine gi_icmp_eq (q := 45) (tgt := 62) C (dm_Mo_asks 23 rfl) rfl (by decide) (fun c42 => ?_) (fun c42 => ?_)
                · refine gi_iconst (q := 63) (v := 1) C (dm_Mo_asks 33 rfl) rfl (by decide) ?_
                  refine gi_goto (tgt := 67) C (dm_Mo_asks 34 rfl) (by decide) ?_
                  refine gi_zret C hr (dm_Mo_asks 36 rfl) rfl ?_
                  (try simp (disch := omega) only [jw1, jw2, jw3, jw4, jo10, jo11, jo28, jo30, jo31, jl29, jg31] at c2)
                  (try simp (disch := omega) only [jw1, jw2, jw3, jw4, jo10, jo11, jo28, jo30, jo31, jl29, jg31] at c8)
                  (try simp (disch := omega) only [jw1, jw2, jw3, jw4, jo10, jo11, jo28, jo30, jo31, jl29, jg31] at c14)
                  (try simp (disch := omega) only [jw1, jw2, jw3, jw4, jo10, jo11, jo28, jo30, jo31, jl29, jg31] at c19)
                  (try simp (disch := omega) only [jw1, jw2, jw3, jw4, jo10, jo11, jo28, jo30, jo31, jl29, jg31] at c25)
                  (try simp (disch := omega) only [jw1, jw2, jw3, jw4, jo10, jo11, jo28, jo30, jo31, jl29, jg31] at c31)
                  (try simp (disch := omega) only [jw1, jw2, jw3, jw4, jo10, jo11, jo28, jo30, jo31, jl29, jg31] at c36)
                  (try simp (disch := omega) only [jw1, jw2, jw3, jw4, jo10, jo11, jo28, jo30, jo31, jl29, jg31] at c42)
                  refine ⟨?_, rfl, rfl⟩
                  first
                    | (rw [show ask op wr = true from by unfold ask; simp; omega]; rfl)
                    | (rw [show ask op wr = false from by unfold ask; simp; omega]; rfl)
                · refine gi_iload_n (q := 46) (i := 1) C (dm_Mo_asks 24 rfl) rfl rfl rfl ?_
                  refine gi_bipush (q := 48) (v := 31) C (dm_Mo_asks 25 rfl) rfl (by decide) ?_
                  refine gi_icmp_eq (q := 51) (tgt := 62) C (dm_Mo_asks 26 rfl) rfl (by decide) (fun c48 => ?_) (fun c48 => ?_)
                  · refine gi_iconst (q := 63) (v := 1) C (dm_Mo_asks 33 rfl) rfl (by decide) ?_
                    refine gi_goto (tgt := 67) C (dm_Mo_asks 34 rfl) (by decide) ?_
                    refine gi_zret C hr (dm_Mo_asks 36 rfl) rfl ?_
                    (try simp (disch := omega) only [jw1, jw2, jw3, jw4, jo10, jo11, jo28, jo30, jo31, jl29, jg31] at c2)
                    (try simp (disch := omega) only [jw1, jw2, jw3, jw4, jo10, jo11, jo28, jo30, jo31, jl29, jg31] at c8)
                    (try simp (disch := omega) only [jw1, jw2, jw3, jw4, jo10, jo11, jo28, jo30, jo31, jl29, jg31] at c14)
                    (try simp (disch := omega) only [jw1, jw2, jw3, jw4, jo10, jo11, jo28, jo30, jo31, jl29, jg31] at c19)
                    (try simp (disch := omega) only [jw1, jw2, jw3, jw4, jo10, jo11, jo28, jo30, jo31, jl29, jg31] at c25)
                    (try simp (disch := omega) only [jw1, jw2, jw3, jw4, jo10, jo11, jo28, jo30, jo31, jl29, jg31] at c31)
                    (try simp (disch := omega) only [jw1, jw2, jw3, jw4, jo10, jo11, jo28, jo30, jo31, jl29, jg31] at c36)
                    (try simp (disch := omega) only [jw1, jw2, jw3, jw4, jo10, jo11, jo28, jo30, jo31, jl29, jg31] at c42)
                    (try simp (disch := omega) only [jw1, jw2, jw3, jw4, jo10, jo11, jo28, jo30, jo31, jl29, jg31] at c48)
                    refine ⟨?_, rfl, rfl⟩
                    first
                      | (rw [show ask op wr = true from by unfold ask; simp; omega]; rfl)
                      | (rw [show ask op wr = false from by unfold ask; simp; omega]; rfl)
                  · refine gi_iload_n (q := 52) (i := 2) C (dm_Mo_asks 27 rfl) rfl rfl rfl ?_
                    refine gi_iconst (q := 53) (v := 4) C (dm_Mo_asks 28 rfl) rfl (by decide) ?_
                    refine gi_icmp_ne (q := 56) (tgt := 66) C (dm_Mo_asks 29 rfl) rfl (by decide) (fun c53 => ?_) (fun c53 => ?_)
                    · refine gi_iconst (q := 67) (v := 0) C (dm_Mo_asks 35 rfl) rfl (by decide) ?_
                      refine gi_zret C hr (dm_Mo_asks 36 rfl) rfl ?_
                      (try simp (disch := omega) only [jw1, jw2, jw3, jw4, jo10, jo11, jo28, jo30, jo31, jl29, jg31] at c2)
                      (try simp (disch := omega) only [jw1, jw2, jw3, jw4, jo10, jo11, jo28, jo30, jo31, jl29, jg31] at c8)
                      (try simp (disch := omega) only [jw1, jw2, jw3, jw4, jo10, jo11, jo28, jo30, jo31, jl29, jg31] at c14)
                      (try simp (disch := omega) only [jw1, jw2, jw3, jw4, jo10, jo11, jo28, jo30, jo31, jl29, jg31] at c19)
                      (try simp (disch := omega) only [jw1, jw2, jw3, jw4, jo10, jo11, jo28, jo30, jo31, jl29, jg31] at c25)
                      (try simp (disch := omega) only [jw1, jw2, jw3, jw4, jo10, jo11, jo28, jo30, jo31, jl29, jg31] at c31)
                      (try simp (disch := omega) only [jw1, jw2, jw3, jw4, jo10, jo11, jo28, jo30, jo31, jl29, jg31] at c36)
                      (try simp (disch := omega) only [jw1, jw2, jw3, jw4, jo10, jo11, jo28, jo30, jo31, jl29, jg31] at c42)
                      (try simp (disch := omega) only [jw1, jw2, jw3, jw4, jo10, jo11, jo28, jo30, jo31, jl29, jg31] at c48)
                      (try simp (disch := omega) only [jw1, jw2, jw3, jw4, jo10, jo11, jo28, jo30, jo31, jl29, jg31] at c53)
                      refine ⟨?_, rfl, rfl⟩
                      first
                        | (rw [show ask op wr = true from by unfold ask; simp; omega]; rfl)
                        | (rw [show ask op wr = false from by unfold ask; simp; omega]; rfl)
                    · refine gi_iload_n (q := 57) (i := 1) C (dm_Mo_asks 30 rfl) rfl rfl rfl ?_
                      refine gi_bipush (q := 59) (v := 28) C (dm_Mo_asks 31 rfl) rfl (by decide) ?_
                      refine gi_icmp_ne (q := 62) (tgt := 66) C (dm_Mo_asks 32 rfl) rfl (by decide) (fun c59 => ?_) (fun c59 => ?_)
                      · refine gi_iconst (q := 67) (v := 0) C (dm_Mo_asks 35 rfl) rfl (by decide) ?_
                        refine gi_zret C hr (dm_Mo_asks 36 rfl) rfl ?_
                        (try simp (disch := omega) only [jw1, jw2, jw3, jw4, jo10, jo11, jo28, jo30, jo31, jl29, jg31] at c2)
                        (try simp (disch := omega) only [jw1, jw2, jw3, jw4, jo10, jo11, jo28, jo30, jo31, jl29, jg31] at c8)
                        (try simp (disch := omega) only [jw1, jw2, jw3, jw4, jo10, jo11, jo28, jo30, jo31, jl29, jg31] at c14)
                        (try simp (disch := omega) only [jw1, jw2, jw3, jw4, jo10, jo11, jo28, jo30, jo31, jl29, jg31] at c19)
                        (try simp (disch := omega) only [jw1, jw2, jw3, jw4, jo10, jo11, jo28, jo30, jo31, jl29, jg31] at c25)
                        (try simp (disch := omega) only [jw1, jw2, jw3, jw4, jo10, jo11, jo28, jo30, jo31, jl29, jg31] at c31)
                        (try simp (disch := omega) only [jw1, jw2, jw3, jw4, jo10, jo11, jo28, jo30, jo31, jl29, jg31] at c36)
                        (try simp (disch := omega) only [jw1, jw2, jw3, jw4, jo10, jo11, jo28, jo30, jo31, jl29, jg31] at c42)
                        (try simp (disch := omega) only [jw1, jw2, jw3, jw4, jo10, jo11, jo28, jo30, jo31, jl29, jg31] at c48)
                        (try simp (disch := omega) only [jw1, jw2, jw3, jw4, jo10, jo11, jo28, jo30, jo31, jl29, jg31] at c53)
                        (try simp (disch := omega) only [jw1, jw2, jw3, jw4, jo10, jo11, jo28, jo30, jo31, jl29, jg31] at c59)
                        refine ⟨?_, rfl, rfl⟩
                        first
                          | (rw [show ask op wr = true from by unfold ask; simp; omega]; rfl)
                          | (rw [show ask op wr = false from by unfold ask; simp; omega]; rfl)
                      · refine gi_iconst (q := 63) (v := 1) C (dm_Mo_asks 33 rfl) rfl (by decide) ?_
                        refine gi_goto (tgt := 67) C (dm_Mo_asks 34 rfl) (by decide) ?_
                        refine gi_zret C hr (dm_Mo_asks 36 rfl) rfl ?_
                        (try simp (disch := omega) only [jw1, jw2, jw3, jw4, jo10, jo11, jo28, jo30, jo31, jl29, jg31] at c2)
                        (try simp (disch := omega) only [jw1, jw2, jw3, jw4, jo10, jo11, jo28, jo30, jo31, jl29, jg31] at c8)
                        (try simp (disch := omega) only [jw1, jw2, jw3, jw4, jo10, jo11, jo28, jo30, jo31, jl29, jg31] at c14)
                        (try simp (disch := omega) only [jw1, jw2, jw3, jw4, jo10, jo11, jo28, jo30, jo31, jl29, jg31] at c19)
                        (try simp (disch := omega) only [jw1, jw2, jw3, jw4, jo10, jo11, jo28, jo30, jo31, jl29, jg31] at c25)
                        (try simp (disch := omega) only [jw1, jw2, jw3, jw4, jo10, jo11, jo28, jo30, jo31, jl29, jg31] at c31)
                        (try simp (disch := omega) only [jw1, jw2, jw3, jw4, jo10, jo11, jo28, jo30, jo31, jl29, jg31] at c36)
                        (try simp (disch := omega) only [jw1, jw2, jw3, jw4, jo10, jo11, jo28, jo30, jo31, jl29, jg31] at c42)
                        (try simp (disch := omega) only [jw1, jw2, jw3, jw4, jo10, jo11, jo28, jo30, jo31, jl29, jg31] at c48)
                        (try simp (disch := omega) only [jw1, jw2, jw3, jw4, jo10, jo11, jo28, jo30, jo31, jl29, jg31] at c53)
                        (try simp (disch := omega) only [jw1, jw2, jw3, jw4, jo10, jo11, jo28, jo30, jo31, jl29, jg31] at c59)
                        refine ⟨?_, rfl, rfl⟩
                        first
                          | (rw [show ask op wr = true from by unfold ask; simp; omega]; rfl)
                          | (rw [show ask op wr = false from by unfold ask; simp; omega]; rfl)
/-- of a told place: what its operation finds -/
theorem jd_f (B : Built k P sh sn wd) (hF : okF (tyF P sh) Fz) {m i : Nat} (hm : m < k) (hi : i < pN P 5 m) (tl : (Fz (60 * m + i)).told = true) : ∃ x, sh (60 * m + i) = some x ∧ x.1 ≤ 8 ∧ pN P 2 m ≤ 6 ∧ (Fz (60 * m + i)).n = pN P 2 m + x.1 ∧ (pN P 6 (60 * m + i) = 10 ∨ pN P 6 (60 * m + i) = 11 ∨ pN P 6 (60 * m + i) = 28 → 1 ≤ x.1 ∧ ∃ Y, ((Fz (60 * m + i)).f ((Fz (60 * m + i)).n - 1)).1 = .inl Y ∧ okS Y) ∧ (29 ≤ pN P 6 (60 * m + i) → pN P 6 (60 * m + i) ≤ 31 → pN P 6 (60 * m + i) - 28 ≤ x.1 ∧ (∃ b o, ((Fz (60 * m + i)).f ((Fz (60 * m + i)).n - 1 - (pN P 6 (60 * m + i) - 29))).1 = .inr (b, o)) ∧ (30 ≤ pN P 6 (60 * m + i) → ∃ Y, ((Fz (60 * m + i)).f ((Fz (60 * m + i)).n - 1 - (pN P 6 (60 * m + i) - 30))).1 = .inl Y ∧ okS Y)) := by
  have w8 := B.wf.k8
  have wm := wf_ar B.wf hm
  obtain ⟨m', i', x0, y0, hm', hm8, hi', hi60', hpe, hsx, hx8, hx, GT, h60, ll, hop, -, ey, -⟩ := plc B (show 60 * m + i < 480 by omega) hF tl
  have em : m' = m := by omega
  subst em
  have gn := G_n GT
  obtain ⟨op, eop⟩ : ∃ op, op = pN P 6 (60 * m' + i) := ⟨_, rfl⟩
  obtain ⟨q, eq⟩ : ∃ q, q = (Fz (60 * m' + i)).n := ⟨_, rfl⟩
  obtain ⟨f, ef⟩ : ∃ f, f = (Fz (60 * m' + i)).f := ⟨_, rfl⟩
  rw [← eop] at ey
  rw [← eq, ← ef] at GT
  rw [← eq] at gn
  rw [← eop, ← eq, ← ef]
  refine ⟨x0, hsx, hx8, ll, gn, fun z => ?_, fun z1 z2 => ?_⟩
  · rcases (show (op = 10 ∨ op = 11) ∨ op = 28 by omega) with z | z
    · rw [sh_ar (by omega) (by omega)] at ey
      obtain ⟨_, e1, -⟩ := Option.map_eq_some_iff.mp ey
      obtain ⟨a1, X1, Y1, -, a2, -, a3⟩ := s_two ll GT e1
      exact ⟨by omega, Y1, a2, a3⟩
    · rw [z] at ey
      obtain ⟨_, e1, -⟩ := Option.map_eq_some_iff.mp (show (tkS false x0).map (ptS true) = some y0 from ey)
      obtain ⟨a1, X1, a2, a3⟩ := s_int ll GT e1
      exact ⟨by omega, X1, a2, a3⟩
  · rcases (show op = 29 ∨ op = 30 ∨ op = 31 by omega) with z | z | z
    · rw [z] at ey
      obtain ⟨_, e1, -⟩ := Option.map_eq_some_iff.mp (show (tkS true x0).map (ptS false) = some y0 from ey)
      obtain ⟨a1, b, o, a2⟩ := s_set ll GT e1
      exact ⟨by omega, ⟨b, o, by rw [show q - 1 - (op - 29) = q - 1 by omega]; exact a2⟩, fun z3 => absurd z3 (by omega)⟩
    · rw [z] at ey
      obtain ⟨_, e1, -⟩ := Option.map_eq_some_iff.mp (show ((tkS false x0).bind (tkS true)).map (ptS false) = some y0 from ey)
      obtain ⟨a1, Y, b, o, a2, a3, a4⟩ := s_get ll GT e1
      exact ⟨by omega, ⟨b, o, by rw [show q - 1 - (op - 29) = q - 2 by omega]; exact a4⟩, fun z3 => ⟨Y, by rw [show q - 1 - (op - 30) = q - 1 by omega]; exact a2, a3⟩⟩
    · rw [z] at ey
      obtain ⟨a1, X, Y, b, o, a2, a5, a3, a6, a4⟩ := s_put ll GT (show ((tkS false x0).bind (tkS false)).bind (tkS true) = some y0 from ey)
      exact ⟨by omega, ⟨b, o, by rw [show q - 1 - (op - 29) = q - 3 by omega]; exact a4⟩, fun z3 => ⟨X, by rw [show q - 1 - (op - 30) = q - 2 by omega]; exact a2, a3⟩⟩
theorem jdR_no {op wr n0 : Nat} {f : Nat → Sl} (h : ask op wr = false) : jdR Fz op wr n0 f = 1 := by
  unfold ask at h
  simp at h
  unfold jdR
  rw [if_neg (by omega), if_neg (by omega), if_neg (by omega), if_neg (by omega)]
/-- a set that is not empty has a site of which a length is told -/
def stN (Fz : Fa) (b : Int32) : Prop := b = 0 ∨ ∃ s, s < 25 ∧ bitA b s = true ∧ (Fz (480 + s)).told = true ∧ 0 ≤ (spA ((Fz (480 + s)).f 0).1).2.1
def stU (Fz : Fa) : Prop := ∀ p, p < 480 → (Fz p).told = true → ∀ j, j < (Fz p).n → stN Fz (stA ((Fz p).f j).1)
def lnQ (F : Fa) (b : Int32) : Nat → Int × Int
  | 0 => (9223372036854775807, -1)
  | s + 1 => if bitA b s = true ∧ (F (480 + s)).told = true then (min (lnQ F b s).1 (spA ((F (480 + s)).f 0).1).1, max (lnQ F b s).2 (spA ((F (480 + s)).f 0).1).2.1) else lnQ F b s
theorem lnQ_J (hF : okF (tyF P sh) Fz) {b : Int32} : ∀ i, i ≤ 25 → (lnQ Fz b i).2 = (lnJ Fz b i).2 ∧ -1 ≤ (lnQ Fz b i).2 ∧ (lnQ Fz b i).2 ≤ 2147483647 ∧ ((lnQ Fz b i).1 = (lnJ Fz b i).1 ∧ -2147483648 ≤ (lnQ Fz b i).1 ∧ (lnQ Fz b i).1 ≤ 2147483647 ∨ (lnQ Fz b i).1 = 9223372036854775807 ∧ (lnJ Fz b i).1 = 4294967296 ∧ ∀ s, s < i → ¬ (bitA b s = true ∧ (Fz (480 + s)).told = true))
  | 0, _ => ⟨rfl, show (-1 : Int) ≤ -1 by decide, show (-1 : Int) ≤ 2147483647 by decide, .inr ⟨rfl, rfl, fun s hs => by omega⟩⟩
  | i + 1, hi => by
    obtain ⟨g1, g2, g3, g4⟩ := lnQ_J hF (b := b) i (by omega)
    by_cases q : bitA b i = true ∧ (Fz (480 + i)).told = true
    · obtain ⟨-, s1, s2, s3, -⟩ := tv_one hF (show 480 ≤ 480 + i by omega) (by omega) q.2
      unfold lnQ lnJ
      rw [if_pos q, if_pos q]
      dsimp only
      refine ⟨by rw [g1], by omega, by omega, .inl ?_⟩
      rcases g4 with g4 | g4
      · refine ⟨by rw [g4.1], by omega, by omega⟩
      · rw [g4.1, g4.2.1]
        refine ⟨by omega, by omega, by omega⟩
    · unfold lnQ lnJ
      rw [if_neg q, if_neg q]
      refine ⟨g1, g2, g3, ?_⟩
      rcases g4 with g4 | g4
      · exact .inl g4
      · refine .inr ⟨g4.1, g4.2.1, fun s hs => ?_⟩
        by_cases e : s = i
        · rw [e]; exact q
        · exact g4.2.2 s (by omega)
theorem lnQ_h {b : Int32} {s : Nat} (h1 : bitA b s = true) (h2 : (Fz (480 + s)).told = true) : ∀ i, s < i → (spA ((Fz (480 + s)).f 0).1).2.1 ≤ (lnQ Fz b i).2
  | 0, hi => by omega
  | i + 1, hi => by
    unfold lnQ
    by_cases e : s = i
    · subst e
      rw [if_pos ⟨h1, h2⟩]
      dsimp only
      omega
    · have g := lnQ_h h1 h2 i (by omega)
      split
      · dsimp only
        omega
      · exact g
theorem ixJ_0 {x : Sp} : ixJ Fz 0 x = 1 := by
  have e : ∀ i, (lnJ Fz 0 i).2 = -1 := fun i => by
    induction i with
    | zero => rfl
    | succ i ih =>
      unfold lnJ
      rw [if_neg (fun z => by have := z.1; unfold bitA at this; simp at this)]
      exact ih
  unfold ixJ
  rw [if_pos (e 25)]
theorem ixJ_Q (hF : okF (tyF P sh) Fz) {b : Int32} {x : Sp} (h0 : ¬ b = 0) (h : stN Fz b) : ixJ Fz b x = if 0 ≤ x.1 ∧ x.2.1 < (lnQ Fz b 25).1 then 1 else if x.2.1 < 0 ∨ (lnQ Fz b 25).2 ≤ x.1 then 3 else 2 := by
  rcases h with h | ⟨s, s1, s2, s3, s4⟩
  · exact absurd h h0
  obtain ⟨g1, g2, g3, g4⟩ := lnQ_J hF (b := b) 25 (by omega)
  have g5 := lnQ_h s2 s3 25 (by omega)
  unfold ixJ
  rw [← g1, if_neg (by omega)]
  rcases g4 with g4 | g4
  · rw [← g4.1]
  · exact absurd ⟨s2, s3⟩ (g4.2.2 s s1)
theorem has_0 {x : Sp} (h : hasS x 0 = true) : x.1 ≤ 0 ∧ 0 ≤ x.2.1 := by
  unfold hasS at h
  simp at h
  omega
theorem lnQ_b (hF : okF (tyF P sh) Fz) {b : Int32} {i : Nat} (hi : i ≤ 25) : -2147483648 ≤ (lnQ Fz b i).1 ∧ (lnQ Fz b i).1 ≤ 9223372036854775807 ∧ -1 ≤ (lnQ Fz b i).2 ∧ (lnQ Fz b i).2 ≤ 2147483647 := by
  obtain ⟨-, g2, g3, g4⟩ := lnQ_J hF (b := b) i hi
  rcases g4 with g4 | g4 <;> omega
theorem ce_at (h0 : fsN P Fz F G) {m i j : Nat} (hm : m < 8) (hi : i < 60) (tl : (Fz (60 * m + i)).told = true) (hj : j < (Fz (60 * m + i)).n) (hL : pN P 2 m ≤ j) : ceA ((Fz (60 * m + i)).f j).1 (cS F G (14 * (60 * m + i) + (j - pN P 2 m + 6))) := by
  obtain ⟨-, rr⟩ := h0.1 (60 * m + i) (by omega)
  obtain ⟨-, -, r⟩ := rr tl
  rw [show (60 * m + i) / 60 = m by omega] at r
  have := (r j hj).1
  rw [sl_hi hL] at this
  exact this
set_option maxHeartbeats 4000000 in
set_option maxRecDepth 100000 in
theorem c_Mo_verdictOf (wr : Nat) (h1 : 1 ≤ wr) (h4 : wr ≤ 4) {m i : Nat} (hm : m < k) (hi : i < pN P 5 m) (B : Built k P sh sn wd) (hpg : pgR k P sh S F) (h0 : fsN P Fz F G) (hF : okF (tyF P sh) Fz) (hU : stU Fz) (H : mo_at M S J F G h) : gi_T l V y_Mo_verdictOf b_Mo_verdictOf 12 (some .int) 1 27 0 0 [.ref M, .int (nI (60 * m + i)), .int (nI wr)] n h (gi_is (some (.int (jdV P Fz (60 * m + i) wr))) n h) := by
  refine gi_enter (by decide) (Nat.le_of_ble_eq_true rfl) ?_
  intro _ _ _ _ _ _ _ _ C hr hnm
  obtain ⟨fs, Ha, Hf⟩ := id H.1
  have ho : outM M h h := outM.rf
  have w8 := B.wf.k8
  have wm := wf_ar B.wf hm
  refine gi_aload_n (q := 1) (i := 0) C (dm_Mo_verdictOf 0 rfl) rfl rfl rfl ?_
  refine gi_get (q := 4) C (dm_Mo_verdictOf 1 rfl) rfl fl_Mo_57 Ha (mo_g31 Hf) ?_
  refine gi_iload_n (q := 5) (i := 1) C (dm_Mo_verdictOf 2 rfl) rfl rfl rfl ?_
  refine gi_zald (q := 6) C (dm_Mo_verdictOf 3 rfl) rfl rfl (mo_a31 H) (inN (show 60 * m + i < 960 by omega) (by decide)) ?_
  rw [nI_clamp (show 60 * m + i < 2 ^ 31 by omega), (h0.1 (60 * m + i) (by omega)).1]
  refine gi_if_ne (q := 9) (tgt := 11) C (dm_Mo_verdictOf 4 rfl) rfl (by decide) (fun c6 => ?_) (fun c6 => ?_)
  · have tl := bI_t c6
    obtain ⟨x, hx, x8, ll, gn, j1, j3⟩ := jd_f B hF hm hi tl
    have e12 := (pg_at hpg B.wf hm hi hx).1
    obtain ⟨op, eop⟩ : ∃ op, op = pN P 6 (60 * m + i) := ⟨_, rfl⟩
    have o35 : op ≤ 35 := by
      obtain ⟨q, e, q35⟩ := B.wf.op m i hm hi
      rw [eop]
      unfold pN
      rw [e, ofNat_cl (by omega)]
      exact q35
    have e6 : F 6 (60 * m + i) = nI op := by
      rw [hpg.1 6 (by decide) (by decide), eop]
      obtain ⟨q, e, q35⟩ := B.wf.op m i hm hi
      unfold pN
      rw [e, ofNat_cl (by omega)]
      rfl
    rw [← eop] at j1 j3
    have ea : ∀ w9, jdV P Fz (60 * m + i) w9 = jdR Fz op w9 (Fz (60 * m + i)).n (Fz (60 * m + i)).f := fun w9 => by
      unfold jdV
      rw [if_pos tl, eop]
    refine gi_aload_n (q := 12) (i := 0) C (dm_Mo_verdictOf 7 rfl) rfl rfl rfl ?_
    refine gi_get (q := 15) C (dm_Mo_verdictOf 8 rfl) rfl fl_Mo_25 Ha (mo_g6 Hf) ?_
    refine gi_iload_n (q := 16) (i := 1) C (dm_Mo_verdictOf 9 rfl) rfl rfl rfl ?_
    refine gi_iald (q := 17) C (dm_Mo_verdictOf 10 rfl) rfl rfl (mo_a6 H) (inN (show 60 * m + i < 480 by omega) (by decide)) ?_
    rw [nI_clamp (show 60 * m + i < 2 ^ 31 by omega), e6]
    refine gi_istore_n (q := 18) (i := 3) C (dm_Mo_verdictOf 11 rfl) rfl rfl (Nat.le_of_ble_eq_true rfl) ?_
    refine gi_aload_n (q := 19) (i := 0) C (dm_Mo_verdictOf 12 rfl) rfl rfl rfl ?_
    refine gi_iload_n (q := 20) (i := 3) C (dm_Mo_verdictOf 13 rfl) rfl rfl rfl ?_
    refine gi_iload_n (q := 21) (i := 2) C (dm_Mo_verdictOf 14 rfl) rfl rfl rfl ?_
    refine gi_callv 2 (q := 24) C (dm_Mo_verdictOf 15 rfl) rfl my_Mo_asks lk_Mo_534 im_Mo_asks rfl (c_Mo_asks op wr h1 h4 o35) Ha rfl rfl ⟨(Nat.le_of_ble_eq_true rfl), (Nat.le_of_ble_eq_true rfl)⟩ (Nat.le_of_ble_eq_true rfl) ⟨(Nat.le_of_ble_eq_true rfl), (Nat.le_of_ble_eq_true rfl)⟩ (fun r21 n21 h21 e21 => ?_)
    obtain ⟨rfl, q21, u21⟩ := e21
    rw [q21, u21]
    refine gi_if_ne (q := 27) (tgt := 29) C (dm_Mo_verdictOf 16 rfl) rfl (by decide) (fun c24 => ?_) (fun c24 => ?_)
    · have as := bI_t c24
      refine gi_bipush (q := 31) (v := 14) C (dm_Mo_verdictOf 19 rfl) rfl (by decide) ?_
      refine gi_iload_n (q := 32) (i := 1) C (dm_Mo_verdictOf 20 rfl) rfl rfl rfl ?_
      refine gi_imul (q := 33) C (dm_Mo_verdictOf 21 rfl) rfl ?_
      refine gi_iconst (q := 34) (v := 5) C (dm_Mo_verdictOf 22 rfl) rfl (by decide) ?_
      refine gi_iadd (q := 35) C (dm_Mo_verdictOf 23 rfl) rfl ?_
      refine gi_aload_n (q := 36) (i := 0) C (dm_Mo_verdictOf 24 rfl) rfl rfl rfl ?_
      refine gi_get (q := 39) C (dm_Mo_verdictOf 25 rfl) rfl fl_Mo_38 Ha (mo_g12 Hf) ?_
      refine gi_iload_n (q := 40) (i := 1) C (dm_Mo_verdictOf 26 rfl) rfl rfl rfl ?_
      refine gi_iald (q := 41) C (dm_Mo_verdictOf 27 rfl) rfl rfl (mo_a12 H) (inN (show 60 * m + i < 480 by omega) (by decide)) ?_
      refine gi_iadd (q := 42) C (dm_Mo_verdictOf 28 rfl) rfl ?_
      rw [nI_clamp (show 60 * m + i < 2 ^ 31 by omega), e12, show (14 : Int32) = nI 14 from rfl, show (5 : Int32) = nI 5 from rfl, nI_ml, nI_add, nI_add]
      refine gi_istore (q := 44) C (dm_Mo_verdictOf 29 rfl) rfl (Nat.le_of_ble_eq_true rfl) ?_
      rcases (show wr = 1 ∨ wr = 2 ∨ wr = 3 ∨ wr = 4 by omega) with e | e | e | e
      · subst e
        obtain ⟨q1, Y, eY, oY⟩ := j1 (by unfold ask at as; simp at as; omega)
        have ce := ce_at h0 (by omega) (by omega) tl (show (Fz (60 * m + i)).n - 1 < (Fz (60 * m + i)).n by omega) (by omega)
        rw [eY, show 14 * (60 * m + i) + ((Fz (60 * m + i)).n - 1 - pN P 2 m + 6) = 14 * (60 * m + i) + 5 + x.1 by omega] at ce
        obtain ⟨e32, e33, e34⟩ := ce
        obtain ⟨y1, y2, y3, -⟩ := id oY
        have y3' := y3
        change G 32 _ = _ at e32
        change G 33 _ = _ at e33
        change G 34 _ = _ at e34
        refine gi_iload_n (q := 45) (i := 2) C (dm_Mo_verdictOf 30 rfl) rfl rfl rfl ?_
        refine gi_iconst (q := 46) (v := 1) C (dm_Mo_verdictOf 31 rfl) rfl (by decide) ?_
        refine gi_icmp_ne (q := 49) (tgt := 111) C (dm_Mo_verdictOf 32 rfl) rfl (by decide) (fun c46 => ?_) (fun c46 => ?_)
        · exact absurd rfl c46
        · refine gi_aload_n (q := 50) (i := 0) C (dm_Mo_verdictOf 33 rfl) rfl rfl rfl ?_
          refine gi_get (q := 53) C (dm_Mo_verdictOf 34 rfl) rfl fl_Mo_60 Ha (mo_g32 Hf) ?_
          refine gi_iload (q := 55) C (dm_Mo_verdictOf 35 rfl) rfl rfl ?_
          refine gi_lald (q := 56) C (dm_Mo_verdictOf 36 rfl) rfl rfl (mo_a32 H) (inN (show 14 * (60 * m + i) + 5 + x.1 < 13440 by omega) (by decide)) ?_
          rw [nI_clamp (show 14 * (60 * m + i) + 5 + x.1 < 2 ^ 31 by omega), e32]
          refine gi_aload_n (q := 57) (i := 0) C (dm_Mo_verdictOf 37 rfl) rfl rfl rfl ?_
          refine gi_get (q := 60) C (dm_Mo_verdictOf 38 rfl) rfl fl_Mo_64 Ha (mo_g33 Hf) ?_
          refine gi_iload (q := 62) C (dm_Mo_verdictOf 39 rfl) rfl rfl ?_
          refine gi_lald (q := 63) C (dm_Mo_verdictOf 40 rfl) rfl rfl (mo_a33 H) (inN (show 14 * (60 * m + i) + 5 + x.1 < 13440 by omega) (by decide)) ?_
          rw [nI_clamp (show 14 * (60 * m + i) + 5 + x.1 < 2 ^ 31 by omega), e33]
          refine gi_aload_n (q := 64) (i := 0) C (dm_Mo_verdictOf 41 rfl) rfl rfl rfl ?_
          refine gi_get (q := 67) C (dm_Mo_verdictOf 42 rfl) rfl fl_Mo_67 Ha (mo_g34 Hf) ?_
          refine gi_iload (q := 69) C (dm_Mo_verdictOf 43 rfl) rfl rfl ?_
          refine gi_lald (q := 70) C (dm_Mo_verdictOf 44 rfl) rfl rfl (mo_a34 H) (inN (show 14 * (60 * m + i) + 5 + x.1 < 13440 by omega) (by decide)) ?_
          rw [nI_clamp (show 14 * (60 * m + i) + 5 + x.1 < 2 ^ 31 by omega), e34]
          refine gi_lconst (q := 71) (v := 0) C (dm_Mo_verdictOf 45 rfl) rfl (by decide) ?_
          rw [eL_0]
          refine gi_calls 4 (q := 74) C (dm_Mo_verdictOf 46 rfl) rfl my_Mo_has lk_Mo_340 sm_Mo_has (c_Mo_has Y 0 oY (by decide) (by decide)) rfl rfl ⟨(Nat.le_of_ble_eq_true rfl), (Nat.le_of_ble_eq_true rfl)⟩ (Nat.le_of_ble_eq_true rfl) ⟨(Nat.le_of_ble_eq_true rfl), (Nat.le_of_ble_eq_true rfl)⟩ (fun r71 n71 h71 e71 => ?_)
          obtain ⟨rfl, q71, u71⟩ := e71
          rw [q71, u71]
          refine gi_if_ne (q := 77) (tgt := 81) C (dm_Mo_verdictOf 47 rfl) rfl (by decide) (fun c74 => ?_) (fun c74 => ?_)
          · refine gi_aload_n (q := 82) (i := 0) C (dm_Mo_verdictOf 50 rfl) rfl rfl rfl ?_
            refine gi_get (q := 85) C (dm_Mo_verdictOf 51 rfl) rfl fl_Mo_60 Ha (mo_g32 Hf) ?_
            refine gi_iload (q := 87) C (dm_Mo_verdictOf 52 rfl) rfl rfl ?_
            refine gi_lald (q := 88) C (dm_Mo_verdictOf 53 rfl) rfl rfl (mo_a32 H) (inN (show 14 * (60 * m + i) + 5 + x.1 < 13440 by omega) (by decide)) ?_
            rw [nI_clamp (show 14 * (60 * m + i) + 5 + x.1 < 2 ^ 31 by omega), e32]
            refine gi_lconst (q := 89) (v := 0) C (dm_Mo_verdictOf 54 rfl) rfl (by decide) ?_
            refine gi_lcmp (q := 90) C (dm_Mo_verdictOf 55 rfl) rfl ?_
            refine gi_if_ne (q := 93) (tgt := 109) C (dm_Mo_verdictOf 56 rfl) rfl (by decide) (fun c90 => ?_) (fun c90 => ?_)
            · refine gi_iconst (q := 110) (v := 2) C (dm_Mo_verdictOf 66 rfl) rfl (by decide) ?_
              refine gi_iret C hr (dm_Mo_verdictOf 67 rfl) ?_
              (try simp (disch := omega) only [lg_cmp_ge, lg_cmp_le, lg_cmp_gt, lg_cmp_lt, lg_cmp_eq, eL_0, eL_1, eL_m1, eL_LO, eL_HI, eL_W, eL_add, eL_sub, eL_mul, eL_neg, eL_lt, eL_le, eL_eq, eL_remN, eL_mod0, ne_eq, Int64.not_lt, Int64.not_le] at c46)
              (try simp (disch := omega) only [lg_cmp_ge, lg_cmp_le, lg_cmp_gt, lg_cmp_lt, lg_cmp_eq, eL_0, eL_1, eL_m1, eL_LO, eL_HI, eL_W, eL_add, eL_sub, eL_mul, eL_neg, eL_lt, eL_le, eL_eq, eL_remN, eL_mod0, ne_eq, Int64.not_lt, Int64.not_le] at c74)
              (try simp (disch := omega) only [lg_cmp_ge, lg_cmp_le, lg_cmp_gt, lg_cmp_lt, lg_cmp_eq, eL_0, eL_1, eL_m1, eL_LO, eL_HI, eL_W, eL_add, eL_sub, eL_mul, eL_neg, eL_lt, eL_le, eL_eq, eL_remN, eL_mod0, ne_eq, Int64.not_lt, Int64.not_le] at c90)
              refine ⟨?_, rfl, rfl⟩
              rw [ea]
              unfold jdR
              rw [if_pos (by unfold ask at as; simp at as; omega), eY]
              show some (Value.int _) = some (Value.int (dvJ Y))
              unfold dvJ
              first
                | (rw [if_pos (bI_fa c74)]; done)
                | (have hh := has_0 (bI_t c74)
                   rw [if_neg (by rw [bI_t c74]; decide), if_pos (by omega)]; done)
                | (have hh := has_0 (bI_t c74)
                   rw [if_neg (by rw [bI_t c74]; decide), if_neg (by omega)]; done)
            · refine gi_aload_n (q := 94) (i := 0) C (dm_Mo_verdictOf 57 rfl) rfl rfl rfl ?_
              refine gi_get (q := 97) C (dm_Mo_verdictOf 58 rfl) rfl fl_Mo_64 Ha (mo_g33 Hf) ?_
              refine gi_iload (q := 99) C (dm_Mo_verdictOf 59 rfl) rfl rfl ?_
              refine gi_lald (q := 100) C (dm_Mo_verdictOf 60 rfl) rfl rfl (mo_a33 H) (inN (show 14 * (60 * m + i) + 5 + x.1 < 13440 by omega) (by decide)) ?_
              rw [nI_clamp (show 14 * (60 * m + i) + 5 + x.1 < 2 ^ 31 by omega), e33]
              refine gi_lconst (q := 101) (v := 0) C (dm_Mo_verdictOf 61 rfl) rfl (by decide) ?_
              refine gi_lcmp (q := 102) C (dm_Mo_verdictOf 62 rfl) rfl ?_
              refine gi_if_ne (q := 105) (tgt := 109) C (dm_Mo_verdictOf 63 rfl) rfl (by decide) (fun c102 => ?_) (fun c102 => ?_)
              · refine gi_iconst (q := 110) (v := 2) C (dm_Mo_verdictOf 66 rfl) rfl (by decide) ?_
                refine gi_iret C hr (dm_Mo_verdictOf 67 rfl) ?_
                (try simp (disch := omega) only [lg_cmp_ge, lg_cmp_le, lg_cmp_gt, lg_cmp_lt, lg_cmp_eq, eL_0, eL_1, eL_m1, eL_LO, eL_HI, eL_W, eL_add, eL_sub, eL_mul, eL_neg, eL_lt, eL_le, eL_eq, eL_remN, eL_mod0, ne_eq, Int64.not_lt, Int64.not_le] at c46)
                (try simp (disch := omega) only [lg_cmp_ge, lg_cmp_le, lg_cmp_gt, lg_cmp_lt, lg_cmp_eq, eL_0, eL_1, eL_m1, eL_LO, eL_HI, eL_W, eL_add, eL_sub, eL_mul, eL_neg, eL_lt, eL_le, eL_eq, eL_remN, eL_mod0, ne_eq, Int64.not_lt, Int64.not_le] at c74)
                (try simp (disch := omega) only [lg_cmp_ge, lg_cmp_le, lg_cmp_gt, lg_cmp_lt, lg_cmp_eq, eL_0, eL_1, eL_m1, eL_LO, eL_HI, eL_W, eL_add, eL_sub, eL_mul, eL_neg, eL_lt, eL_le, eL_eq, eL_remN, eL_mod0, ne_eq, Int64.not_lt, Int64.not_le] at c90)
                (try simp (disch := omega) only [lg_cmp_ge, lg_cmp_le, lg_cmp_gt, lg_cmp_lt, lg_cmp_eq, eL_0, eL_1, eL_m1, eL_LO, eL_HI, eL_W, eL_add, eL_sub, eL_mul, eL_neg, eL_lt, eL_le, eL_eq, eL_remN, eL_mod0, ne_eq, Int64.not_lt, Int64.not_le] at c102)
                refine ⟨?_, rfl, rfl⟩
                rw [ea]
                unfold jdR
                rw [if_pos (by unfold ask at as; simp at as; omega), eY]
                show some (Value.int _) = some (Value.int (dvJ Y))
                unfold dvJ
                first
                  | (rw [if_pos (bI_fa c74)]; done)
                  | (have hh := has_0 (bI_t c74)
                     rw [if_neg (by rw [bI_t c74]; decide), if_pos (by omega)]; done)
                  | (have hh := has_0 (bI_t c74)
                     rw [if_neg (by rw [bI_t c74]; decide), if_neg (by omega)]; done)
              · refine gi_iconst (q := 106) (v := 3) C (dm_Mo_verdictOf 64 rfl) rfl (by decide) ?_
                refine gi_goto (tgt := 110) C (dm_Mo_verdictOf 65 rfl) (by decide) ?_
                refine gi_iret C hr (dm_Mo_verdictOf 67 rfl) ?_
                (try simp (disch := omega) only [lg_cmp_ge, lg_cmp_le, lg_cmp_gt, lg_cmp_lt, lg_cmp_eq, eL_0, eL_1, eL_m1, eL_LO, eL_HI, eL_W, eL_add, eL_sub, eL_mul, eL_neg, eL_lt, eL_le, eL_eq, eL_remN, eL_mod0, ne_eq, Int64.not_lt, Int64.not_le] at c46)
                (try simp (disch := omega) only [lg_cmp_ge, lg_cmp_le, lg_cmp_gt, lg_cmp_lt, lg_cmp_eq, eL_0, eL_1, eL_m1, eL_LO, eL_HI, eL_W, eL_add, eL_sub, eL_mul, eL_neg, eL_lt, eL_le, eL_eq, eL_remN, eL_mod0, ne_eq, Int64.not_lt, Int64.not_le] at c74)
                (try simp (disch := omega) only [lg_cmp_ge, lg_cmp_le, lg_cmp_gt, lg_cmp_lt, lg_cmp_eq, eL_0, eL_1, eL_m1, eL_LO, eL_HI, eL_W, eL_add, eL_sub, eL_mul, eL_neg, eL_lt, eL_le, eL_eq, eL_remN, eL_mod0, ne_eq, Int64.not_lt, Int64.not_le] at c90)
                (try simp (disch := omega) only [lg_cmp_ge, lg_cmp_le, lg_cmp_gt, lg_cmp_lt, lg_cmp_eq, eL_0, eL_1, eL_m1, eL_LO, eL_HI, eL_W, eL_add, eL_sub, eL_mul, eL_neg, eL_lt, eL_le, eL_eq, eL_remN, eL_mod0, ne_eq, Int64.not_lt, Int64.not_le] at c102)
                refine ⟨?_, rfl, rfl⟩
                rw [ea]
                unfold jdR
                rw [if_pos (by unfold ask at as; simp at as; omega), eY]
                show some (Value.int _) = some (Value.int (dvJ Y))
                unfold dvJ
                first
                  | (rw [if_pos (bI_fa c74)]; done)
                  | (have hh := has_0 (bI_t c74)
                     rw [if_neg (by rw [bI_t c74]; decide), if_pos (by omega)]; done)
                  | (have hh := has_0 (bI_t c74)
                     rw [if_neg (by rw [bI_t c74]; decide), if_neg (by omega)]; done)
          · refine gi_iconst (q := 78) (v := 1) C (dm_Mo_verdictOf 48 rfl) rfl (by decide) ?_
            refine gi_goto (tgt := 110) C (dm_Mo_verdictOf 49 rfl) (by decide) ?_
            refine gi_iret C hr (dm_Mo_verdictOf 67 rfl) ?_
            (try simp (disch := omega) only [lg_cmp_ge, lg_cmp_le, lg_cmp_gt, lg_cmp_lt, lg_cmp_eq, eL_0, eL_1, eL_m1, eL_LO, eL_HI, eL_W, eL_add, eL_sub, eL_mul, eL_neg, eL_lt, eL_le, eL_eq, eL_remN, eL_mod0, ne_eq, Int64.not_lt, Int64.not_le] at c46)
            (try simp (disch := omega) only [lg_cmp_ge, lg_cmp_le, lg_cmp_gt, lg_cmp_lt, lg_cmp_eq, eL_0, eL_1, eL_m1, eL_LO, eL_HI, eL_W, eL_add, eL_sub, eL_mul, eL_neg, eL_lt, eL_le, eL_eq, eL_remN, eL_mod0, ne_eq, Int64.not_lt, Int64.not_le] at c74)
            refine ⟨?_, rfl, rfl⟩
            rw [ea]
            unfold jdR
            rw [if_pos (by unfold ask at as; simp at as; omega), eY]
            show some (Value.int _) = some (Value.int (dvJ Y))
            unfold dvJ
            first
              | (rw [if_pos (bI_fa c74)]; done)
              | (have hh := has_0 (bI_t c74)
                 rw [if_neg (by rw [bI_t c74]; decide), if_pos (by omega)]; done)
              | (have hh := has_0 (bI_t c74)
                 rw [if_neg (by rw [bI_t c74]; decide), if_neg (by omega)]; done)
      · subst e
        have op3 : 29 ≤ op ∧ op ≤ 31 := by unfold ask at as; simp at as; omega
        obtain ⟨q3, ⟨b, on, eB⟩, jY⟩ := j3 (by omega) (by omega)
        have cb := ce_at h0 (by omega) (by omega) tl (show (Fz (60 * m + i)).n - 1 - (op - 29) < (Fz (60 * m + i)).n by omega) (by omega)
        rw [eB, show 14 * (60 * m + i) + ((Fz (60 * m + i)).n - 1 - (op - 29) - pN P 2 m + 6) = 14 * (60 * m + i) + 5 + x.1 - (op - 29) by omega] at cb
        obtain ⟨e35, e36⟩ := cb
        change F 35 _ = _ at e35
        change F 36 _ = _ at e36
        obtain ⟨t5, et5⟩ : ∃ t5, t5 = 14 * (60 * m + i) + 5 + x.1 - (op - 29) := ⟨_, rfl⟩
        rw [← et5] at e35 e36
        have t5b : t5 < 13439 := by omega
        have jo29 : (nI op = 29) = (op = 29) := nI_eqP (b := 29) (by omega) (by decide)
        have jo30 : (nI op = 30) = (op = 30) := nI_eqP (b := 30) (by omega) (by decide)
        refine gi_iload_n (q := 45) (i := 2) C (dm_Mo_verdictOf 30 rfl) rfl rfl rfl ?_
        refine gi_iconst (q := 46) (v := 1) C (dm_Mo_verdictOf 31 rfl) rfl (by decide) ?_
        refine gi_icmp_ne (q := 49) (tgt := 111) C (dm_Mo_verdictOf 32 rfl) rfl (by decide) (fun c46 => ?_) (fun c46 => ?_)
        · refine gi_iload_n (q := 112) (i := 2) C (dm_Mo_verdictOf 68 rfl) rfl rfl rfl ?_
          refine gi_iconst (q := 113) (v := 4) C (dm_Mo_verdictOf 69 rfl) rfl (by decide) ?_
          refine gi_icmp_ne (q := 116) (tgt := 150) C (dm_Mo_verdictOf 70 rfl) rfl (by decide) (fun c113 => ?_) (fun c113 => ?_)
          · refine gi_iload_n (q := 151) (i := 3) C (dm_Mo_verdictOf 91 rfl) rfl rfl rfl ?_
            refine gi_bipush (q := 153) (v := 29) C (dm_Mo_verdictOf 92 rfl) rfl (by decide) ?_
            refine gi_icmp_ne (q := 156) (tgt := 161) C (dm_Mo_verdictOf 93 rfl) rfl (by decide) (fun c153 => ?_) (fun c153 => ?_)
            · refine gi_iload_n (q := 162) (i := 3) C (dm_Mo_verdictOf 96 rfl) rfl rfl rfl ?_
              refine gi_bipush (q := 164) (v := 30) C (dm_Mo_verdictOf 97 rfl) rfl (by decide) ?_
              refine gi_icmp_ne (q := 167) (tgt := 174) C (dm_Mo_verdictOf 98 rfl) rfl (by decide) (fun c164 => ?_) (fun c164 => ?_)
              · refine gi_iload (q := 176) C (dm_Mo_verdictOf 103 rfl) rfl rfl ?_
                refine gi_iconst (q := 177) (v := 2) C (dm_Mo_verdictOf 104 rfl) rfl (by decide) ?_
                refine gi_isub (q := 178) C (dm_Mo_verdictOf 105 rfl) rfl ?_
                rw [jo29] at c153
                rw [jo30] at c164
                rw [show (2 : Int32) = nI 2 from rfl, nI_sb (by omega) (by omega), show 14 * (60 * m + i) + 5 + x.1 - 2 = t5 by omega]
                refine gi_istore (q := 180) C (dm_Mo_verdictOf 106 rfl) rfl (Nat.le_of_ble_eq_true rfl) ?_
                refine gi_iload_n (q := 181) (i := 2) C (dm_Mo_verdictOf 107 rfl) rfl rfl rfl ?_
                refine gi_iconst (q := 182) (v := 2) C (dm_Mo_verdictOf 108 rfl) rfl (by decide) ?_
                refine gi_icmp_ne (q := 185) (tgt := 215) C (dm_Mo_verdictOf 109 rfl) rfl (by decide) (fun c182 => ?_) (fun c182 => ?_)
                · exact absurd rfl c182
                · refine gi_aload_n (q := 186) (i := 0) C (dm_Mo_verdictOf 110 rfl) rfl rfl rfl ?_
                  refine gi_get (q := 189) C (dm_Mo_verdictOf 111 rfl) rfl fl_Mo_73 Ha (mo_g36 Hf) ?_
                  refine gi_iload (q := 191) C (dm_Mo_verdictOf 112 rfl) rfl rfl ?_
                  refine gi_zald (q := 192) C (dm_Mo_verdictOf 113 rfl) rfl rfl (mo_a36 H) (inN (show t5 < 13440 by omega) (by decide)) ?_
                  rw [nI_clamp (show t5 < 2 ^ 31 by omega), e36]
                  refine gi_if_ne (q := 195) (tgt := 199) C (dm_Mo_verdictOf 114 rfl) rfl (by decide) (fun c192 => ?_) (fun c192 => ?_)
                  · refine gi_aload_n (q := 200) (i := 0) C (dm_Mo_verdictOf 117 rfl) rfl rfl rfl ?_
                    refine gi_get (q := 203) C (dm_Mo_verdictOf 118 rfl) rfl fl_Mo_70 Ha (mo_g35 Hf) ?_
                    refine gi_iload (q := 205) C (dm_Mo_verdictOf 119 rfl) rfl rfl ?_
                    refine gi_iald (q := 206) C (dm_Mo_verdictOf 120 rfl) rfl rfl (mo_a35 H) (inN (show t5 < 13440 by omega) (by decide)) ?_
                    rw [nI_clamp (show t5 < 2 ^ 31 by omega), e35]
                    refine gi_if_ne (q := 209) (tgt := 213) C (dm_Mo_verdictOf 121 rfl) rfl (by decide) (fun c206 => ?_) (fun c206 => ?_)
                    · refine gi_iconst (q := 214) (v := 2) C (dm_Mo_verdictOf 124 rfl) rfl (by decide) ?_
                      refine gi_iret C hr (dm_Mo_verdictOf 125 rfl) ?_
                      refine ⟨?_, rfl, rfl⟩
                      rw [ea]
                      unfold jdR
                      rw [if_neg (by omega), if_neg (by omega), if_pos (by omega), eB]
                      show some (Value.int _) = some (Value.int (nuJ b on))
                      unfold nuJ
                      first
                        | (rw [if_pos (bI_fa c192)]; done)
                        | (rw [if_neg (by rw [bI_t c192]; decide), if_pos c206]; done)
                        | (rw [if_neg (by rw [bI_t c192]; decide), if_neg c206]; done)
                    · refine gi_iconst (q := 210) (v := 3) C (dm_Mo_verdictOf 122 rfl) rfl (by decide) ?_
                      refine gi_goto (tgt := 214) C (dm_Mo_verdictOf 123 rfl) (by decide) ?_
                      refine gi_iret C hr (dm_Mo_verdictOf 125 rfl) ?_
                      refine ⟨?_, rfl, rfl⟩
                      rw [ea]
                      unfold jdR
                      rw [if_neg (by omega), if_neg (by omega), if_pos (by omega), eB]
                      show some (Value.int _) = some (Value.int (nuJ b on))
                      unfold nuJ
                      first
                        | (rw [if_pos (bI_fa c192)]; done)
                        | (rw [if_neg (by rw [bI_t c192]; decide), if_pos c206]; done)
                        | (rw [if_neg (by rw [bI_t c192]; decide), if_neg c206]; done)
                  · refine gi_iconst (q := 196) (v := 1) C (dm_Mo_verdictOf 115 rfl) rfl (by decide) ?_
                    refine gi_goto (tgt := 214) C (dm_Mo_verdictOf 116 rfl) (by decide) ?_
                    refine gi_iret C hr (dm_Mo_verdictOf 125 rfl) ?_
                    refine ⟨?_, rfl, rfl⟩
                    rw [ea]
                    unfold jdR
                    rw [if_neg (by omega), if_neg (by omega), if_pos (by omega), eB]
                    show some (Value.int _) = some (Value.int (nuJ b on))
                    unfold nuJ
                    first
                      | (rw [if_pos (bI_fa c192)]; done)
                      | (rw [if_neg (by rw [bI_t c192]; decide), if_pos c206]; done)
                      | (rw [if_neg (by rw [bI_t c192]; decide), if_neg c206]; done)
              · refine gi_iload (q := 169) C (dm_Mo_verdictOf 99 rfl) rfl rfl ?_
                refine gi_iconst (q := 170) (v := 1) C (dm_Mo_verdictOf 100 rfl) rfl (by decide) ?_
                refine gi_isub (q := 171) C (dm_Mo_verdictOf 101 rfl) rfl ?_
                refine gi_goto (tgt := 178) C (dm_Mo_verdictOf 102 rfl) (by decide) ?_
                rw [jo30] at c164
                rw [show (1 : Int32) = nI 1 from rfl, nI_sb (by omega) (by omega), show 14 * (60 * m + i) + 5 + x.1 - 1 = t5 by omega]
                refine gi_istore (q := 180) C (dm_Mo_verdictOf 106 rfl) rfl (Nat.le_of_ble_eq_true rfl) ?_
                refine gi_iload_n (q := 181) (i := 2) C (dm_Mo_verdictOf 107 rfl) rfl rfl rfl ?_
                refine gi_iconst (q := 182) (v := 2) C (dm_Mo_verdictOf 108 rfl) rfl (by decide) ?_
                refine gi_icmp_ne (q := 185) (tgt := 215) C (dm_Mo_verdictOf 109 rfl) rfl (by decide) (fun c182 => ?_) (fun c182 => ?_)
                · exact absurd rfl c182
                · refine gi_aload_n (q := 186) (i := 0) C (dm_Mo_verdictOf 110 rfl) rfl rfl rfl ?_
                  refine gi_get (q := 189) C (dm_Mo_verdictOf 111 rfl) rfl fl_Mo_73 Ha (mo_g36 Hf) ?_
                  refine gi_iload (q := 191) C (dm_Mo_verdictOf 112 rfl) rfl rfl ?_
                  refine gi_zald (q := 192) C (dm_Mo_verdictOf 113 rfl) rfl rfl (mo_a36 H) (inN (show t5 < 13440 by omega) (by decide)) ?_
                  rw [nI_clamp (show t5 < 2 ^ 31 by omega), e36]
                  refine gi_if_ne (q := 195) (tgt := 199) C (dm_Mo_verdictOf 114 rfl) rfl (by decide) (fun c192 => ?_) (fun c192 => ?_)
                  · refine gi_aload_n (q := 200) (i := 0) C (dm_Mo_verdictOf 117 rfl) rfl rfl rfl ?_
                    refine gi_get (q := 203) C (dm_Mo_verdictOf 118 rfl) rfl fl_Mo_70 Ha (mo_g35 Hf) ?_
                    refine gi_iload (q := 205) C (dm_Mo_verdictOf 119 rfl) rfl rfl ?_
                    refine gi_iald (q := 206) C (dm_Mo_verdictOf 120 rfl) rfl rfl (mo_a35 H) (inN (show t5 < 13440 by omega) (by decide)) ?_
                    rw [nI_clamp (show t5 < 2 ^ 31 by omega), e35]
                    refine gi_if_ne (q := 209) (tgt := 213) C (dm_Mo_verdictOf 121 rfl) rfl (by decide) (fun c206 => ?_) (fun c206 => ?_)
                    · refine gi_iconst (q := 214) (v := 2) C (dm_Mo_verdictOf 124 rfl) rfl (by decide) ?_
                      refine gi_iret C hr (dm_Mo_verdictOf 125 rfl) ?_
                      refine ⟨?_, rfl, rfl⟩
                      rw [ea]
                      unfold jdR
                      rw [if_neg (by omega), if_neg (by omega), if_pos (by omega), eB]
                      show some (Value.int _) = some (Value.int (nuJ b on))
                      unfold nuJ
                      first
                        | (rw [if_pos (bI_fa c192)]; done)
                        | (rw [if_neg (by rw [bI_t c192]; decide), if_pos c206]; done)
                        | (rw [if_neg (by rw [bI_t c192]; decide), if_neg c206]; done)
                    · refine gi_iconst (q := 210) (v := 3) C (dm_Mo_verdictOf 122 rfl) rfl (by decide) ?_
                      refine gi_goto (tgt := 214) C (dm_Mo_verdictOf 123 rfl) (by decide) ?_
                      refine gi_iret C hr (dm_Mo_verdictOf 125 rfl) ?_
                      refine ⟨?_, rfl, rfl⟩
                      rw [ea]
                      unfold jdR
                      rw [if_neg (by omega), if_neg (by omega), if_pos (by omega), eB]
                      show some (Value.int _) = some (Value.int (nuJ b on))
                      unfold nuJ
                      first
                        | (rw [if_pos (bI_fa c192)]; done)
                        | (rw [if_neg (by rw [bI_t c192]; decide), if_pos c206]; done)
                        | (rw [if_neg (by rw [bI_t c192]; decide), if_neg c206]; done)
                  · refine gi_iconst (q := 196) (v := 1) C (dm_Mo_verdictOf 115 rfl) rfl (by decide) ?_
                    refine gi_goto (tgt := 214) C (dm_Mo_verdictOf 116 rfl) (by decide) ?_
                    refine gi_iret C hr (dm_Mo_verdictOf 125 rfl) ?_
                    refine ⟨?_, rfl, rfl⟩
                    rw [ea]
                    unfold jdR
                    rw [if_neg (by omega), if_neg (by omega), if_pos (by omega), eB]
                    show some (Value.int _) = some (Value.int (nuJ b on))
                    unfold nuJ
                    first
                      | (rw [if_pos (bI_fa c192)]; done)
                      | (rw [if_neg (by rw [bI_t c192]; decide), if_pos c206]; done)
                      | (rw [if_neg (by rw [bI_t c192]; decide), if_neg c206]; done)
            · refine gi_iload (q := 158) C (dm_Mo_verdictOf 94 rfl) rfl rfl ?_
              refine gi_goto (tgt := 178) C (dm_Mo_verdictOf 95 rfl) (by decide) ?_
              rw [show 14 * (60 * m + i) + 5 + x.1 = t5 by rw [jo29] at c153; omega]
              refine gi_istore (q := 180) C (dm_Mo_verdictOf 106 rfl) rfl (Nat.le_of_ble_eq_true rfl) ?_
              refine gi_iload_n (q := 181) (i := 2) C (dm_Mo_verdictOf 107 rfl) rfl rfl rfl ?_
              refine gi_iconst (q := 182) (v := 2) C (dm_Mo_verdictOf 108 rfl) rfl (by decide) ?_
              refine gi_icmp_ne (q := 185) (tgt := 215) C (dm_Mo_verdictOf 109 rfl) rfl (by decide) (fun c182 => ?_) (fun c182 => ?_)
              · exact absurd rfl c182
              · refine gi_aload_n (q := 186) (i := 0) C (dm_Mo_verdictOf 110 rfl) rfl rfl rfl ?_
                refine gi_get (q := 189) C (dm_Mo_verdictOf 111 rfl) rfl fl_Mo_73 Ha (mo_g36 Hf) ?_
                refine gi_iload (q := 191) C (dm_Mo_verdictOf 112 rfl) rfl rfl ?_
                refine gi_zald (q := 192) C (dm_Mo_verdictOf 113 rfl) rfl rfl (mo_a36 H) (inN (show t5 < 13440 by omega) (by decide)) ?_
                rw [nI_clamp (show t5 < 2 ^ 31 by omega), e36]
                refine gi_if_ne (q := 195) (tgt := 199) C (dm_Mo_verdictOf 114 rfl) rfl (by decide) (fun c192 => ?_) (fun c192 => ?_)
                · refine gi_aload_n (q := 200) (i := 0) C (dm_Mo_verdictOf 117 rfl) rfl rfl rfl ?_
                  refine gi_get (q := 203) C (dm_Mo_verdictOf 118 rfl) rfl fl_Mo_70 Ha (mo_g35 Hf) ?_
                  refine gi_iload (q := 205) C (dm_Mo_verdictOf 119 rfl) rfl rfl ?_
                  refine gi_iald (q := 206) C (dm_Mo_verdictOf 120 rfl) rfl rfl (mo_a35 H) (inN (show t5 < 13440 by omega) (by decide)) ?_
                  rw [nI_clamp (show t5 < 2 ^ 31 by omega), e35]
                  refine gi_if_ne (q := 209) (tgt := 213) C (dm_Mo_verdictOf 121 rfl) rfl (by decide) (fun c206 => ?_) (fun c206 => ?_)
                  · refine gi_iconst (q := 214) (v := 2) C (dm_Mo_verdictOf 124 rfl) rfl (by decide) ?_
                    refine gi_iret C hr (dm_Mo_verdictOf 125 rfl) ?_
                    refine ⟨?_, rfl, rfl⟩
                    rw [ea]
                    unfold jdR
                    rw [if_neg (by omega), if_neg (by omega), if_pos (by omega), eB]
                    show some (Value.int _) = some (Value.int (nuJ b on))
                    unfold nuJ
                    first
                      | (rw [if_pos (bI_fa c192)]; done)
                      | (rw [if_neg (by rw [bI_t c192]; decide), if_pos c206]; done)
                      | (rw [if_neg (by rw [bI_t c192]; decide), if_neg c206]; done)
                  · refine gi_iconst (q := 210) (v := 3) C (dm_Mo_verdictOf 122 rfl) rfl (by decide) ?_
                    refine gi_goto (tgt := 214) C (dm_Mo_verdictOf 123 rfl) (by decide) ?_
                    refine gi_iret C hr (dm_Mo_verdictOf 125 rfl) ?_
                    refine ⟨?_, rfl, rfl⟩
                    rw [ea]
                    unfold jdR
                    rw [if_neg (by omega), if_neg (by omega), if_pos (by omega), eB]
                    show some (Value.int _) = some (Value.int (nuJ b on))
                    unfold nuJ
                    first
                      | (rw [if_pos (bI_fa c192)]; done)
                      | (rw [if_neg (by rw [bI_t c192]; decide), if_pos c206]; done)
                      | (rw [if_neg (by rw [bI_t c192]; decide), if_neg c206]; done)
                · refine gi_iconst (q := 196) (v := 1) C (dm_Mo_verdictOf 115 rfl) rfl (by decide) ?_
                  refine gi_goto (tgt := 214) C (dm_Mo_verdictOf 116 rfl) (by decide) ?_
                  refine gi_iret C hr (dm_Mo_verdictOf 125 rfl) ?_
                  refine ⟨?_, rfl, rfl⟩
                  rw [ea]
                  unfold jdR
                  rw [if_neg (by omega), if_neg (by omega), if_pos (by omega), eB]
                  show some (Value.int _) = some (Value.int (nuJ b on))
                  unfold nuJ
                  first
                    | (rw [if_pos (bI_fa c192)]; done)
                    | (rw [if_neg (by rw [bI_t c192]; decide), if_pos c206]; done)
                    | (rw [if_neg (by rw [bI_t c192]; decide), if_neg c206]; done)
          · exact absurd c113 (by decide)
        · exact absurd c46 (by decide)
      · subst e
        have op3 : 30 ≤ op ∧ op ≤ 31 := by unfold ask at as; simp at as; omega
        obtain ⟨q3, ⟨b, on, eB⟩, jY⟩ := j3 (by omega) (by omega)
        have cb := ce_at h0 (by omega) (by omega) tl (show (Fz (60 * m + i)).n - 1 - (op - 29) < (Fz (60 * m + i)).n by omega) (by omega)
        rw [eB, show 14 * (60 * m + i) + ((Fz (60 * m + i)).n - 1 - (op - 29) - pN P 2 m + 6) = 14 * (60 * m + i) + 5 + x.1 - (op - 29) by omega] at cb
        obtain ⟨e35, e36⟩ := cb
        change F 35 _ = _ at e35
        change F 36 _ = _ at e36
        obtain ⟨t5, et5⟩ : ∃ t5, t5 = 14 * (60 * m + i) + 5 + x.1 - (op - 29) := ⟨_, rfl⟩
        rw [← et5] at e35 e36
        have t5b : t5 < 13439 := by omega
        have jo29 : (nI op = 29) = (op = 29) := nI_eqP (b := 29) (by omega) (by decide)
        have jo30 : (nI op = 30) = (op = 30) := nI_eqP (b := 30) (by omega) (by decide)
        obtain ⟨Y, eY, oY⟩ := jY (by omega)
        have ce := ce_at h0 (by omega) (by omega) tl (show (Fz (60 * m + i)).n - 1 - (op - 30) < (Fz (60 * m + i)).n by omega) (by omega)
        rw [eY, show 14 * (60 * m + i) + ((Fz (60 * m + i)).n - 1 - (op - 30) - pN P 2 m + 6) = t5 + 1 by omega] at ce
        obtain ⟨e32, e33, -⟩ := ce
        change G 32 _ = _ at e32
        change G 33 _ = _ at e33
        obtain ⟨y1, y2, y3, -⟩ := id oY
        have y3' := y3
        have e7 : (Fz (60 * m + i)).n - 1 - (op - 30) - 1 = (Fz (60 * m + i)).n - 1 - (op - 29) := by omega
        refine gi_iload_n (q := 45) (i := 2) C (dm_Mo_verdictOf 30 rfl) rfl rfl rfl ?_
        refine gi_iconst (q := 46) (v := 1) C (dm_Mo_verdictOf 31 rfl) rfl (by decide) ?_
        refine gi_icmp_ne (q := 49) (tgt := 111) C (dm_Mo_verdictOf 32 rfl) rfl (by decide) (fun c46 => ?_) (fun c46 => ?_)
        · refine gi_iload_n (q := 112) (i := 2) C (dm_Mo_verdictOf 68 rfl) rfl rfl rfl ?_
          refine gi_iconst (q := 113) (v := 4) C (dm_Mo_verdictOf 69 rfl) rfl (by decide) ?_
          refine gi_icmp_ne (q := 116) (tgt := 150) C (dm_Mo_verdictOf 70 rfl) rfl (by decide) (fun c113 => ?_) (fun c113 => ?_)
          · refine gi_iload_n (q := 151) (i := 3) C (dm_Mo_verdictOf 91 rfl) rfl rfl rfl ?_
            refine gi_bipush (q := 153) (v := 29) C (dm_Mo_verdictOf 92 rfl) rfl (by decide) ?_
            refine gi_icmp_ne (q := 156) (tgt := 161) C (dm_Mo_verdictOf 93 rfl) rfl (by decide) (fun c153 => ?_) (fun c153 => ?_)
            · refine gi_iload_n (q := 162) (i := 3) C (dm_Mo_verdictOf 96 rfl) rfl rfl rfl ?_
              refine gi_bipush (q := 164) (v := 30) C (dm_Mo_verdictOf 97 rfl) rfl (by decide) ?_
              refine gi_icmp_ne (q := 167) (tgt := 174) C (dm_Mo_verdictOf 98 rfl) rfl (by decide) (fun c164 => ?_) (fun c164 => ?_)
              · refine gi_iload (q := 176) C (dm_Mo_verdictOf 103 rfl) rfl rfl ?_
                refine gi_iconst (q := 177) (v := 2) C (dm_Mo_verdictOf 104 rfl) rfl (by decide) ?_
                refine gi_isub (q := 178) C (dm_Mo_verdictOf 105 rfl) rfl ?_
                rw [jo29] at c153
                rw [jo30] at c164
                rw [show (2 : Int32) = nI 2 from rfl, nI_sb (by omega) (by omega), show 14 * (60 * m + i) + 5 + x.1 - 2 = t5 by omega]
                refine gi_istore (q := 180) C (dm_Mo_verdictOf 106 rfl) rfl (Nat.le_of_ble_eq_true rfl) ?_
                refine gi_iload_n (q := 181) (i := 2) C (dm_Mo_verdictOf 107 rfl) rfl rfl rfl ?_
                refine gi_iconst (q := 182) (v := 2) C (dm_Mo_verdictOf 108 rfl) rfl (by decide) ?_
                refine gi_icmp_ne (q := 185) (tgt := 215) C (dm_Mo_verdictOf 109 rfl) rfl (by decide) (fun c182 => ?_) (fun c182 => ?_)
                · refine gi_aload_n (q := 216) (i := 0) C (dm_Mo_verdictOf 126 rfl) rfl rfl rfl ?_
                  refine gi_get (q := 219) C (dm_Mo_verdictOf 127 rfl) rfl fl_Mo_70 Ha (mo_g35 Hf) ?_
                  refine gi_iload (q := 221) C (dm_Mo_verdictOf 128 rfl) rfl rfl ?_
                  refine gi_iald (q := 222) C (dm_Mo_verdictOf 129 rfl) rfl rfl (mo_a35 H) (inN (show t5 < 13440 by omega) (by decide)) ?_
                  rw [nI_clamp (show t5 < 2 ^ 31 by omega), e35]
                  refine gi_if_ne (q := 225) (tgt := 227) C (dm_Mo_verdictOf 130 rfl) rfl (by decide) (fun c222 => ?_) (fun c222 => ?_)
                  · have fin : jdV P Fz (60 * m + i) 3 = if 0 ≤ Y.1 ∧ Y.2.1 < (lnQ Fz b 25).1 then 1 else if Y.2.1 < 0 ∨ (lnQ Fz b 25).2 ≤ Y.1 then 3 else 2 := by
                      rw [ea]
                      unfold jdR
                      rw [if_neg (by omega), if_neg (by omega), if_neg (by omega), if_pos (by omega), e7, eB, eY]
                      have sU := hU (60 * m + i) (by omega) tl ((Fz (60 * m + i)).n - 1 - (op - 29)) (by omega)
                      rw [eB] at sU
                      exact ixJ_Q hF c222 sU
                    have r39 : ∀ j, j < 25 → F 39 j = bI (Fz (480 + j)).told := fun j hj => by
                      have q := (h0.2 (480 + j) (by omega) (by omega)).1
                      rw [tix_l hj] at q
                      exact q
                    refine gi_iload (q := 229) C (dm_Mo_verdictOf 133 rfl) rfl rfl ?_
                    refine gi_iconst (q := 230) (v := 1) C (dm_Mo_verdictOf 134 rfl) rfl (by decide) ?_
                    refine gi_iadd (q := 231) C (dm_Mo_verdictOf 135 rfl) rfl ?_
                    rw [nI_1]
                    refine gi_istore (q := 233) C (dm_Mo_verdictOf 136 rfl) rfl (Nat.le_of_ble_eq_true rfl) ?_
                    refine gi_ldc2 (q := 236) C (dm_Mo_verdictOf 137 rfl) rfl kc_Mo_347 ?_
                    refine gi_lstore (q := 238) C (dm_Mo_verdictOf 138 rfl) rfl (Nat.le_of_ble_eq_true rfl) ?_
                    refine gi_ldc2 (q := 241) C (dm_Mo_verdictOf 139 rfl) rfl kc_Mo_311 ?_
                    refine gi_lstore (q := 243) C (dm_Mo_verdictOf 140 rfl) rfl (Nat.le_of_ble_eq_true rfl) ?_
                    refine gi_iconst (q := 244) (v := 0) C (dm_Mo_verdictOf 141 rfl) rfl (by decide) ?_
                    refine gi_istore (q := 246) C (dm_Mo_verdictOf 142 rfl) rfl (Nat.le_of_ble_eq_true rfl) ?_
                    refine gi_while (σ := Nat) (fun j => 25 - j) (fun j => [(11, .int (nI j)), (9, .long (eL (lnQ Fz b j).2)), (7, .long (eL (lnQ Fz b j).1)), (6, .int (nI (t5 + 1))), (5, .int (nI t5)), (0, .ref M)]) (fun _ => n) (fun _ => 0) (fun _ => 0) (fun j y' => j ≤ 25 ∧ h = y') 0 ⟨Nat.zero_le _, rfl⟩ ?_ (List.forall_mem_cons.mpr ⟨(by first | rfl | (simp [gi_look]; done)), List.forall_mem_cons.mpr ⟨(by first | rfl | (simp [gi_look]; done)), List.forall_mem_cons.mpr ⟨(by first | rfl | (simp [gi_look]; done)), List.forall_mem_cons.mpr ⟨(by first | rfl | (simp [gi_look]; done)), List.forall_mem_cons.mpr ⟨(by first | rfl | (simp [gi_look]; done)), List.forall_mem_cons.mpr ⟨(by first | rfl | (simp [gi_look]; done)), fun _ h => absurd h List.not_mem_nil⟩⟩⟩⟩⟩⟩) rfl rfl rfl
                    rintro j y' ⟨hj, rfl⟩ ihj
                    try dsimp only at *
                    refine gi_iload (q := 248) C (dm_Mo_verdictOf 143 rfl) rfl rfl ?_
                    refine gi_bipush (q := 250) (v := 25) C (dm_Mo_verdictOf 144 rfl) rfl (by decide) ?_
                    refine gi_icmp_ge (q := 253) (tgt := 313) C (dm_Mo_verdictOf 145 rfl) rfl (by decide) (fun c250 => ?_) (fun c250 => ?_)
                    · have jl : j = 25 := by
                        rcases Nat.lt_or_ge j (25) with q | q
                        · exact absurd c250 (Int32.not_le.mpr (nI_lt (b := 25) q (by omega)))
                        · omega
                      subst jl
                      have qb := lnQ_b hF (b := b) (i := 25) (by omega)
                      refine gi_aload_n (q := 314) (i := 0) C (dm_Mo_verdictOf 177 rfl) rfl rfl rfl ?_
                      refine gi_get (q := 317) C (dm_Mo_verdictOf 178 rfl) rfl fl_Mo_60 Ha (mo_g32 Hf) ?_
                      refine gi_iload (q := 319) C (dm_Mo_verdictOf 179 rfl) rfl rfl ?_
                      refine gi_lald (q := 320) C (dm_Mo_verdictOf 180 rfl) rfl rfl (mo_a32 H) (inN (show t5 + 1 < 13440 by omega) (by decide)) ?_
                      rw [nI_clamp (show t5 + 1 < 2 ^ 31 by omega), e32]
                      refine gi_lconst (q := 321) (v := 0) C (dm_Mo_verdictOf 181 rfl) rfl (by decide) ?_
                      refine gi_lcmp (q := 322) C (dm_Mo_verdictOf 182 rfl) rfl ?_
                      refine gi_if_lt (q := 325) (tgt := 340) C (dm_Mo_verdictOf 183 rfl) rfl (by decide) (fun c322 => ?_) (fun c322 => ?_)
                      · refine gi_aload_n (q := 341) (i := 0) C (dm_Mo_verdictOf 193 rfl) rfl rfl rfl ?_
                        refine gi_get (q := 344) C (dm_Mo_verdictOf 194 rfl) rfl fl_Mo_64 Ha (mo_g33 Hf) ?_
                        refine gi_iload (q := 346) C (dm_Mo_verdictOf 195 rfl) rfl rfl ?_
                        refine gi_lald (q := 347) C (dm_Mo_verdictOf 196 rfl) rfl rfl (mo_a33 H) (inN (show t5 + 1 < 13440 by omega) (by decide)) ?_
                        rw [nI_clamp (show t5 + 1 < 2 ^ 31 by omega), e33]
                        refine gi_lconst (q := 348) (v := 0) C (dm_Mo_verdictOf 197 rfl) rfl (by decide) ?_
                        refine gi_lcmp (q := 349) C (dm_Mo_verdictOf 198 rfl) rfl ?_
                        refine gi_if_lt (q := 352) (tgt := 365) C (dm_Mo_verdictOf 199 rfl) rfl (by decide) (fun c349 => ?_) (fun c349 => ?_)
                        · refine gi_iconst (q := 366) (v := 3) C (dm_Mo_verdictOf 207 rfl) rfl (by decide) ?_
                          refine gi_goto (tgt := 370) C (dm_Mo_verdictOf 208 rfl) (by decide) ?_
                          refine gi_iret C hr (dm_Mo_verdictOf 210 rfl) ?_
                          (try simp (disch := omega) only [lg_cmp_ge, lg_cmp_le, lg_cmp_gt, lg_cmp_lt, lg_cmp_eq, eL_0, eL_1, eL_m1, eL_LO, eL_HI, eL_W, eL_add, eL_sub, eL_mul, eL_neg, eL_lt, eL_le, eL_eq, eL_remN, eL_mod0, ne_eq, Int64.not_lt, Int64.not_le] at c322)
                          (try simp (disch := omega) only [lg_cmp_ge, lg_cmp_le, lg_cmp_gt, lg_cmp_lt, lg_cmp_eq, eL_0, eL_1, eL_m1, eL_LO, eL_HI, eL_W, eL_add, eL_sub, eL_mul, eL_neg, eL_lt, eL_le, eL_eq, eL_remN, eL_mod0, ne_eq, Int64.not_lt, Int64.not_le] at c349)
                          refine ⟨?_, rfl, rfl⟩
                          rw [fin, if_neg (by omega)]
                          first
                            | (rw [if_pos (by omega)]; done)
                            | (rw [if_neg (by omega)]; done)
                        · refine gi_aload_n (q := 353) (i := 0) C (dm_Mo_verdictOf 200 rfl) rfl rfl rfl ?_
                          refine gi_get (q := 356) C (dm_Mo_verdictOf 201 rfl) rfl fl_Mo_60 Ha (mo_g32 Hf) ?_
                          refine gi_iload (q := 358) C (dm_Mo_verdictOf 202 rfl) rfl rfl ?_
                          refine gi_lald (q := 359) C (dm_Mo_verdictOf 203 rfl) rfl rfl (mo_a32 H) (inN (show t5 + 1 < 13440 by omega) (by decide)) ?_
                          rw [nI_clamp (show t5 + 1 < 2 ^ 31 by omega), e32]
                          refine gi_lload (q := 361) C (dm_Mo_verdictOf 204 rfl) rfl rfl ?_
                          refine gi_lcmp (q := 362) C (dm_Mo_verdictOf 205 rfl) rfl ?_
                          refine gi_if_lt (q := 365) (tgt := 369) C (dm_Mo_verdictOf 206 rfl) rfl (by decide) (fun c362 => ?_) (fun c362 => ?_)
                          · refine gi_iconst (q := 370) (v := 2) C (dm_Mo_verdictOf 209 rfl) rfl (by decide) ?_
                            refine gi_iret C hr (dm_Mo_verdictOf 210 rfl) ?_
                            (try simp (disch := omega) only [lg_cmp_ge, lg_cmp_le, lg_cmp_gt, lg_cmp_lt, lg_cmp_eq, eL_0, eL_1, eL_m1, eL_LO, eL_HI, eL_W, eL_add, eL_sub, eL_mul, eL_neg, eL_lt, eL_le, eL_eq, eL_remN, eL_mod0, ne_eq, Int64.not_lt, Int64.not_le] at c322)
                            (try simp (disch := omega) only [lg_cmp_ge, lg_cmp_le, lg_cmp_gt, lg_cmp_lt, lg_cmp_eq, eL_0, eL_1, eL_m1, eL_LO, eL_HI, eL_W, eL_add, eL_sub, eL_mul, eL_neg, eL_lt, eL_le, eL_eq, eL_remN, eL_mod0, ne_eq, Int64.not_lt, Int64.not_le] at c349)
                            (try simp (disch := omega) only [lg_cmp_ge, lg_cmp_le, lg_cmp_gt, lg_cmp_lt, lg_cmp_eq, eL_0, eL_1, eL_m1, eL_LO, eL_HI, eL_W, eL_add, eL_sub, eL_mul, eL_neg, eL_lt, eL_le, eL_eq, eL_remN, eL_mod0, ne_eq, Int64.not_lt, Int64.not_le] at c362)
                            refine ⟨?_, rfl, rfl⟩
                            rw [fin, if_neg (by omega)]
                            first
                              | (rw [if_pos (by omega)]; done)
                              | (rw [if_neg (by omega)]; done)
                          · refine gi_iconst (q := 366) (v := 3) C (dm_Mo_verdictOf 207 rfl) rfl (by decide) ?_
                            refine gi_goto (tgt := 370) C (dm_Mo_verdictOf 208 rfl) (by decide) ?_
                            refine gi_iret C hr (dm_Mo_verdictOf 210 rfl) ?_
                            (try simp (disch := omega) only [lg_cmp_ge, lg_cmp_le, lg_cmp_gt, lg_cmp_lt, lg_cmp_eq, eL_0, eL_1, eL_m1, eL_LO, eL_HI, eL_W, eL_add, eL_sub, eL_mul, eL_neg, eL_lt, eL_le, eL_eq, eL_remN, eL_mod0, ne_eq, Int64.not_lt, Int64.not_le] at c322)
                            (try simp (disch := omega) only [lg_cmp_ge, lg_cmp_le, lg_cmp_gt, lg_cmp_lt, lg_cmp_eq, eL_0, eL_1, eL_m1, eL_LO, eL_HI, eL_W, eL_add, eL_sub, eL_mul, eL_neg, eL_lt, eL_le, eL_eq, eL_remN, eL_mod0, ne_eq, Int64.not_lt, Int64.not_le] at c349)
                            (try simp (disch := omega) only [lg_cmp_ge, lg_cmp_le, lg_cmp_gt, lg_cmp_lt, lg_cmp_eq, eL_0, eL_1, eL_m1, eL_LO, eL_HI, eL_W, eL_add, eL_sub, eL_mul, eL_neg, eL_lt, eL_le, eL_eq, eL_remN, eL_mod0, ne_eq, Int64.not_lt, Int64.not_le] at c362)
                            refine ⟨?_, rfl, rfl⟩
                            rw [fin, if_neg (by omega)]
                            first
                              | (rw [if_pos (by omega)]; done)
                              | (rw [if_neg (by omega)]; done)
                      · refine gi_aload_n (q := 326) (i := 0) C (dm_Mo_verdictOf 184 rfl) rfl rfl rfl ?_
                        refine gi_get (q := 329) C (dm_Mo_verdictOf 185 rfl) rfl fl_Mo_64 Ha (mo_g33 Hf) ?_
                        refine gi_iload (q := 331) C (dm_Mo_verdictOf 186 rfl) rfl rfl ?_
                        refine gi_lald (q := 332) C (dm_Mo_verdictOf 187 rfl) rfl rfl (mo_a33 H) (inN (show t5 + 1 < 13440 by omega) (by decide)) ?_
                        rw [nI_clamp (show t5 + 1 < 2 ^ 31 by omega), e33]
                        refine gi_lload (q := 334) C (dm_Mo_verdictOf 188 rfl) rfl rfl ?_
                        refine gi_lcmp (q := 335) C (dm_Mo_verdictOf 189 rfl) rfl ?_
                        refine gi_if_ge (q := 338) (tgt := 340) C (dm_Mo_verdictOf 190 rfl) rfl (by decide) (fun c335 => ?_) (fun c335 => ?_)
                        · refine gi_aload_n (q := 341) (i := 0) C (dm_Mo_verdictOf 193 rfl) rfl rfl rfl ?_
                          refine gi_get (q := 344) C (dm_Mo_verdictOf 194 rfl) rfl fl_Mo_64 Ha (mo_g33 Hf) ?_
                          refine gi_iload (q := 346) C (dm_Mo_verdictOf 195 rfl) rfl rfl ?_
                          refine gi_lald (q := 347) C (dm_Mo_verdictOf 196 rfl) rfl rfl (mo_a33 H) (inN (show t5 + 1 < 13440 by omega) (by decide)) ?_
                          rw [nI_clamp (show t5 + 1 < 2 ^ 31 by omega), e33]
                          refine gi_lconst (q := 348) (v := 0) C (dm_Mo_verdictOf 197 rfl) rfl (by decide) ?_
                          refine gi_lcmp (q := 349) C (dm_Mo_verdictOf 198 rfl) rfl ?_
                          refine gi_if_lt (q := 352) (tgt := 365) C (dm_Mo_verdictOf 199 rfl) rfl (by decide) (fun c349 => ?_) (fun c349 => ?_)
                          · refine gi_iconst (q := 366) (v := 3) C (dm_Mo_verdictOf 207 rfl) rfl (by decide) ?_
                            refine gi_goto (tgt := 370) C (dm_Mo_verdictOf 208 rfl) (by decide) ?_
                            refine gi_iret C hr (dm_Mo_verdictOf 210 rfl) ?_
                            (try simp (disch := omega) only [lg_cmp_ge, lg_cmp_le, lg_cmp_gt, lg_cmp_lt, lg_cmp_eq, eL_0, eL_1, eL_m1, eL_LO, eL_HI, eL_W, eL_add, eL_sub, eL_mul, eL_neg, eL_lt, eL_le, eL_eq, eL_remN, eL_mod0, ne_eq, Int64.not_lt, Int64.not_le] at c322)
                            (try simp (disch := omega) only [lg_cmp_ge, lg_cmp_le, lg_cmp_gt, lg_cmp_lt, lg_cmp_eq, eL_0, eL_1, eL_m1, eL_LO, eL_HI, eL_W, eL_add, eL_sub, eL_mul, eL_neg, eL_lt, eL_le, eL_eq, eL_remN, eL_mod0, ne_eq, Int64.not_lt, Int64.not_le] at c335)
                            (try simp (disch := omega) only [lg_cmp_ge, lg_cmp_le, lg_cmp_gt, lg_cmp_lt, lg_cmp_eq, eL_0, eL_1, eL_m1, eL_LO, eL_HI, eL_W, eL_add, eL_sub, eL_mul, eL_neg, eL_lt, eL_le, eL_eq, eL_remN, eL_mod0, ne_eq, Int64.not_lt, Int64.not_le] at c349)
                            refine ⟨?_, rfl, rfl⟩
                            rw [fin, if_neg (by omega)]
                            first
                              | (rw [if_pos (by omega)]; done)
                              | (rw [if_neg (by omega)]; done)
                          · refine gi_aload_n (q := 353) (i := 0) C (dm_Mo_verdictOf 200 rfl) rfl rfl rfl ?_
                            refine gi_get (q := 356) C (dm_Mo_verdictOf 201 rfl) rfl fl_Mo_60 Ha (mo_g32 Hf) ?_
                            refine gi_iload (q := 358) C (dm_Mo_verdictOf 202 rfl) rfl rfl ?_
                            refine gi_lald (q := 359) C (dm_Mo_verdictOf 203 rfl) rfl rfl (mo_a32 H) (inN (show t5 + 1 < 13440 by omega) (by decide)) ?_
                            rw [nI_clamp (show t5 + 1 < 2 ^ 31 by omega), e32]
                            refine gi_lload (q := 361) C (dm_Mo_verdictOf 204 rfl) rfl rfl ?_
                            refine gi_lcmp (q := 362) C (dm_Mo_verdictOf 205 rfl) rfl ?_
                            refine gi_if_lt (q := 365) (tgt := 369) C (dm_Mo_verdictOf 206 rfl) rfl (by decide) (fun c362 => ?_) (fun c362 => ?_)
                            · refine gi_iconst (q := 370) (v := 2) C (dm_Mo_verdictOf 209 rfl) rfl (by decide) ?_
                              refine gi_iret C hr (dm_Mo_verdictOf 210 rfl) ?_
                              (try simp (disch := omega) only [lg_cmp_ge, lg_cmp_le, lg_cmp_gt, lg_cmp_lt, lg_cmp_eq, eL_0, eL_1, eL_m1, eL_LO, eL_HI, eL_W, eL_add, eL_sub, eL_mul, eL_neg, eL_lt, eL_le, eL_eq, eL_remN, eL_mod0, ne_eq, Int64.not_lt, Int64.not_le] at c322)
                              (try simp (disch := omega) only [lg_cmp_ge, lg_cmp_le, lg_cmp_gt, lg_cmp_lt, lg_cmp_eq, eL_0, eL_1, eL_m1, eL_LO, eL_HI, eL_W, eL_add, eL_sub, eL_mul, eL_neg, eL_lt, eL_le, eL_eq, eL_remN, eL_mod0, ne_eq, Int64.not_lt, Int64.not_le] at c335)
                              (try simp (disch := omega) only [lg_cmp_ge, lg_cmp_le, lg_cmp_gt, lg_cmp_lt, lg_cmp_eq, eL_0, eL_1, eL_m1, eL_LO, eL_HI, eL_W, eL_add, eL_sub, eL_mul, eL_neg, eL_lt, eL_le, eL_eq, eL_remN, eL_mod0, ne_eq, Int64.not_lt, Int64.not_le] at c349)
                              (try simp (disch := omega) only [lg_cmp_ge, lg_cmp_le, lg_cmp_gt, lg_cmp_lt, lg_cmp_eq, eL_0, eL_1, eL_m1, eL_LO, eL_HI, eL_W, eL_add, eL_sub, eL_mul, eL_neg, eL_lt, eL_le, eL_eq, eL_remN, eL_mod0, ne_eq, Int64.not_lt, Int64.not_le] at c362)
                              refine ⟨?_, rfl, rfl⟩
                              rw [fin, if_neg (by omega)]
                              first
                                | (rw [if_pos (by omega)]; done)
                                | (rw [if_neg (by omega)]; done)
                            · refine gi_iconst (q := 366) (v := 3) C (dm_Mo_verdictOf 207 rfl) rfl (by decide) ?_
                              refine gi_goto (tgt := 370) C (dm_Mo_verdictOf 208 rfl) (by decide) ?_
                              refine gi_iret C hr (dm_Mo_verdictOf 210 rfl) ?_
                              (try simp (disch := omega) only [lg_cmp_ge, lg_cmp_le, lg_cmp_gt, lg_cmp_lt, lg_cmp_eq, eL_0, eL_1, eL_m1, eL_LO, eL_HI, eL_W, eL_add, eL_sub, eL_mul, eL_neg, eL_lt, eL_le, eL_eq, eL_remN, eL_mod0, ne_eq, Int64.not_lt, Int64.not_le] at c322)
                              (try simp (disch := omega) only [lg_cmp_ge, lg_cmp_le, lg_cmp_gt, lg_cmp_lt, lg_cmp_eq, eL_0, eL_1, eL_m1, eL_LO, eL_HI, eL_W, eL_add, eL_sub, eL_mul, eL_neg, eL_lt, eL_le, eL_eq, eL_remN, eL_mod0, ne_eq, Int64.not_lt, Int64.not_le] at c335)
                              (try simp (disch := omega) only [lg_cmp_ge, lg_cmp_le, lg_cmp_gt, lg_cmp_lt, lg_cmp_eq, eL_0, eL_1, eL_m1, eL_LO, eL_HI, eL_W, eL_add, eL_sub, eL_mul, eL_neg, eL_lt, eL_le, eL_eq, eL_remN, eL_mod0, ne_eq, Int64.not_lt, Int64.not_le] at c349)
                              (try simp (disch := omega) only [lg_cmp_ge, lg_cmp_le, lg_cmp_gt, lg_cmp_lt, lg_cmp_eq, eL_0, eL_1, eL_m1, eL_LO, eL_HI, eL_W, eL_add, eL_sub, eL_mul, eL_neg, eL_lt, eL_le, eL_eq, eL_remN, eL_mod0, ne_eq, Int64.not_lt, Int64.not_le] at c362)
                              refine ⟨?_, rfl, rfl⟩
                              rw [fin, if_neg (by omega)]
                              first
                                | (rw [if_pos (by omega)]; done)
                                | (rw [if_neg (by omega)]; done)
                        · refine gi_iconst (q := 339) (v := 1) C (dm_Mo_verdictOf 191 rfl) rfl (by decide) ?_
                          refine gi_iret C hr (dm_Mo_verdictOf 192 rfl) ?_
                          (try simp (disch := omega) only [lg_cmp_ge, lg_cmp_le, lg_cmp_gt, lg_cmp_lt, lg_cmp_eq, eL_0, eL_1, eL_m1, eL_LO, eL_HI, eL_W, eL_add, eL_sub, eL_mul, eL_neg, eL_lt, eL_le, eL_eq, eL_remN, eL_mod0, ne_eq, Int64.not_lt, Int64.not_le] at c322)
                          (try simp (disch := omega) only [lg_cmp_ge, lg_cmp_le, lg_cmp_gt, lg_cmp_lt, lg_cmp_eq, eL_0, eL_1, eL_m1, eL_LO, eL_HI, eL_W, eL_add, eL_sub, eL_mul, eL_neg, eL_lt, eL_le, eL_eq, eL_remN, eL_mod0, ne_eq, Int64.not_lt, Int64.not_le] at c335)
                          refine ⟨?_, rfl, rfl⟩
                          rw [fin, if_pos (by omega)]
                    · have jl : j < 25 := by
                        rcases Nat.lt_or_ge j (25) with q | q
                        · exact q
                        · exact absurd (nI_le (a := 25) q (by omega)) c250
                      refine gi_aload_n (q := 254) (i := 0) C (dm_Mo_verdictOf 146 rfl) rfl rfl rfl ?_
                      refine gi_get (q := 257) C (dm_Mo_verdictOf 147 rfl) rfl fl_Mo_70 Ha (mo_g35 Hf) ?_
                      refine gi_iload (q := 259) C (dm_Mo_verdictOf 148 rfl) rfl rfl ?_
                      refine gi_iald (q := 260) C (dm_Mo_verdictOf 149 rfl) rfl rfl (mo_a35 H) (inN (show t5 < 13440 by omega) (by decide)) ?_
                      rw [nI_clamp (show t5 < 2 ^ 31 by omega), e35]
                      refine gi_iload (q := 262) C (dm_Mo_verdictOf 150 rfl) rfl rfl ?_
                      refine gi_ishr (q := 263) C (dm_Mo_verdictOf 151 rfl) rfl ?_
                      refine gi_iconst (q := 264) (v := 1) C (dm_Mo_verdictOf 152 rfl) rfl (by decide) ?_
                      refine gi_iand (q := 265) C (dm_Mo_verdictOf 153 rfl) rfl ?_
                      refine gi_iconst (q := 266) (v := 1) C (dm_Mo_verdictOf 154 rfl) rfl (by decide) ?_
                      refine gi_icmp_ne (q := 269) (tgt := 307) C (dm_Mo_verdictOf 155 rfl) rfl (by decide) (fun c266 => ?_) (fun c266 => ?_)
                      · have qs : lnQ Fz b (j + 1) = lnQ Fz b j := by
                          show (if bitA b j = true ∧ (Fz (480 + j)).told = true then _ else _) = _
                          rw [if_neg]
                          first
                            | exact fun q => c266 ((sh_bit b (by omega)).mpr q.1)
                            | (rw [bI_fa c276]; exact fun q => absurd q.2 (by decide))
                        refine gi_iinc (q := 310) (v := 1) C (dm_Mo_verdictOf 175 rfl) rfl rfl (by decide) (Nat.le_of_ble_eq_true rfl) ?_
                        refine gi_goto (tgt := 246) C (dm_Mo_verdictOf 176 rfl) (by decide) ?_
                        refine gi_close (ihj (j + 1) _ ⟨jl, rfl⟩ (by omega)) (List.forall_mem_cons.mpr ⟨(by first | rfl | (simp [gi_look, nI_1]; done) | (rw [qs]; rfl)), List.forall_mem_cons.mpr ⟨(by first | rfl | (simp [gi_look, nI_1]; done) | (rw [qs]; rfl)), List.forall_mem_cons.mpr ⟨(by first | rfl | (simp [gi_look, nI_1]; done) | (rw [qs]; rfl)), List.forall_mem_cons.mpr ⟨(by first | rfl | (simp [gi_look, nI_1]; done) | (rw [qs]; rfl)), List.forall_mem_cons.mpr ⟨(by first | rfl | (simp [gi_look, nI_1]; done) | (rw [qs]; rfl)), List.forall_mem_cons.mpr ⟨(by first | rfl | (simp [gi_look, nI_1]; done) | (rw [qs]; rfl)), fun _ h => absurd h List.not_mem_nil⟩⟩⟩⟩⟩⟩) rfl rfl rfl
                      · refine gi_aload_n (q := 270) (i := 0) C (dm_Mo_verdictOf 156 rfl) rfl rfl rfl ?_
                        refine gi_get (q := 273) C (dm_Mo_verdictOf 157 rfl) rfl fl_Mo_83 Ha (mo_g39 Hf) ?_
                        refine gi_iload (q := 275) C (dm_Mo_verdictOf 158 rfl) rfl rfl ?_
                        refine gi_zald (q := 276) C (dm_Mo_verdictOf 159 rfl) rfl rfl (mo_a39 H) (inN (show j < 160 by omega) (by decide)) ?_
                        rw [nI_clamp (show j < 2 ^ 31 by omega), r39 j jl]
                        refine gi_if_eq (q := 279) (tgt := 307) C (dm_Mo_verdictOf 160 rfl) rfl (by decide) (fun c276 => ?_) (fun c276 => ?_)
                        · have qs : lnQ Fz b (j + 1) = lnQ Fz b j := by
                            show (if bitA b j = true ∧ (Fz (480 + j)).told = true then _ else _) = _
                            rw [if_neg]
                            first
                              | exact fun q => c266 ((sh_bit b (by omega)).mpr q.1)
                              | (rw [bI_fa c276]; exact fun q => absurd q.2 (by decide))
                          refine gi_iinc (q := 310) (v := 1) C (dm_Mo_verdictOf 175 rfl) rfl rfl (by decide) (Nat.le_of_ble_eq_true rfl) ?_
                          refine gi_goto (tgt := 246) C (dm_Mo_verdictOf 176 rfl) (by decide) ?_
                          refine gi_close (ihj (j + 1) _ ⟨jl, rfl⟩ (by omega)) (List.forall_mem_cons.mpr ⟨(by first | rfl | (simp [gi_look, nI_1]; done) | (rw [qs]; rfl)), List.forall_mem_cons.mpr ⟨(by first | rfl | (simp [gi_look, nI_1]; done) | (rw [qs]; rfl)), List.forall_mem_cons.mpr ⟨(by first | rfl | (simp [gi_look, nI_1]; done) | (rw [qs]; rfl)), List.forall_mem_cons.mpr ⟨(by first | rfl | (simp [gi_look, nI_1]; done) | (rw [qs]; rfl)), List.forall_mem_cons.mpr ⟨(by first | rfl | (simp [gi_look, nI_1]; done) | (rw [qs]; rfl)), List.forall_mem_cons.mpr ⟨(by first | rfl | (simp [gi_look, nI_1]; done) | (rw [qs]; rfl)), fun _ h => absurd h List.not_mem_nil⟩⟩⟩⟩⟩⟩) rfl rfl rfl
                        · have bj : bitA b j = true := (sh_bit b (by omega)).mp c266
                          have tj : (Fz (480 + j)).told = true := bI_t c276
                          obtain ⟨ez, okz⟩ := tv_one hF (show 480 ≤ 480 + j by omega) (by omega) tj
                          have rt := (h0.2 (480 + j) (by omega) (by omega)).2 tj
                          rw [ez, tix_l (by omega)] at rt
                          obtain ⟨z, ezz⟩ : ∃ z, z = spA ((Fz (480 + j)).f 0).1 := ⟨_, rfl⟩
                          rw [← ezz] at rt okz
                          obtain ⟨s40, s41, -⟩ := rt
                          change G 40 _ = _ at s40
                          change G 41 _ = _ at s41
                          obtain ⟨z1, z2, z3, -⟩ := id okz
                          have qb := lnQ_b hF (b := b) (i := j) (by omega)
                          refine gi_lload (q := 281) C (dm_Mo_verdictOf 161 rfl) rfl rfl ?_
                          refine gi_aload_n (q := 282) (i := 0) C (dm_Mo_verdictOf 162 rfl) rfl rfl rfl ?_
                          refine gi_get (q := 285) C (dm_Mo_verdictOf 163 rfl) rfl fl_Mo_86 Ha (mo_g40 Hf) ?_
                          refine gi_iload (q := 287) C (dm_Mo_verdictOf 164 rfl) rfl rfl ?_
                          refine gi_lald (q := 288) C (dm_Mo_verdictOf 165 rfl) rfl rfl (mo_a40 H) (inN (show j < 160 by omega) (by decide)) ?_
                          rw [nI_clamp (show j < 2 ^ 31 by omega), s40]
                          refine gi_calls 2 (q := 291) C (dm_Mo_verdictOf 166 rfl) rfl my_Mo_min lk_Mo_252 sm_Mo_min (c_Mo_min _ _ (by omega) (by omega) (by omega) (by omega)) rfl rfl ⟨(Nat.le_of_ble_eq_true rfl), (Nat.le_of_ble_eq_true rfl)⟩ (Nat.le_of_ble_eq_true rfl) ⟨(Nat.le_of_ble_eq_true rfl), (Nat.le_of_ble_eq_true rfl)⟩ (fun r288 n288 h288 e288 => ?_)
                          obtain ⟨rfl, q288, u288⟩ := e288
                          rw [q288, u288]
                          refine gi_lstore (q := 293) C (dm_Mo_verdictOf 167 rfl) rfl (Nat.le_of_ble_eq_true rfl) ?_
                          refine gi_lload (q := 295) C (dm_Mo_verdictOf 168 rfl) rfl rfl ?_
                          refine gi_aload_n (q := 296) (i := 0) C (dm_Mo_verdictOf 169 rfl) rfl rfl rfl ?_
                          refine gi_get (q := 299) C (dm_Mo_verdictOf 170 rfl) rfl fl_Mo_89 Ha (mo_g41 Hf) ?_
                          refine gi_iload (q := 301) C (dm_Mo_verdictOf 171 rfl) rfl rfl ?_
                          refine gi_lald (q := 302) C (dm_Mo_verdictOf 172 rfl) rfl rfl (mo_a41 H) (inN (show j < 160 by omega) (by decide)) ?_
                          rw [nI_clamp (show j < 2 ^ 31 by omega), s41]
                          refine gi_calls 2 (q := 305) C (dm_Mo_verdictOf 173 rfl) rfl my_Mo_max lk_Mo_256 sm_Mo_max (c_Mo_max _ _ (by omega) (by omega) (by omega) (by omega)) rfl rfl ⟨(Nat.le_of_ble_eq_true rfl), (Nat.le_of_ble_eq_true rfl)⟩ (Nat.le_of_ble_eq_true rfl) ⟨(Nat.le_of_ble_eq_true rfl), (Nat.le_of_ble_eq_true rfl)⟩ (fun r302 n302 h302 e302 => ?_)
                          obtain ⟨rfl, q302, u302⟩ := e302
                          rw [q302, u302]
                          refine gi_lstore (q := 307) C (dm_Mo_verdictOf 174 rfl) rfl (Nat.le_of_ble_eq_true rfl) ?_
                          have qs : lnQ Fz b (j + 1) = (min (lnQ Fz b j).1 z.1, max (lnQ Fz b j).2 z.2.1) := by
                            show (if bitA b j = true ∧ (Fz (480 + j)).told = true then _ else _) = _
                            rw [if_pos ⟨bj, tj⟩, ezz]
                          refine gi_iinc (q := 310) (v := 1) C (dm_Mo_verdictOf 175 rfl) rfl rfl (by decide) (Nat.le_of_ble_eq_true rfl) ?_
                          refine gi_goto (tgt := 246) C (dm_Mo_verdictOf 176 rfl) (by decide) ?_
                          refine gi_close (ihj (j + 1) _ ⟨jl, rfl⟩ (by omega)) (List.forall_mem_cons.mpr ⟨(by first | rfl | (simp [gi_look, nI_1]; done) | (rw [qs]; rfl)), List.forall_mem_cons.mpr ⟨(by first | rfl | (simp [gi_look, nI_1]; done) | (rw [qs]; rfl)), List.forall_mem_cons.mpr ⟨(by first | rfl | (simp [gi_look, nI_1]; done) | (rw [qs]; rfl)), List.forall_mem_cons.mpr ⟨(by first | rfl | (simp [gi_look, nI_1]; done) | (rw [qs]; rfl)), List.forall_mem_cons.mpr ⟨(by first | rfl | (simp [gi_look, nI_1]; done) | (rw [qs]; rfl)), List.forall_mem_cons.mpr ⟨(by first | rfl | (simp [gi_look, nI_1]; done) | (rw [qs]; rfl)), fun _ h => absurd h List.not_mem_nil⟩⟩⟩⟩⟩⟩) rfl rfl rfl
                  · refine gi_iconst (q := 226) (v := 1) C (dm_Mo_verdictOf 131 rfl) rfl (by decide) ?_
                    refine gi_iret C hr (dm_Mo_verdictOf 132 rfl) ?_
                    refine ⟨?_, rfl, rfl⟩
                    rw [ea]
                    unfold jdR
                    rw [if_neg (by omega), if_neg (by omega), if_neg (by omega), if_pos (by omega), e7, eB, eY]
                    show _ = some (Value.int (ixJ Fz b Y))
                    rw [c222, ixJ_0]
                · exact absurd c182 (by decide)
              · refine gi_iload (q := 169) C (dm_Mo_verdictOf 99 rfl) rfl rfl ?_
                refine gi_iconst (q := 170) (v := 1) C (dm_Mo_verdictOf 100 rfl) rfl (by decide) ?_
                refine gi_isub (q := 171) C (dm_Mo_verdictOf 101 rfl) rfl ?_
                refine gi_goto (tgt := 178) C (dm_Mo_verdictOf 102 rfl) (by decide) ?_
                rw [jo30] at c164
                rw [show (1 : Int32) = nI 1 from rfl, nI_sb (by omega) (by omega), show 14 * (60 * m + i) + 5 + x.1 - 1 = t5 by omega]
                refine gi_istore (q := 180) C (dm_Mo_verdictOf 106 rfl) rfl (Nat.le_of_ble_eq_true rfl) ?_
                refine gi_iload_n (q := 181) (i := 2) C (dm_Mo_verdictOf 107 rfl) rfl rfl rfl ?_
                refine gi_iconst (q := 182) (v := 2) C (dm_Mo_verdictOf 108 rfl) rfl (by decide) ?_
                refine gi_icmp_ne (q := 185) (tgt := 215) C (dm_Mo_verdictOf 109 rfl) rfl (by decide) (fun c182 => ?_) (fun c182 => ?_)
                · refine gi_aload_n (q := 216) (i := 0) C (dm_Mo_verdictOf 126 rfl) rfl rfl rfl ?_
                  refine gi_get (q := 219) C (dm_Mo_verdictOf 127 rfl) rfl fl_Mo_70 Ha (mo_g35 Hf) ?_
                  refine gi_iload (q := 221) C (dm_Mo_verdictOf 128 rfl) rfl rfl ?_
                  refine gi_iald (q := 222) C (dm_Mo_verdictOf 129 rfl) rfl rfl (mo_a35 H) (inN (show t5 < 13440 by omega) (by decide)) ?_
                  rw [nI_clamp (show t5 < 2 ^ 31 by omega), e35]
                  refine gi_if_ne (q := 225) (tgt := 227) C (dm_Mo_verdictOf 130 rfl) rfl (by decide) (fun c222 => ?_) (fun c222 => ?_)
                  · have fin : jdV P Fz (60 * m + i) 3 = if 0 ≤ Y.1 ∧ Y.2.1 < (lnQ Fz b 25).1 then 1 else if Y.2.1 < 0 ∨ (lnQ Fz b 25).2 ≤ Y.1 then 3 else 2 := by
                      rw [ea]
                      unfold jdR
                      rw [if_neg (by omega), if_neg (by omega), if_neg (by omega), if_pos (by omega), e7, eB, eY]
                      have sU := hU (60 * m + i) (by omega) tl ((Fz (60 * m + i)).n - 1 - (op - 29)) (by omega)
                      rw [eB] at sU
                      exact ixJ_Q hF c222 sU
                    have r39 : ∀ j, j < 25 → F 39 j = bI (Fz (480 + j)).told := fun j hj => by
                      have q := (h0.2 (480 + j) (by omega) (by omega)).1
                      rw [tix_l hj] at q
                      exact q
                    refine gi_iload (q := 229) C (dm_Mo_verdictOf 133 rfl) rfl rfl ?_
                    refine gi_iconst (q := 230) (v := 1) C (dm_Mo_verdictOf 134 rfl) rfl (by decide) ?_
                    refine gi_iadd (q := 231) C (dm_Mo_verdictOf 135 rfl) rfl ?_
                    rw [nI_1]
                    refine gi_istore (q := 233) C (dm_Mo_verdictOf 136 rfl) rfl (Nat.le_of_ble_eq_true rfl) ?_
                    refine gi_ldc2 (q := 236) C (dm_Mo_verdictOf 137 rfl) rfl kc_Mo_347 ?_
                    refine gi_lstore (q := 238) C (dm_Mo_verdictOf 138 rfl) rfl (Nat.le_of_ble_eq_true rfl) ?_
                    refine gi_ldc2 (q := 241) C (dm_Mo_verdictOf 139 rfl) rfl kc_Mo_311 ?_
                    refine gi_lstore (q := 243) C (dm_Mo_verdictOf 140 rfl) rfl (Nat.le_of_ble_eq_true rfl) ?_
                    refine gi_iconst (q := 244) (v := 0) C (dm_Mo_verdictOf 141 rfl) rfl (by decide) ?_
                    refine gi_istore (q := 246) C (dm_Mo_verdictOf 142 rfl) rfl (Nat.le_of_ble_eq_true rfl) ?_
                    refine gi_while (σ := Nat) (fun j => 25 - j) (fun j => [(11, .int (nI j)), (9, .long (eL (lnQ Fz b j).2)), (7, .long (eL (lnQ Fz b j).1)), (6, .int (nI (t5 + 1))), (5, .int (nI t5)), (0, .ref M)]) (fun _ => n) (fun _ => 0) (fun _ => 0) (fun j y' => j ≤ 25 ∧ h = y') 0 ⟨Nat.zero_le _, rfl⟩ ?_ (List.forall_mem_cons.mpr ⟨(by first | rfl | (simp [gi_look]; done)), List.forall_mem_cons.mpr ⟨(by first | rfl | (simp [gi_look]; done)), List.forall_mem_cons.mpr ⟨(by first | rfl | (simp [gi_look]; done)), List.forall_mem_cons.mpr ⟨(by first | rfl | (simp [gi_look]; done)), List.forall_mem_cons.mpr ⟨(by first | rfl | (simp [gi_look]; done)), List.forall_mem_cons.mpr ⟨(by first | rfl | (simp [gi_look]; done)), fun _ h => absurd h List.not_mem_nil⟩⟩⟩⟩⟩⟩) rfl rfl rfl
                    rintro j y' ⟨hj, rfl⟩ ihj
                    try dsimp only at *
                    refine gi_iload (q := 248) C (dm_Mo_verdictOf 143 rfl) rfl rfl ?_
                    refine gi_bipush (q := 250) (v := 25) C (dm_Mo_verdictOf 144 rfl) rfl (by decide) ?_
                    refine gi_icmp_ge (q := 253) (tgt := 313) C (dm_Mo_verdictOf 145 rfl) rfl (by decide) (fun c250 => ?_) (fun c250 => ?_)
                    · have jl : j = 25 := by
                        rcases Nat.lt_or_ge j (25) with q | q
                        · exact absurd c250 (Int32.not_le.mpr (nI_lt (b := 25) q (by omega)))
                        · omega
                      subst jl
                      have qb := lnQ_b hF (b := b) (i := 25) (by omega)
                      refine gi_aload_n (q := 314) (i := 0) C (dm_Mo_verdictOf 177 rfl) rfl rfl rfl ?_
                      refine gi_get (q := 317) C (dm_Mo_verdictOf 178 rfl) rfl fl_Mo_60 Ha (mo_g32 Hf) ?_
                      refine gi_iload (q := 319) C (dm_Mo_verdictOf 179 rfl) rfl rfl ?_
                      refine gi_lald (q := 320) C (dm_Mo_verdictOf 180 rfl) rfl rfl (mo_a32 H) (inN (show t5 + 1 < 13440 by omega) (by decide)) ?_
                      rw [nI_clamp (show t5 + 1 < 2 ^ 31 by omega), e32]
                      refine gi_lconst (q := 321) (v := 0) C (dm_Mo_verdictOf 181 rfl) rfl (by decide) ?_
                      refine gi_lcmp (q := 322) C (dm_Mo_verdictOf 182 rfl) rfl ?_
                      refine gi_if_lt (q := 325) (tgt := 340) C (dm_Mo_verdictOf 183 rfl) rfl (by decide) (fun c322 => ?_) (fun c322 => ?_)
                      · refine gi_aload_n (q := 341) (i := 0) C (dm_Mo_verdictOf 193 rfl) rfl rfl rfl ?_
                        refine gi_get (q := 344) C (dm_Mo_verdictOf 194 rfl) rfl fl_Mo_64 Ha (mo_g33 Hf) ?_
                        refine gi_iload (q := 346) C (dm_Mo_verdictOf 195 rfl) rfl rfl ?_
                        refine gi_lald (q := 347) C (dm_Mo_verdictOf 196 rfl) rfl rfl (mo_a33 H) (inN (show t5 + 1 < 13440 by omega) (by decide)) ?_
                        rw [nI_clamp (show t5 + 1 < 2 ^ 31 by omega), e33]
                        refine gi_lconst (q := 348) (v := 0) C (dm_Mo_verdictOf 197 rfl) rfl (by decide) ?_
                        refine gi_lcmp (q := 349) C (dm_Mo_verdictOf 198 rfl) rfl ?_
                        refine gi_if_lt (q := 352) (tgt := 365) C (dm_Mo_verdictOf 199 rfl) rfl (by decide) (fun c349 => ?_) (fun c349 => ?_)
                        · refine gi_iconst (q := 366) (v := 3) C (dm_Mo_verdictOf 207 rfl) rfl (by decide) ?_
                          refine gi_goto (tgt := 370) C (dm_Mo_verdictOf 208 rfl) (by decide) ?_
                          refine gi_iret C hr (dm_Mo_verdictOf 210 rfl) ?_
                          (try simp (disch := omega) only [lg_cmp_ge, lg_cmp_le, lg_cmp_gt, lg_cmp_lt, lg_cmp_eq, eL_0, eL_1, eL_m1, eL_LO, eL_HI, eL_W, eL_add, eL_sub, eL_mul, eL_neg, eL_lt, eL_le, eL_eq, eL_remN, eL_mod0, ne_eq, Int64.not_lt, Int64.not_le] at c322)
                          (try simp (disch := omega) only [lg_cmp_ge, lg_cmp_le, lg_cmp_gt, lg_cmp_lt, lg_cmp_eq, eL_0, eL_1, eL_m1, eL_LO, eL_HI, eL_W, eL_add, eL_sub, eL_mul, eL_neg, eL_lt, eL_le, eL_eq, eL_remN, eL_mod0, ne_eq, Int64.not_lt, Int64.not_le] at c349)
                          refine ⟨?_, rfl, rfl⟩
                          rw [fin, if_neg (by omega)]
                          first
                            | (rw [if_pos (by omega)]; done)
                            | (rw [if_neg (by omega)]; done)
                        · refine gi_aload_n (q := 353) (i := 0) C (dm_Mo_verdictOf 200 rfl) rfl rfl rfl ?_
                          refine gi_get (q := 356) C (dm_Mo_verdictOf 201 rfl) rfl fl_Mo_60 Ha (mo_g32 Hf) ?_
                          refine gi_iload (q := 358) C (dm_Mo_verdictOf 202 rfl) rfl rfl ?_
                          refine gi_lald (q := 359) C (dm_Mo_verdictOf 203 rfl) rfl rfl (mo_a32 H) (inN (show t5 + 1 < 13440 by omega) (by decide)) ?_
                          rw [nI_clamp (show t5 + 1 < 2 ^ 31 by omega), e32]
                          refine gi_lload (q := 361) C (dm_Mo_verdictOf 204 rfl) rfl rfl ?_
                          refine gi_lcmp (q := 362) C (dm_Mo_verdictOf 205 rfl) rfl ?_
                          refine gi_if_lt (q := 365) (tgt := 369) C (dm_Mo_verdictOf 206 rfl) rfl (by decide) (fun c362 => ?_) (fun c362 => ?_)
                          · refine gi_iconst (q := 370) (v := 2) C (dm_Mo_verdictOf 209 rfl) rfl (by decide) ?_
                            refine gi_iret C hr (dm_Mo_verdictOf 210 rfl) ?_
                            (try simp (disch := omega) only [lg_cmp_ge, lg_cmp_le, lg_cmp_gt, lg_cmp_lt, lg_cmp_eq, eL_0, eL_1, eL_m1, eL_LO, eL_HI, eL_W, eL_add, eL_sub, eL_mul, eL_neg, eL_lt, eL_le, eL_eq, eL_remN, eL_mod0, ne_eq, Int64.not_lt, Int64.not_le] at c322)
                            (try simp (disch := omega) only [lg_cmp_ge, lg_cmp_le, lg_cmp_gt, lg_cmp_lt, lg_cmp_eq, eL_0, eL_1, eL_m1, eL_LO, eL_HI, eL_W, eL_add, eL_sub, eL_mul, eL_neg, eL_lt, eL_le, eL_eq, eL_remN, eL_mod0, ne_eq, Int64.not_lt, Int64.not_le] at c349)
                            (try simp (disch := omega) only [lg_cmp_ge, lg_cmp_le, lg_cmp_gt, lg_cmp_lt, lg_cmp_eq, eL_0, eL_1, eL_m1, eL_LO, eL_HI, eL_W, eL_add, eL_sub, eL_mul, eL_neg, eL_lt, eL_le, eL_eq, eL_remN, eL_mod0, ne_eq, Int64.not_lt, Int64.not_le] at c362)
                            refine ⟨?_, rfl, rfl⟩
                            rw [fin, if_neg (by omega)]
                            first
                              | (rw [if_pos (by omega)]; done)
                              | (rw [if_neg (by omega)]; done)
                          · refine gi_iconst (q := 366) (v := 3) C (dm_Mo_verdictOf 207 rfl) rfl (by decide) ?_
                            refine gi_goto (tgt := 370) C (dm_Mo_verdictOf 208 rfl) (by decide) ?_
                            refine gi_iret C hr (dm_Mo_verdictOf 210 rfl) ?_
                            (try simp (disch := omega) only [lg_cmp_ge, lg_cmp_le, lg_cmp_gt, lg_cmp_lt, lg_cmp_eq, eL_0, eL_1, eL_m1, eL_LO, eL_HI, eL_W, eL_add, eL_sub, eL_mul, eL_neg, eL_lt, eL_le, eL_eq, eL_remN, eL_mod0, ne_eq, Int64.not_lt, Int64.not_le] at c322)
                            (try simp (disch := omega) only [lg_cmp_ge, lg_cmp_le, lg_cmp_gt, lg_cmp_lt, lg_cmp_eq, eL_0, eL_1, eL_m1, eL_LO, eL_HI, eL_W, eL_add, eL_sub, eL_mul, eL_neg, eL_lt, eL_le, eL_eq, eL_remN, eL_mod0, ne_eq, Int64.not_lt, Int64.not_le] at c349)
                            (try simp (disch := omega) only [lg_cmp_ge, lg_cmp_le, lg_cmp_gt, lg_cmp_lt, lg_cmp_eq, eL_0, eL_1, eL_m1, eL_LO, eL_HI, eL_W, eL_add, eL_sub, eL_mul, eL_neg, eL_lt, eL_le, eL_eq, eL_remN, eL_mod0, ne_eq, Int64.not_lt, Int64.not_le] at c362)
                            refine ⟨?_, rfl, rfl⟩
                            rw [fin, if_neg (by omega)]
                            first
                              | (rw [if_pos (by omega)]; done)
                              | (rw [if_neg (by omega)]; done)
                      · refine gi_aload_n (q := 326) (i := 0) C (dm_Mo_verdictOf 184 rfl) rfl rfl rfl ?_
                        refine gi_get (q := 329) C (dm_Mo_verdictOf 185 rfl) rfl fl_Mo_64 Ha (mo_g33 Hf) ?_
                        refine gi_iload (q := 331) C (dm_Mo_verdictOf 186 rfl) rfl rfl ?_
                        refine gi_lald (q := 332) C (dm_Mo_verdictOf 187 rfl) rfl rfl (mo_a33 H) (inN (show t5 + 1 < 13440 by omega) (by decide)) ?_
                        rw [nI_clamp (show t5 + 1 < 2 ^ 31 by omega), e33]
                        refine gi_lload (q := 334) C (dm_Mo_verdictOf 188 rfl) rfl rfl ?_
                        refine gi_lcmp (q := 335) C (dm_Mo_verdictOf 189 rfl) rfl ?_
                        refine gi_if_ge (q := 338) (tgt := 340) C (dm_Mo_verdictOf 190 rfl) rfl (by decide) (fun c335 => ?_) (fun c335 => ?_)
                        · refine gi_aload_n (q := 341) (i := 0) C (dm_Mo_verdictOf 193 rfl) rfl rfl rfl ?_
                          refine gi_get (q := 344) C (dm_Mo_verdictOf 194 rfl) rfl fl_Mo_64 Ha (mo_g33 Hf) ?_
                          refine gi_iload (q := 346) C (dm_Mo_verdictOf 195 rfl) rfl rfl ?_
                          refine gi_lald (q := 347) C (dm_Mo_verdictOf 196 rfl) rfl rfl (mo_a33 H) (inN (show t5 + 1 < 13440 by omega) (by decide)) ?_
                          rw [nI_clamp (show t5 + 1 < 2 ^ 31 by omega), e33]
                          refine gi_lconst (q := 348) (v := 0) C (dm_Mo_verdictOf 197 rfl) rfl (by decide) ?_
                          refine gi_lcmp (q := 349) C (dm_Mo_verdictOf 198 rfl) rfl ?_
                          refine gi_if_lt (q := 352) (tgt := 365) C (dm_Mo_verdictOf 199 rfl) rfl (by decide) (fun c349 => ?_) (fun c349 => ?_)
                          · refine gi_iconst (q := 366) (v := 3) C (dm_Mo_verdictOf 207 rfl) rfl (by decide) ?_
                            refine gi_goto (tgt := 370) C (dm_Mo_verdictOf 208 rfl) (by decide) ?_
                            refine gi_iret C hr (dm_Mo_verdictOf 210 rfl) ?_
                            (try simp (disch := omega) only [lg_cmp_ge, lg_cmp_le, lg_cmp_gt, lg_cmp_lt, lg_cmp_eq, eL_0, eL_1, eL_m1, eL_LO, eL_HI, eL_W, eL_add, eL_sub, eL_mul, eL_neg, eL_lt, eL_le, eL_eq, eL_remN, eL_mod0, ne_eq, Int64.not_lt, Int64.not_le] at c322)
                            (try simp (disch := omega) only [lg_cmp_ge, lg_cmp_le, lg_cmp_gt, lg_cmp_lt, lg_cmp_eq, eL_0, eL_1, eL_m1, eL_LO, eL_HI, eL_W, eL_add, eL_sub, eL_mul, eL_neg, eL_lt, eL_le, eL_eq, eL_remN, eL_mod0, ne_eq, Int64.not_lt, Int64.not_le] at c335)
                            (try simp (disch := omega) only [lg_cmp_ge, lg_cmp_le, lg_cmp_gt, lg_cmp_lt, lg_cmp_eq, eL_0, eL_1, eL_m1, eL_LO, eL_HI, eL_W, eL_add, eL_sub, eL_mul, eL_neg, eL_lt, eL_le, eL_eq, eL_remN, eL_mod0, ne_eq, Int64.not_lt, Int64.not_le] at c349)
                            refine ⟨?_, rfl, rfl⟩
                            rw [fin, if_neg (by omega)]
                            first
                              | (rw [if_pos (by omega)]; done)
                              | (rw [if_neg (by omega)]; done)
                          · refine gi_aload_n (q := 353) (i := 0) C (dm_Mo_verdictOf 200 rfl) rfl rfl rfl ?_
                            refine gi_get (q := 356) C (dm_Mo_verdictOf 201 rfl) rfl fl_Mo_60 Ha (mo_g32 Hf) ?_
                            refine gi_iload (q := 358) C (dm_Mo_verdictOf 202 rfl) rfl rfl ?_
                            refine gi_lald (q := 359) C (dm_Mo_verdictOf 203 rfl) rfl rfl (mo_a32 H) (inN (show t5 + 1 < 13440 by omega) (by decide)) ?_
                            rw [nI_clamp (show t5 + 1 < 2 ^ 31 by omega), e32]
                            refine gi_lload (q := 361) C (dm_Mo_verdictOf 204 rfl) rfl rfl ?_
                            refine gi_lcmp (q := 362) C (dm_Mo_verdictOf 205 rfl) rfl ?_
                            refine gi_if_lt (q := 365) (tgt := 369) C (dm_Mo_verdictOf 206 rfl) rfl (by decide) (fun c362 => ?_) (fun c362 => ?_)
                            · refine gi_iconst (q := 370) (v := 2) C (dm_Mo_verdictOf 209 rfl) rfl (by decide) ?_
                              refine gi_iret C hr (dm_Mo_verdictOf 210 rfl) ?_
                              (try simp (disch := omega) only [lg_cmp_ge, lg_cmp_le, lg_cmp_gt, lg_cmp_lt, lg_cmp_eq, eL_0, eL_1, eL_m1, eL_LO, eL_HI, eL_W, eL_add, eL_sub, eL_mul, eL_neg, eL_lt, eL_le, eL_eq, eL_remN, eL_mod0, ne_eq, Int64.not_lt, Int64.not_le] at c322)
                              (try simp (disch := omega) only [lg_cmp_ge, lg_cmp_le, lg_cmp_gt, lg_cmp_lt, lg_cmp_eq, eL_0, eL_1, eL_m1, eL_LO, eL_HI, eL_W, eL_add, eL_sub, eL_mul, eL_neg, eL_lt, eL_le, eL_eq, eL_remN, eL_mod0, ne_eq, Int64.not_lt, Int64.not_le] at c335)
                              (try simp (disch := omega) only [lg_cmp_ge, lg_cmp_le, lg_cmp_gt, lg_cmp_lt, lg_cmp_eq, eL_0, eL_1, eL_m1, eL_LO, eL_HI, eL_W, eL_add, eL_sub, eL_mul, eL_neg, eL_lt, eL_le, eL_eq, eL_remN, eL_mod0, ne_eq, Int64.not_lt, Int64.not_le] at c349)
                              (try simp (disch := omega) only [lg_cmp_ge, lg_cmp_le, lg_cmp_gt, lg_cmp_lt, lg_cmp_eq, eL_0, eL_1, eL_m1, eL_LO, eL_HI, eL_W, eL_add, eL_sub, eL_mul, eL_neg, eL_lt, eL_le, eL_eq, eL_remN, eL_mod0, ne_eq, Int64.not_lt, Int64.not_le] at c362)
                              refine ⟨?_, rfl, rfl⟩
                              rw [fin, if_neg (by omega)]
                              first
                                | (rw [if_pos (by omega)]; done)
                                | (rw [if_neg (by omega)]; done)
                            · refine gi_iconst (q := 366) (v := 3) C (dm_Mo_verdictOf 207 rfl) rfl (by decide) ?_
                              refine gi_goto (tgt := 370) C (dm_Mo_verdictOf 208 rfl) (by decide) ?_
                              refine gi_iret C hr (dm_Mo_verdictOf 210 rfl) ?_
                              (try simp (disch := omega) only [lg_cmp_ge, lg_cmp_le, lg_cmp_gt, lg_cmp_lt, lg_cmp_eq, eL_0, eL_1, eL_m1, eL_LO, eL_HI, eL_W, eL_add, eL_sub, eL_mul, eL_neg, eL_lt, eL_le, eL_eq, eL_remN, eL_mod0, ne_eq, Int64.not_lt, Int64.not_le] at c322)
                              (try simp (disch := omega) only [lg_cmp_ge, lg_cmp_le, lg_cmp_gt, lg_cmp_lt, lg_cmp_eq, eL_0, eL_1, eL_m1, eL_LO, eL_HI, eL_W, eL_add, eL_sub, eL_mul, eL_neg, eL_lt, eL_le, eL_eq, eL_remN, eL_mod0, ne_eq, Int64.not_lt, Int64.not_le] at c335)
                              (try simp (disch := omega) only [lg_cmp_ge, lg_cmp_le, lg_cmp_gt, lg_cmp_lt, lg_cmp_eq, eL_0, eL_1, eL_m1, eL_LO, eL_HI, eL_W, eL_add, eL_sub, eL_mul, eL_neg, eL_lt, eL_le, eL_eq, eL_remN, eL_mod0, ne_eq, Int64.not_lt, Int64.not_le] at c349)
                              (try simp (disch := omega) only [lg_cmp_ge, lg_cmp_le, lg_cmp_gt, lg_cmp_lt, lg_cmp_eq, eL_0, eL_1, eL_m1, eL_LO, eL_HI, eL_W, eL_add, eL_sub, eL_mul, eL_neg, eL_lt, eL_le, eL_eq, eL_remN, eL_mod0, ne_eq, Int64.not_lt, Int64.not_le] at c362)
                              refine ⟨?_, rfl, rfl⟩
                              rw [fin, if_neg (by omega)]
                              first
                                | (rw [if_pos (by omega)]; done)
                                | (rw [if_neg (by omega)]; done)
                        · refine gi_iconst (q := 339) (v := 1) C (dm_Mo_verdictOf 191 rfl) rfl (by decide) ?_
                          refine gi_iret C hr (dm_Mo_verdictOf 192 rfl) ?_
                          (try simp (disch := omega) only [lg_cmp_ge, lg_cmp_le, lg_cmp_gt, lg_cmp_lt, lg_cmp_eq, eL_0, eL_1, eL_m1, eL_LO, eL_HI, eL_W, eL_add, eL_sub, eL_mul, eL_neg, eL_lt, eL_le, eL_eq, eL_remN, eL_mod0, ne_eq, Int64.not_lt, Int64.not_le] at c322)
                          (try simp (disch := omega) only [lg_cmp_ge, lg_cmp_le, lg_cmp_gt, lg_cmp_lt, lg_cmp_eq, eL_0, eL_1, eL_m1, eL_LO, eL_HI, eL_W, eL_add, eL_sub, eL_mul, eL_neg, eL_lt, eL_le, eL_eq, eL_remN, eL_mod0, ne_eq, Int64.not_lt, Int64.not_le] at c335)
                          refine ⟨?_, rfl, rfl⟩
                          rw [fin, if_pos (by omega)]
                    · have jl : j < 25 := by
                        rcases Nat.lt_or_ge j (25) with q | q
                        · exact q
                        · exact absurd (nI_le (a := 25) q (by omega)) c250
                      refine gi_aload_n (q := 254) (i := 0) C (dm_Mo_verdictOf 146 rfl) rfl rfl rfl ?_
                      refine gi_get (q := 257) C (dm_Mo_verdictOf 147 rfl) rfl fl_Mo_70 Ha (mo_g35 Hf) ?_
                      refine gi_iload (q := 259) C (dm_Mo_verdictOf 148 rfl) rfl rfl ?_
                      refine gi_iald (q := 260) C (dm_Mo_verdictOf 149 rfl) rfl rfl (mo_a35 H) (inN (show t5 < 13440 by omega) (by decide)) ?_
                      rw [nI_clamp (show t5 < 2 ^ 31 by omega), e35]
                      refine gi_iload (q := 262) C (dm_Mo_verdictOf 150 rfl) rfl rfl ?_
                      refine gi_ishr (q := 263) C (dm_Mo_verdictOf 151 rfl) rfl ?_
                      refine gi_iconst (q := 264) (v := 1) C (dm_Mo_verdictOf 152 rfl) rfl (by decide) ?_
                      refine gi_iand (q := 265) C (dm_Mo_verdictOf 153 rfl) rfl ?_
                      refine gi_iconst (q := 266) (v := 1) C (dm_Mo_verdictOf 154 rfl) rfl (by decide) ?_
                      refine gi_icmp_ne (q := 269) (tgt := 307) C (dm_Mo_verdictOf 155 rfl) rfl (by decide) (fun c266 => ?_) (fun c266 => ?_)
                      · have qs : lnQ Fz b (j + 1) = lnQ Fz b j := by
                          show (if bitA b j = true ∧ (Fz (480 + j)).told = true then _ else _) = _
                          rw [if_neg]
                          first
                            | exact fun q => c266 ((sh_bit b (by omega)).mpr q.1)
                            | (rw [bI_fa c276]; exact fun q => absurd q.2 (by decide))
                        refine gi_iinc (q := 310) (v := 1) C (dm_Mo_verdictOf 175 rfl) rfl rfl (by decide) (Nat.le_of_ble_eq_true rfl) ?_
                        refine gi_goto (tgt := 246) C (dm_Mo_verdictOf 176 rfl) (by decide) ?_
                        refine gi_close (ihj (j + 1) _ ⟨jl, rfl⟩ (by omega)) (List.forall_mem_cons.mpr ⟨(by first | rfl | (simp [gi_look, nI_1]; done) | (rw [qs]; rfl)), List.forall_mem_cons.mpr ⟨(by first | rfl | (simp [gi_look, nI_1]; done) | (rw [qs]; rfl)), List.forall_mem_cons.mpr ⟨(by first | rfl | (simp [gi_look, nI_1]; done) | (rw [qs]; rfl)), List.forall_mem_cons.mpr ⟨(by first | rfl | (simp [gi_look, nI_1]; done) | (rw [qs]; rfl)), List.forall_mem_cons.mpr ⟨(by first | rfl | (simp [gi_look, nI_1]; done) | (rw [qs]; rfl)), List.forall_mem_cons.mpr ⟨(by first | rfl | (simp [gi_look, nI_1]; done) | (rw [qs]; rfl)), fun _ h => absurd h List.not_mem_nil⟩⟩⟩⟩⟩⟩) rfl rfl rfl
                      · refine gi_aload_n (q := 270) (i := 0) C (dm_Mo_verdictOf 156 rfl) rfl rfl rfl ?_
                        refine gi_get (q := 273) C (dm_Mo_verdictOf 157 rfl) rfl fl_Mo_83 Ha (mo_g39 Hf) ?_
                        refine gi_iload (q := 275) C (dm_Mo_verdictOf 158 rfl) rfl rfl ?_
                        refine gi_zald (q := 276) C (dm_Mo_verdictOf 159 rfl) rfl rfl (mo_a39 H) (inN (show j < 160 by omega) (by decide)) ?_
                        rw [nI_clamp (show j < 2 ^ 31 by omega), r39 j jl]
                        refine gi_if_eq (q := 279) (tgt := 307) C (dm_Mo_verdictOf 160 rfl) rfl (by decide) (fun c276 => ?_) (fun c276 => ?_)
                        · have qs : lnQ Fz b (j + 1) = lnQ Fz b j := by
                            show (if bitA b j = true ∧ (Fz (480 + j)).told = true then _ else _) = _
                            rw [if_neg]
                            first
                              | exact fun q => c266 ((sh_bit b (by omega)).mpr q.1)
                              | (rw [bI_fa c276]; exact fun q => absurd q.2 (by decide))
                          refine gi_iinc (q := 310) (v := 1) C (dm_Mo_verdictOf 175 rfl) rfl rfl (by decide) (Nat.le_of_ble_eq_true rfl) ?_
                          refine gi_goto (tgt := 246) C (dm_Mo_verdictOf 176 rfl) (by decide) ?_
                          refine gi_close (ihj (j + 1) _ ⟨jl, rfl⟩ (by omega)) (List.forall_mem_cons.mpr ⟨(by first | rfl | (simp [gi_look, nI_1]; done) | (rw [qs]; rfl)), List.forall_mem_cons.mpr ⟨(by first | rfl | (simp [gi_look, nI_1]; done) | (rw [qs]; rfl)), List.forall_mem_cons.mpr ⟨(by first | rfl | (simp [gi_look, nI_1]; done) | (rw [qs]; rfl)), List.forall_mem_cons.mpr ⟨(by first | rfl | (simp [gi_look, nI_1]; done) | (rw [qs]; rfl)), List.forall_mem_cons.mpr ⟨(by first | rfl | (simp [gi_look, nI_1]; done) | (rw [qs]; rfl)), List.forall_mem_cons.mpr ⟨(by first | rfl | (simp [gi_look, nI_1]; done) | (rw [qs]; rfl)), fun _ h => absurd h List.not_mem_nil⟩⟩⟩⟩⟩⟩) rfl rfl rfl
                        · have bj : bitA b j = true := (sh_bit b (by omega)).mp c266
                          have tj : (Fz (480 + j)).told = true := bI_t c276
                          obtain ⟨ez, okz⟩ := tv_one hF (show 480 ≤ 480 + j by omega) (by omega) tj
                          have rt := (h0.2 (480 + j) (by omega) (by omega)).2 tj
                          rw [ez, tix_l (by omega)] at rt
                          obtain ⟨z, ezz⟩ : ∃ z, z = spA ((Fz (480 + j)).f 0).1 := ⟨_, rfl⟩
                          rw [← ezz] at rt okz
                          obtain ⟨s40, s41, -⟩ := rt
                          change G 40 _ = _ at s40
                          change G 41 _ = _ at s41
                          obtain ⟨z1, z2, z3, -⟩ := id okz
                          have qb := lnQ_b hF (b := b) (i := j) (by omega)
                          refine gi_lload (q := 281) C (dm_Mo_verdictOf 161 rfl) rfl rfl ?_
                          refine gi_aload_n (q := 282) (i := 0) C (dm_Mo_verdictOf 162 rfl) rfl rfl rfl ?_
                          refine gi_get (q := 285) C (dm_Mo_verdictOf 163 rfl) rfl fl_Mo_86 Ha (mo_g40 Hf) ?_
                          refine gi_iload (q := 287) C (dm_Mo_verdictOf 164 rfl) rfl rfl ?_
                          refine gi_lald (q := 288) C (dm_Mo_verdictOf 165 rfl) rfl rfl (mo_a40 H) (inN (show j < 160 by omega) (by decide)) ?_
                          rw [nI_clamp (show j < 2 ^ 31 by omega), s40]
                          refine gi_calls 2 (q := 291) C (dm_Mo_verdictOf 166 rfl) rfl my_Mo_min lk_Mo_252 sm_Mo_min (c_Mo_min _ _ (by omega) (by omega) (by omega) (by omega)) rfl rfl ⟨(Nat.le_of_ble_eq_true rfl), (Nat.le_of_ble_eq_true rfl)⟩ (Nat.le_of_ble_eq_true rfl) ⟨(Nat.le_of_ble_eq_true rfl), (Nat.le_of_ble_eq_true rfl)⟩ (fun r288 n288 h288 e288 => ?_)
                          obtain ⟨rfl, q288, u288⟩ := e288
                          rw [q288, u288]
                          refine gi_lstore (q := 293) C (dm_Mo_verdictOf 167 rfl) rfl (Nat.le_of_ble_eq_true rfl) ?_
                          refine gi_lload (q := 295) C (dm_Mo_verdictOf 168 rfl) rfl rfl ?_
                          refine gi_aload_n (q := 296) (i := 0) C (dm_Mo_verdictOf 169 rfl) rfl rfl rfl ?_
                          refine gi_get (q := 299) C (dm_Mo_verdictOf 170 rfl) rfl fl_Mo_89 Ha (mo_g41 Hf) ?_
                          refine gi_iload (q := 301) C (dm_Mo_verdictOf 171 rfl) rfl rfl ?_
                          refine gi_lald (q := 302) C (dm_Mo_verdictOf 172 rfl) rfl rfl (mo_a41 H) (inN (show j < 160 by omega) (by decide)) ?_
                          rw [nI_clamp (show j < 2 ^ 31 by omega), s41]
                          refine gi_calls 2 (q := 305) C (dm_Mo_verdictOf 173 rfl) rfl my_Mo_max lk_Mo_256 sm_Mo_max (c_Mo_max _ _ (by omega) (by omega) (by omega) (by omega)) rfl rfl ⟨(Nat.le_of_ble_eq_true rfl), (Nat.le_of_ble_eq_true rfl)⟩ (Nat.le_of_ble_eq_true rfl) ⟨(Nat.le_of_ble_eq_true rfl), (Nat.le_of_ble_eq_true rfl)⟩ (fun r302 n302 h302 e302 => ?_)
                          obtain ⟨rfl, q302, u302⟩ := e302
                          rw [q302, u302]
                          refine gi_lstore (q := 307) C (dm_Mo_verdictOf 174 rfl) rfl (Nat.le_of_ble_eq_true rfl) ?_
                          have qs : lnQ Fz b (j + 1) = (min (lnQ Fz b j).1 z.1, max (lnQ Fz b j).2 z.2.1) := by
                            show (if bitA b j = true ∧ (Fz (480 + j)).told = true then _ else _) = _
                            rw [if_pos ⟨bj, tj⟩, ezz]
                          refine gi_iinc (q := 310) (v := 1) C (dm_Mo_verdictOf 175 rfl) rfl rfl (by decide) (Nat.le_of_ble_eq_true rfl) ?_
                          refine gi_goto (tgt := 246) C (dm_Mo_verdictOf 176 rfl) (by decide) ?_
                          refine gi_close (ihj (j + 1) _ ⟨jl, rfl⟩ (by omega)) (List.forall_mem_cons.mpr ⟨(by first | rfl | (simp [gi_look, nI_1]; done) | (rw [qs]; rfl)), List.forall_mem_cons.mpr ⟨(by first | rfl | (simp [gi_look, nI_1]; done) | (rw [qs]; rfl)), List.forall_mem_cons.mpr ⟨(by first | rfl | (simp [gi_look, nI_1]; done) | (rw [qs]; rfl)), List.forall_mem_cons.mpr ⟨(by first | rfl | (simp [gi_look, nI_1]; done) | (rw [qs]; rfl)), List.forall_mem_cons.mpr ⟨(by first | rfl | (simp [gi_look, nI_1]; done) | (rw [qs]; rfl)), List.forall_mem_cons.mpr ⟨(by first | rfl | (simp [gi_look, nI_1]; done) | (rw [qs]; rfl)), fun _ h => absurd h List.not_mem_nil⟩⟩⟩⟩⟩⟩) rfl rfl rfl
                  · refine gi_iconst (q := 226) (v := 1) C (dm_Mo_verdictOf 131 rfl) rfl (by decide) ?_
                    refine gi_iret C hr (dm_Mo_verdictOf 132 rfl) ?_
                    refine ⟨?_, rfl, rfl⟩
                    rw [ea]
                    unfold jdR
                    rw [if_neg (by omega), if_neg (by omega), if_neg (by omega), if_pos (by omega), e7, eB, eY]
                    show _ = some (Value.int (ixJ Fz b Y))
                    rw [c222, ixJ_0]
                · exact absurd c182 (by decide)
            · exact absurd c153 (by rw [jo29]; omega)
          · exact absurd c113 (by decide)
        · exact absurd c46 (by decide)
      · subst e
        obtain ⟨q1, Y, eY, oY⟩ := j1 (by unfold ask at as; simp at as; omega)
        have ce := ce_at h0 (by omega) (by omega) tl (show (Fz (60 * m + i)).n - 1 < (Fz (60 * m + i)).n by omega) (by omega)
        rw [eY, show 14 * (60 * m + i) + ((Fz (60 * m + i)).n - 1 - pN P 2 m + 6) = 14 * (60 * m + i) + 5 + x.1 by omega] at ce
        obtain ⟨e32, e33, e34⟩ := ce
        obtain ⟨y1, y2, y3, -⟩ := id oY
        have y3' := y3
        change G 32 _ = _ at e32
        change G 33 _ = _ at e33
        change G 34 _ = _ at e34
        refine gi_iload_n (q := 45) (i := 2) C (dm_Mo_verdictOf 30 rfl) rfl rfl rfl ?_
        refine gi_iconst (q := 46) (v := 1) C (dm_Mo_verdictOf 31 rfl) rfl (by decide) ?_
        refine gi_icmp_ne (q := 49) (tgt := 111) C (dm_Mo_verdictOf 32 rfl) rfl (by decide) (fun c46 => ?_) (fun c46 => ?_)
        · refine gi_iload_n (q := 112) (i := 2) C (dm_Mo_verdictOf 68 rfl) rfl rfl rfl ?_
          refine gi_iconst (q := 113) (v := 4) C (dm_Mo_verdictOf 69 rfl) rfl (by decide) ?_
          refine gi_icmp_ne (q := 116) (tgt := 150) C (dm_Mo_verdictOf 70 rfl) rfl (by decide) (fun c113 => ?_) (fun c113 => ?_)
          · exact absurd rfl c113
          · refine gi_aload_n (q := 117) (i := 0) C (dm_Mo_verdictOf 71 rfl) rfl rfl rfl ?_
            refine gi_get (q := 120) C (dm_Mo_verdictOf 72 rfl) rfl fl_Mo_60 Ha (mo_g32 Hf) ?_
            refine gi_iload (q := 122) C (dm_Mo_verdictOf 73 rfl) rfl rfl ?_
            refine gi_lald (q := 123) C (dm_Mo_verdictOf 74 rfl) rfl rfl (mo_a32 H) (inN (show 14 * (60 * m + i) + 5 + x.1 < 13440 by omega) (by decide)) ?_
            rw [nI_clamp (show 14 * (60 * m + i) + 5 + x.1 < 2 ^ 31 by omega), e32]
            refine gi_lconst (q := 124) (v := 0) C (dm_Mo_verdictOf 75 rfl) rfl (by decide) ?_
            refine gi_lcmp (q := 125) C (dm_Mo_verdictOf 76 rfl) rfl ?_
            refine gi_if_lt (q := 128) (tgt := 132) C (dm_Mo_verdictOf 77 rfl) rfl (by decide) (fun c125 => ?_) (fun c125 => ?_)
            · refine gi_aload_n (q := 133) (i := 0) C (dm_Mo_verdictOf 80 rfl) rfl rfl rfl ?_
              refine gi_get (q := 136) C (dm_Mo_verdictOf 81 rfl) rfl fl_Mo_64 Ha (mo_g33 Hf) ?_
              refine gi_iload (q := 138) C (dm_Mo_verdictOf 82 rfl) rfl rfl ?_
              refine gi_lald (q := 139) C (dm_Mo_verdictOf 83 rfl) rfl rfl (mo_a33 H) (inN (show 14 * (60 * m + i) + 5 + x.1 < 13440 by omega) (by decide)) ?_
              rw [nI_clamp (show 14 * (60 * m + i) + 5 + x.1 < 2 ^ 31 by omega), e33]
              refine gi_lconst (q := 140) (v := 0) C (dm_Mo_verdictOf 84 rfl) rfl (by decide) ?_
              refine gi_lcmp (q := 141) C (dm_Mo_verdictOf 85 rfl) rfl ?_
              refine gi_if_ge (q := 144) (tgt := 148) C (dm_Mo_verdictOf 86 rfl) rfl (by decide) (fun c141 => ?_) (fun c141 => ?_)
              · refine gi_iconst (q := 149) (v := 2) C (dm_Mo_verdictOf 89 rfl) rfl (by decide) ?_
                refine gi_iret C hr (dm_Mo_verdictOf 90 rfl) ?_
                (try simp (disch := omega) only [lg_cmp_ge, lg_cmp_le, lg_cmp_gt, lg_cmp_lt, lg_cmp_eq, eL_0, eL_1, eL_m1, eL_LO, eL_HI, eL_W, eL_add, eL_sub, eL_mul, eL_neg, eL_lt, eL_le, eL_eq, eL_remN, eL_mod0, ne_eq, Int64.not_lt, Int64.not_le] at c46)
                (try simp (disch := omega) only [lg_cmp_ge, lg_cmp_le, lg_cmp_gt, lg_cmp_lt, lg_cmp_eq, eL_0, eL_1, eL_m1, eL_LO, eL_HI, eL_W, eL_add, eL_sub, eL_mul, eL_neg, eL_lt, eL_le, eL_eq, eL_remN, eL_mod0, ne_eq, Int64.not_lt, Int64.not_le] at c113)
                (try simp (disch := omega) only [lg_cmp_ge, lg_cmp_le, lg_cmp_gt, lg_cmp_lt, lg_cmp_eq, eL_0, eL_1, eL_m1, eL_LO, eL_HI, eL_W, eL_add, eL_sub, eL_mul, eL_neg, eL_lt, eL_le, eL_eq, eL_remN, eL_mod0, ne_eq, Int64.not_lt, Int64.not_le] at c125)
                (try simp (disch := omega) only [lg_cmp_ge, lg_cmp_le, lg_cmp_gt, lg_cmp_lt, lg_cmp_eq, eL_0, eL_1, eL_m1, eL_LO, eL_HI, eL_W, eL_add, eL_sub, eL_mul, eL_neg, eL_lt, eL_le, eL_eq, eL_remN, eL_mod0, ne_eq, Int64.not_lt, Int64.not_le] at c141)
                refine ⟨?_, rfl, rfl⟩
                rw [ea]
                unfold jdR
                rw [if_neg (by omega), if_pos (by unfold ask at as; simp at as; omega), eY]
                show some (Value.int _) = some (Value.int (ngJ Y))
                unfold ngJ
                first
                  | (rw [if_pos (by omega)]; done)
                  | (rw [if_neg (by omega), if_pos (by omega)]; done)
                  | (rw [if_neg (by omega), if_neg (by omega)]; done)
              · refine gi_iconst (q := 145) (v := 3) C (dm_Mo_verdictOf 87 rfl) rfl (by decide) ?_
                refine gi_goto (tgt := 149) C (dm_Mo_verdictOf 88 rfl) (by decide) ?_
                refine gi_iret C hr (dm_Mo_verdictOf 90 rfl) ?_
                (try simp (disch := omega) only [lg_cmp_ge, lg_cmp_le, lg_cmp_gt, lg_cmp_lt, lg_cmp_eq, eL_0, eL_1, eL_m1, eL_LO, eL_HI, eL_W, eL_add, eL_sub, eL_mul, eL_neg, eL_lt, eL_le, eL_eq, eL_remN, eL_mod0, ne_eq, Int64.not_lt, Int64.not_le] at c46)
                (try simp (disch := omega) only [lg_cmp_ge, lg_cmp_le, lg_cmp_gt, lg_cmp_lt, lg_cmp_eq, eL_0, eL_1, eL_m1, eL_LO, eL_HI, eL_W, eL_add, eL_sub, eL_mul, eL_neg, eL_lt, eL_le, eL_eq, eL_remN, eL_mod0, ne_eq, Int64.not_lt, Int64.not_le] at c113)
                (try simp (disch := omega) only [lg_cmp_ge, lg_cmp_le, lg_cmp_gt, lg_cmp_lt, lg_cmp_eq, eL_0, eL_1, eL_m1, eL_LO, eL_HI, eL_W, eL_add, eL_sub, eL_mul, eL_neg, eL_lt, eL_le, eL_eq, eL_remN, eL_mod0, ne_eq, Int64.not_lt, Int64.not_le] at c125)
                (try simp (disch := omega) only [lg_cmp_ge, lg_cmp_le, lg_cmp_gt, lg_cmp_lt, lg_cmp_eq, eL_0, eL_1, eL_m1, eL_LO, eL_HI, eL_W, eL_add, eL_sub, eL_mul, eL_neg, eL_lt, eL_le, eL_eq, eL_remN, eL_mod0, ne_eq, Int64.not_lt, Int64.not_le] at c141)
                refine ⟨?_, rfl, rfl⟩
                rw [ea]
                unfold jdR
                rw [if_neg (by omega), if_pos (by unfold ask at as; simp at as; omega), eY]
                show some (Value.int _) = some (Value.int (ngJ Y))
                unfold ngJ
                first
                  | (rw [if_pos (by omega)]; done)
                  | (rw [if_neg (by omega), if_pos (by omega)]; done)
                  | (rw [if_neg (by omega), if_neg (by omega)]; done)
            · refine gi_iconst (q := 129) (v := 1) C (dm_Mo_verdictOf 78 rfl) rfl (by decide) ?_
              refine gi_goto (tgt := 149) C (dm_Mo_verdictOf 79 rfl) (by decide) ?_
              refine gi_iret C hr (dm_Mo_verdictOf 90 rfl) ?_
              (try simp (disch := omega) only [lg_cmp_ge, lg_cmp_le, lg_cmp_gt, lg_cmp_lt, lg_cmp_eq, eL_0, eL_1, eL_m1, eL_LO, eL_HI, eL_W, eL_add, eL_sub, eL_mul, eL_neg, eL_lt, eL_le, eL_eq, eL_remN, eL_mod0, ne_eq, Int64.not_lt, Int64.not_le] at c46)
              (try simp (disch := omega) only [lg_cmp_ge, lg_cmp_le, lg_cmp_gt, lg_cmp_lt, lg_cmp_eq, eL_0, eL_1, eL_m1, eL_LO, eL_HI, eL_W, eL_add, eL_sub, eL_mul, eL_neg, eL_lt, eL_le, eL_eq, eL_remN, eL_mod0, ne_eq, Int64.not_lt, Int64.not_le] at c113)
              (try simp (disch := omega) only [lg_cmp_ge, lg_cmp_le, lg_cmp_gt, lg_cmp_lt, lg_cmp_eq, eL_0, eL_1, eL_m1, eL_LO, eL_HI, eL_W, eL_add, eL_sub, eL_mul, eL_neg, eL_lt, eL_le, eL_eq, eL_remN, eL_mod0, ne_eq, Int64.not_lt, Int64.not_le] at c125)
              refine ⟨?_, rfl, rfl⟩
              rw [ea]
              unfold jdR
              rw [if_neg (by omega), if_pos (by unfold ask at as; simp at as; omega), eY]
              show some (Value.int _) = some (Value.int (ngJ Y))
              unfold ngJ
              first
                | (rw [if_pos (by omega)]; done)
                | (rw [if_neg (by omega), if_pos (by omega)]; done)
                | (rw [if_neg (by omega), if_neg (by omega)]; done)
        · exact absurd c46 (by decide)
    · refine gi_iconst (q := 28) (v := 1) C (dm_Mo_verdictOf 17 rfl) rfl (by decide) ?_
      refine gi_iret C hr (dm_Mo_verdictOf 18 rfl) ?_
      refine ⟨?_, rfl, rfl⟩
      rw [ea, jdR_no (bI_fa c24)]
  · refine gi_iconst (q := 10) (v := 0) C (dm_Mo_verdictOf 5 rfl) rfl (by decide) ?_
    refine gi_iret C hr (dm_Mo_verdictOf 6 rfl) ?_
    refine ⟨?_, rfl, rfl⟩
    unfold jdV
    rw [bI_fa c6]
    rfl
end RL4
