/-! the reference's words and tokens -/
def pz_wc (v : Nat) : Nat := if v = 6327955 then 1 else if v = 611717 then 2 else if v = 15813 then 3 else if v = 12009203 then 4 else if v = 16052 then 5 else if v = 632046 then 6 else if v = 431284 then 7 else if v = 20293004 then 8 else if v = 284244 then 9 else if v = 17376357 then 10 else if v = 24395141 then 11 else if v = 12748404 then 12 else if v = 394885 then 13 else if v = 263558 then 14 else if v = 12748366 then 15 else if v = 1643 then 16 else if v = 278194 then 17 else 99
theorem ev_Mo_wordOf {E : fg_E} {d : Nat} {μ : Nat → Nat → Int32} {R : fg_T4} {Q : Option Value → fg_M → Prop} {v : Nat} (hv : v < 2 ^ 31) (hQ : Q (some (.int (nI (pz_wc v)))) (μ, fg_rho R, 304)) : fg_Ev E yy_Mo_wordOf (d + 3) [.int (nI v)] (μ, fg_rho R, 304) 304 Q := by
  refine fg_intro (by decide +kernel) (Nat.le_of_ble_eq_true rfl) (fg_okAs rfl) (Nat.le_refl _) ?_
  refine fg_iloadn (fg_ft (pc := 0) tb_Mo_wordOf 0 rfl) rfl ?_
  refine fg_bipush (fg_ft (pc := 1) tb_Mo_wordOf 1 rfl) ib_6 ?_
  refine fg_iconst (fg_ft (pc := 3) tb_Mo_wordOf 2 rfl) ic_1 ?_
  refine fg_iconst (fg_ft (pc := 4) tb_Mo_wordOf 3 rfl) ic_3 ?_
  refine fg_bipush (fg_ft (pc := 5) tb_Mo_wordOf 4 rfl) ib_20 ?_
  refine fg_bipush (fg_ft (pc := 7) tb_Mo_wordOf 5 rfl) ib_19 ?_
  refine fg_callS (fg_ft (pc := 9) tb_Mo_wordOf 6 rfl) cf_Mo_70 (as := [.int (nI 6), .int (nI 1), .int (nI 3), .int (nI 20), .int (nI 19)]) (st := [.int (nI v)]) rfl rfl (Nat.le_of_ble_eq_true rfl) (Nat.le_refl _) (Nat.le_refl _) (ev_Mo_five (a := 6) (b := 1) (c := 3) (z := 20) (y := 19) ?_)
  refine fg_icmp_neN (tgt := 17) (fg_ft (pc := 12) tb_Mo_wordOf 7 rfl) (by decide) (hv) (by decide) (fun c12 => ?_) (fun c12 => ?_)
  · refine fg_iloadn (fg_ft (pc := 17) tb_Mo_wordOf 10 rfl) rfl ?_
    refine fg_iconst (fg_ft (pc := 18) tb_Mo_wordOf 11 rfl) ic_0 ?_
    refine fg_bipush (fg_ft (pc := 19) tb_Mo_wordOf 12 rfl) ib_18 ?_
    refine fg_bipush (fg_ft (pc := 21) tb_Mo_wordOf 13 rfl) ib_21 ?_
    refine fg_bipush (fg_ft (pc := 23) tb_Mo_wordOf 14 rfl) ib_12 ?_
    refine fg_iconst (fg_ft (pc := 25) tb_Mo_wordOf 15 rfl) ic_5 ?_
    refine fg_callS (fg_ft (pc := 26) tb_Mo_wordOf 16 rfl) cf_Mo_70 (as := [.int (nI 0), .int (nI 18), .int (nI 21), .int (nI 12), .int (nI 5)]) (st := [.int (nI v)]) rfl rfl (Nat.le_of_ble_eq_true rfl) (Nat.le_refl _) (Nat.le_refl _) (ev_Mo_five (a := 0) (b := 18) (c := 21) (z := 12) (y := 5) ?_)
    refine fg_icmp_neN (tgt := 34) (fg_ft (pc := 29) tb_Mo_wordOf 17 rfl) (by decide) (hv) (by decide) (fun c29 => ?_) (fun c29 => ?_)
    · refine fg_iloadn (fg_ft (pc := 34) tb_Mo_wordOf 20 rfl) rfl ?_
      refine fg_bipush (fg_ft (pc := 35) tb_Mo_wordOf 21 rfl) ib_15 ?_
      refine fg_bipush (fg_ft (pc := 37) tb_Mo_wordOf 22 rfl) ib_14 ?_
      refine fg_iconst (fg_ft (pc := 39) tb_Mo_wordOf 23 rfl) ic_5 ?_
      refine fg_callS (fg_ft (pc := 40) tb_Mo_wordOf 24 rfl) cf_Mo_66 (as := [.int (nI 15), .int (nI 14), .int (nI 5)]) (st := [.int (nI v)]) rfl rfl (Nat.le_of_ble_eq_true rfl) (Nat.le_refl _) (Nat.le_refl _) (ev_Mo_three (a := 15) (b := 14) (c := 5) ?_)
      refine fg_icmp_neN (tgt := 48) (fg_ft (pc := 43) tb_Mo_wordOf 25 rfl) (by decide) (hv) (by decide) (fun c43 => ?_) (fun c43 => ?_)
      · refine fg_iloadn (fg_ft (pc := 48) tb_Mo_wordOf 28 rfl) rfl ?_
        refine fg_bipush (fg_ft (pc := 49) tb_Mo_wordOf 29 rfl) ib_11 ?_
        refine fg_bipush (fg_ft (pc := 51) tb_Mo_wordOf 30 rfl) ib_14 ?_
        refine fg_bipush (fg_ft (pc := 53) tb_Mo_wordOf 31 rfl) ib_15 ?_
        refine fg_bipush (fg_ft (pc := 55) tb_Mo_wordOf 32 rfl) ib_23 ?_
        refine fg_bipush (fg_ft (pc := 57) tb_Mo_wordOf 33 rfl) ib_19 ?_
        refine fg_callS (fg_ft (pc := 59) tb_Mo_wordOf 34 rfl) cf_Mo_70 (as := [.int (nI 11), .int (nI 14), .int (nI 15), .int (nI 23), .int (nI 19)]) (st := [.int (nI v)]) rfl rfl (Nat.le_of_ble_eq_true rfl) (Nat.le_refl _) (Nat.le_refl _) (ev_Mo_five (a := 11) (b := 14) (c := 15) (z := 23) (y := 19) ?_)
        refine fg_icmp_neN (tgt := 67) (fg_ft (pc := 62) tb_Mo_wordOf 35 rfl) (by decide) (hv) (by decide) (fun c62 => ?_) (fun c62 => ?_)
        · refine fg_iloadn (fg_ft (pc := 67) tb_Mo_wordOf 38 rfl) rfl ?_
          refine fg_bipush (fg_ft (pc := 68) tb_Mo_wordOf 39 rfl) ib_15 ?_
          refine fg_bipush (fg_ft (pc := 70) tb_Mo_wordOf 40 rfl) ib_21 ?_
          refine fg_bipush (fg_ft (pc := 72) tb_Mo_wordOf 41 rfl) ib_20 ?_
          refine fg_callS (fg_ft (pc := 74) tb_Mo_wordOf 42 rfl) cf_Mo_66 (as := [.int (nI 15), .int (nI 21), .int (nI 20)]) (st := [.int (nI v)]) rfl rfl (Nat.le_of_ble_eq_true rfl) (Nat.le_refl _) (Nat.le_refl _) (ev_Mo_three (a := 15) (b := 21) (c := 20) ?_)
          refine fg_icmp_neN (tgt := 82) (fg_ft (pc := 77) tb_Mo_wordOf 43 rfl) (by decide) (hv) (by decide) (fun c77 => ?_) (fun c77 => ?_)
          · refine fg_iloadn (fg_ft (pc := 82) tb_Mo_wordOf 46 rfl) rfl ?_
            refine fg_iconst (fg_ft (pc := 83) tb_Mo_wordOf 47 rfl) ic_0 ?_
            refine fg_bipush (fg_ft (pc := 84) tb_Mo_wordOf 48 rfl) ib_19 ?_
            refine fg_bipush (fg_ft (pc := 86) tb_Mo_wordOf 49 rfl) ib_9 ?_
            refine fg_bipush (fg_ft (pc := 88) tb_Mo_wordOf 50 rfl) ib_7 ?_
            refine fg_bipush (fg_ft (pc := 90) tb_Mo_wordOf 51 rfl) ib_14 ?_
            refine fg_callS (fg_ft (pc := 92) tb_Mo_wordOf 52 rfl) cf_Mo_70 (as := [.int (nI 0), .int (nI 19), .int (nI 9), .int (nI 7), .int (nI 14)]) (st := [.int (nI v)]) rfl rfl (Nat.le_of_ble_eq_true rfl) (Nat.le_refl _) (Nat.le_refl _) (ev_Mo_five (a := 0) (b := 19) (c := 9) (z := 7) (y := 14) ?_)
            refine fg_icmp_neN (tgt := 101) (fg_ft (pc := 95) tb_Mo_wordOf 53 rfl) (by decide) (hv) (by decide) (fun c95 => ?_) (fun c95 => ?_)
            · refine fg_iloadn (fg_ft (pc := 101) tb_Mo_wordOf 56 rfl) rfl ?_
              refine fg_iconst (fg_ft (pc := 102) tb_Mo_wordOf 57 rfl) ic_0 ?_
              refine fg_bipush (fg_ft (pc := 103) tb_Mo_wordOf 58 rfl) ib_13 ?_
              refine fg_iconst (fg_ft (pc := 105) tb_Mo_wordOf 59 rfl) ic_5 ?_
              refine fg_iconst (fg_ft (pc := 106) tb_Mo_wordOf 60 rfl) ic_5 ?_
              refine fg_bipush (fg_ft (pc := 107) tb_Mo_wordOf 61 rfl) ib_20 ?_
              refine fg_callS (fg_ft (pc := 109) tb_Mo_wordOf 62 rfl) cf_Mo_70 (as := [.int (nI 0), .int (nI 13), .int (nI 5), .int (nI 5), .int (nI 20)]) (st := [.int (nI v)]) rfl rfl (Nat.le_of_ble_eq_true rfl) (Nat.le_refl _) (Nat.le_refl _) (ev_Mo_five (a := 0) (b := 13) (c := 5) (z := 5) (y := 20) ?_)
              refine fg_icmp_neN (tgt := 118) (fg_ft (pc := 112) tb_Mo_wordOf 63 rfl) (by decide) (hv) (by decide) (fun c112 => ?_) (fun c112 => ?_)
              · refine fg_iloadn (fg_ft (pc := 118) tb_Mo_wordOf 66 rfl) rfl ?_
                refine fg_bipush (fg_ft (pc := 119) tb_Mo_wordOf 67 rfl) ib_19 ?_
                refine fg_bipush (fg_ft (pc := 121) tb_Mo_wordOf 68 rfl) ib_11 ?_
                refine fg_bipush (fg_ft (pc := 123) tb_Mo_wordOf 69 rfl) ib_9 ?_
                refine fg_bipush (fg_ft (pc := 125) tb_Mo_wordOf 70 rfl) ib_12 ?_
                refine fg_bipush (fg_ft (pc := 127) tb_Mo_wordOf 71 rfl) ib_12 ?_
                refine fg_callS (fg_ft (pc := 129) tb_Mo_wordOf 72 rfl) cf_Mo_70 (as := [.int (nI 19), .int (nI 11), .int (nI 9), .int (nI 12), .int (nI 12)]) (st := [.int (nI v)]) rfl rfl (Nat.le_of_ble_eq_true rfl) (Nat.le_refl _) (Nat.le_refl _) (ev_Mo_five (a := 19) (b := 11) (c := 9) (z := 12) (y := 12) ?_)
                refine fg_icmp_neN (tgt := 138) (fg_ft (pc := 132) tb_Mo_wordOf 73 rfl) (by decide) (hv) (by decide) (fun c132 => ?_) (fun c132 => ?_)
                · refine fg_iloadn (fg_ft (pc := 138) tb_Mo_wordOf 76 rfl) rfl ?_
                  refine fg_iconst (fg_ft (pc := 139) tb_Mo_wordOf 77 rfl) ic_0 ?_
                  refine fg_bipush (fg_ft (pc := 140) tb_Mo_wordOf 78 rfl) ib_8 ?_
                  refine fg_bipush (fg_ft (pc := 142) tb_Mo_wordOf 79 rfl) ib_21 ?_
                  refine fg_bipush (fg_ft (pc := 144) tb_Mo_wordOf 80 rfl) ib_18 ?_
                  refine fg_bipush (fg_ft (pc := 146) tb_Mo_wordOf 81 rfl) ib_20 ?_
                  refine fg_callS (fg_ft (pc := 148) tb_Mo_wordOf 82 rfl) cf_Mo_70 (as := [.int (nI 0), .int (nI 8), .int (nI 21), .int (nI 18), .int (nI 20)]) (st := [.int (nI v)]) rfl rfl (Nat.le_of_ble_eq_true rfl) (Nat.le_refl _) (Nat.le_refl _) (ev_Mo_five (a := 0) (b := 8) (c := 21) (z := 18) (y := 20) ?_)
                  refine fg_icmp_neN (tgt := 157) (fg_ft (pc := 151) tb_Mo_wordOf 83 rfl) (by decide) (hv) (by decide) (fun c151 => ?_) (fun c151 => ?_)
                  · refine fg_iloadn (fg_ft (pc := 157) tb_Mo_wordOf 86 rfl) rfl ?_
                    refine fg_bipush (fg_ft (pc := 158) tb_Mo_wordOf 87 rfl) ib_16 ?_
                    refine fg_bipush (fg_ft (pc := 160) tb_Mo_wordOf 88 rfl) ib_18 ?_
                    refine fg_bipush (fg_ft (pc := 162) tb_Mo_wordOf 89 rfl) ib_9 ?_
                    refine fg_iconst (fg_ft (pc := 164) tb_Mo_wordOf 90 rfl) ic_3 ?_
                    refine fg_iconst (fg_ft (pc := 165) tb_Mo_wordOf 91 rfl) ic_5 ?_
                    refine fg_callS (fg_ft (pc := 166) tb_Mo_wordOf 92 rfl) cf_Mo_70 (as := [.int (nI 16), .int (nI 18), .int (nI 9), .int (nI 3), .int (nI 5)]) (st := [.int (nI v)]) rfl rfl (Nat.le_of_ble_eq_true rfl) (Nat.le_refl _) (Nat.le_refl _) (ev_Mo_five (a := 16) (b := 18) (c := 9) (z := 3) (y := 5) ?_)
                    refine fg_icmp_neN (tgt := 175) (fg_ft (pc := 169) tb_Mo_wordOf 93 rfl) (by decide) (hv) (by decide) (fun c169 => ?_) (fun c169 => ?_)
                    · refine fg_iloadn (fg_ft (pc := 175) tb_Mo_wordOf 96 rfl) rfl ?_
                      refine fg_bipush (fg_ft (pc := 176) tb_Mo_wordOf 97 rfl) ib_23 ?_
                      refine fg_bipush (fg_ft (pc := 178) tb_Mo_wordOf 98 rfl) ib_8 ?_
                      refine fg_bipush (fg_ft (pc := 180) tb_Mo_wordOf 99 rfl) ib_15 ?_
                      refine fg_bipush (fg_ft (pc := 182) tb_Mo_wordOf 100 rfl) ib_12 ?_
                      refine fg_iconst (fg_ft (pc := 184) tb_Mo_wordOf 101 rfl) ic_5 ?_
                      refine fg_callS (fg_ft (pc := 185) tb_Mo_wordOf 102 rfl) cf_Mo_70 (as := [.int (nI 23), .int (nI 8), .int (nI 15), .int (nI 12), .int (nI 5)]) (st := [.int (nI v)]) rfl rfl (Nat.le_of_ble_eq_true rfl) (Nat.le_refl _) (Nat.le_refl _) (ev_Mo_five (a := 23) (b := 8) (c := 15) (z := 12) (y := 5) ?_)
                      refine fg_icmp_neN (tgt := 194) (fg_ft (pc := 188) tb_Mo_wordOf 103 rfl) (by decide) (hv) (by decide) (fun c188 => ?_) (fun c188 => ?_)
                      · refine fg_iloadn (fg_ft (pc := 194) tb_Mo_wordOf 106 rfl) rfl ?_
                        refine fg_bipush (fg_ft (pc := 195) tb_Mo_wordOf 107 rfl) ib_12 ?_
                        refine fg_iconst (fg_ft (pc := 197) tb_Mo_wordOf 108 rfl) ic_5 ?_
                        refine fg_iconst (fg_ft (pc := 198) tb_Mo_wordOf 109 rfl) ic_1 ?_
                        refine fg_bipush (fg_ft (pc := 199) tb_Mo_wordOf 110 rfl) ib_19 ?_
                        refine fg_bipush (fg_ft (pc := 201) tb_Mo_wordOf 111 rfl) ib_20 ?_
                        refine fg_callS (fg_ft (pc := 203) tb_Mo_wordOf 112 rfl) cf_Mo_70 (as := [.int (nI 12), .int (nI 5), .int (nI 1), .int (nI 19), .int (nI 20)]) (st := [.int (nI v)]) rfl rfl (Nat.le_of_ble_eq_true rfl) (Nat.le_refl _) (Nat.le_refl _) (ev_Mo_five (a := 12) (b := 5) (c := 1) (z := 19) (y := 20) ?_)
                        refine fg_icmp_neN (tgt := 212) (fg_ft (pc := 206) tb_Mo_wordOf 113 rfl) (by decide) (hv) (by decide) (fun c206 => ?_) (fun c206 => ?_)
                        · refine fg_iloadn (fg_ft (pc := 212) tb_Mo_wordOf 116 rfl) rfl ?_
                          refine fg_iconst (fg_ft (pc := 213) tb_Mo_wordOf 117 rfl) ic_0 ?_
                          refine fg_bipush (fg_ft (pc := 214) tb_Mo_wordOf 118 rfl) ib_12 ?_
                          refine fg_iconst (fg_ft (pc := 216) tb_Mo_wordOf 119 rfl) ic_1 ?_
                          refine fg_bipush (fg_ft (pc := 217) tb_Mo_wordOf 120 rfl) ib_20 ?_
                          refine fg_iconst (fg_ft (pc := 219) tb_Mo_wordOf 121 rfl) ic_5 ?_
                          refine fg_callS (fg_ft (pc := 220) tb_Mo_wordOf 122 rfl) cf_Mo_70 (as := [.int (nI 0), .int (nI 12), .int (nI 1), .int (nI 20), .int (nI 5)]) (st := [.int (nI v)]) rfl rfl (Nat.le_of_ble_eq_true rfl) (Nat.le_refl _) (Nat.le_refl _) (ev_Mo_five (a := 0) (b := 12) (c := 1) (z := 20) (y := 5) ?_)
                          refine fg_icmp_neN (tgt := 229) (fg_ft (pc := 223) tb_Mo_wordOf 123 rfl) (by decide) (hv) (by decide) (fun c223 => ?_) (fun c223 => ?_)
                          · refine fg_iloadn (fg_ft (pc := 229) tb_Mo_wordOf 126 rfl) rfl ?_
                            refine fg_iconst (fg_ft (pc := 230) tb_Mo_wordOf 127 rfl) ic_0 ?_
                            refine fg_bipush (fg_ft (pc := 231) tb_Mo_wordOf 128 rfl) ib_8 ?_
                            refine fg_iconst (fg_ft (pc := 233) tb_Mo_wordOf 129 rfl) ic_1 ?_
                            refine fg_bipush (fg_ft (pc := 234) tb_Mo_wordOf 130 rfl) ib_12 ?_
                            refine fg_bipush (fg_ft (pc := 236) tb_Mo_wordOf 131 rfl) ib_6 ?_
                            refine fg_callS (fg_ft (pc := 238) tb_Mo_wordOf 132 rfl) cf_Mo_70 (as := [.int (nI 0), .int (nI 8), .int (nI 1), .int (nI 12), .int (nI 6)]) (st := [.int (nI v)]) rfl rfl (Nat.le_of_ble_eq_true rfl) (Nat.le_refl _) (Nat.le_refl _) (ev_Mo_five (a := 0) (b := 8) (c := 1) (z := 12) (y := 6) ?_)
                            refine fg_icmp_neN (tgt := 247) (fg_ft (pc := 241) tb_Mo_wordOf 133 rfl) (by decide) (hv) (by decide) (fun c241 => ?_) (fun c241 => ?_)
                            · refine fg_iloadn (fg_ft (pc := 247) tb_Mo_wordOf 136 rfl) rfl ?_
                              refine fg_bipush (fg_ft (pc := 248) tb_Mo_wordOf 137 rfl) ib_12 ?_
                              refine fg_iconst (fg_ft (pc := 250) tb_Mo_wordOf 138 rfl) ic_5 ?_
                              refine fg_iconst (fg_ft (pc := 251) tb_Mo_wordOf 139 rfl) ic_1 ?_
                              refine fg_bipush (fg_ft (pc := 252) tb_Mo_wordOf 140 rfl) ib_18 ?_
                              refine fg_bipush (fg_ft (pc := 254) tb_Mo_wordOf 141 rfl) ib_14 ?_
                              refine fg_callS (fg_ft (pc := 256) tb_Mo_wordOf 142 rfl) cf_Mo_70 (as := [.int (nI 12), .int (nI 5), .int (nI 1), .int (nI 18), .int (nI 14)]) (st := [.int (nI v)]) rfl rfl (Nat.le_of_ble_eq_true rfl) (Nat.le_refl _) (Nat.le_refl _) (ev_Mo_five (a := 12) (b := 5) (c := 1) (z := 18) (y := 14) ?_)
                              refine fg_icmp_neN (tgt := 265) (fg_ft (pc := 259) tb_Mo_wordOf 143 rfl) (by decide) (hv) (by decide) (fun c259 => ?_) (fun c259 => ?_)
                              · refine fg_iloadn (fg_ft (pc := 265) tb_Mo_wordOf 146 rfl) rfl ?_
                                refine fg_iconst (fg_ft (pc := 266) tb_Mo_wordOf 147 rfl) ic_1 ?_
                                refine fg_bipush (fg_ft (pc := 267) tb_Mo_wordOf 148 rfl) ib_19 ?_
                                refine fg_bipush (fg_ft (pc := 269) tb_Mo_wordOf 149 rfl) ib_11 ?_
                                refine fg_callS (fg_ft (pc := 271) tb_Mo_wordOf 150 rfl) cf_Mo_66 (as := [.int (nI 1), .int (nI 19), .int (nI 11)]) (st := [.int (nI v)]) rfl rfl (Nat.le_of_ble_eq_true rfl) (Nat.le_refl _) (Nat.le_refl _) (ev_Mo_three (a := 1) (b := 19) (c := 11) ?_)
                                refine fg_icmp_neN (tgt := 280) (fg_ft (pc := 274) tb_Mo_wordOf 151 rfl) (by decide) (hv) (by decide) (fun c274 => ?_) (fun c274 => ?_)
                                · refine fg_iloadn (fg_ft (pc := 280) tb_Mo_wordOf 154 rfl) rfl ?_
                                  refine fg_iconst (fg_ft (pc := 281) tb_Mo_wordOf 155 rfl) ic_0 ?_
                                  refine fg_bipush (fg_ft (pc := 282) tb_Mo_wordOf 156 rfl) ib_8 ?_
                                  refine fg_bipush (fg_ft (pc := 284) tb_Mo_wordOf 157 rfl) ib_15 ?_
                                  refine fg_bipush (fg_ft (pc := 286) tb_Mo_wordOf 158 rfl) ib_21 ?_
                                  refine fg_bipush (fg_ft (pc := 288) tb_Mo_wordOf 159 rfl) ib_18 ?_
                                  refine fg_callS (fg_ft (pc := 290) tb_Mo_wordOf 160 rfl) cf_Mo_70 (as := [.int (nI 0), .int (nI 8), .int (nI 15), .int (nI 21), .int (nI 18)]) (st := [.int (nI v)]) rfl rfl (Nat.le_of_ble_eq_true rfl) (Nat.le_refl _) (Nat.le_refl _) (ev_Mo_five (a := 0) (b := 8) (c := 15) (z := 21) (y := 18) ?_)
                                  refine fg_icmp_neN (tgt := 301) (fg_ft (pc := 293) tb_Mo_wordOf 161 rfl) (by decide) (hv) (by decide) (fun c293 => ?_) (fun c293 => ?_)
                                  · refine fg_bipush (fg_ft (pc := 301) tb_Mo_wordOf 164 rfl) ib_99 ?_
                                    exact fg_iret (fg_ft (pc := 303) tb_Mo_wordOf 165 rfl) rfl rfl (fg_q hQ (by unfold pz_wc; rw [if_neg (by omega), if_neg (by omega), if_neg (by omega), if_neg (by omega), if_neg (by omega), if_neg (by omega), if_neg (by omega), if_neg (by omega), if_neg (by omega), if_neg (by omega), if_neg (by omega), if_neg (by omega), if_neg (by omega), if_neg (by omega), if_neg (by omega), if_neg (by omega), if_neg (by omega)]))
                                  · refine fg_bipush (fg_ft (pc := 296) tb_Mo_wordOf 162 rfl) ib_17 ?_
                                    refine fg_goto (tgt := 303) (fg_ft (pc := 298) tb_Mo_wordOf 163 rfl) (by decide) ?_
                                    exact fg_iret (fg_ft (pc := 303) tb_Mo_wordOf 165 rfl) rfl rfl (fg_q hQ (by unfold pz_wc; rw [if_neg (by omega), if_neg (by omega), if_neg (by omega), if_neg (by omega), if_neg (by omega), if_neg (by omega), if_neg (by omega), if_neg (by omega), if_neg (by omega), if_neg (by omega), if_neg (by omega), if_neg (by omega), if_neg (by omega), if_neg (by omega), if_neg (by omega), if_neg (by omega), if_pos (by omega)]))
                                · refine fg_bipush (fg_ft (pc := 277) tb_Mo_wordOf 152 rfl) ib_16 ?_
                                  exact fg_iret (fg_ft (pc := 279) tb_Mo_wordOf 153 rfl) rfl rfl (fg_q hQ (by unfold pz_wc; rw [if_neg (by omega), if_neg (by omega), if_neg (by omega), if_neg (by omega), if_neg (by omega), if_neg (by omega), if_neg (by omega), if_neg (by omega), if_neg (by omega), if_neg (by omega), if_neg (by omega), if_neg (by omega), if_neg (by omega), if_neg (by omega), if_neg (by omega), if_pos (by omega)]))
                              · refine fg_bipush (fg_ft (pc := 262) tb_Mo_wordOf 144 rfl) ib_15 ?_
                                exact fg_iret (fg_ft (pc := 264) tb_Mo_wordOf 145 rfl) rfl rfl (fg_q hQ (by unfold pz_wc; rw [if_neg (by omega), if_neg (by omega), if_neg (by omega), if_neg (by omega), if_neg (by omega), if_neg (by omega), if_neg (by omega), if_neg (by omega), if_neg (by omega), if_neg (by omega), if_neg (by omega), if_neg (by omega), if_neg (by omega), if_neg (by omega), if_pos (by omega)]))
                            · refine fg_bipush (fg_ft (pc := 244) tb_Mo_wordOf 134 rfl) ib_14 ?_
                              exact fg_iret (fg_ft (pc := 246) tb_Mo_wordOf 135 rfl) rfl rfl (fg_q hQ (by unfold pz_wc; rw [if_neg (by omega), if_neg (by omega), if_neg (by omega), if_neg (by omega), if_neg (by omega), if_neg (by omega), if_neg (by omega), if_neg (by omega), if_neg (by omega), if_neg (by omega), if_neg (by omega), if_neg (by omega), if_neg (by omega), if_pos (by omega)]))
                          · refine fg_bipush (fg_ft (pc := 226) tb_Mo_wordOf 124 rfl) ib_13 ?_
                            exact fg_iret (fg_ft (pc := 228) tb_Mo_wordOf 125 rfl) rfl rfl (fg_q hQ (by unfold pz_wc; rw [if_neg (by omega), if_neg (by omega), if_neg (by omega), if_neg (by omega), if_neg (by omega), if_neg (by omega), if_neg (by omega), if_neg (by omega), if_neg (by omega), if_neg (by omega), if_neg (by omega), if_neg (by omega), if_pos (by omega)]))
                        · refine fg_bipush (fg_ft (pc := 209) tb_Mo_wordOf 114 rfl) ib_12 ?_
                          exact fg_iret (fg_ft (pc := 211) tb_Mo_wordOf 115 rfl) rfl rfl (fg_q hQ (by unfold pz_wc; rw [if_neg (by omega), if_neg (by omega), if_neg (by omega), if_neg (by omega), if_neg (by omega), if_neg (by omega), if_neg (by omega), if_neg (by omega), if_neg (by omega), if_neg (by omega), if_neg (by omega), if_pos (by omega)]))
                      · refine fg_bipush (fg_ft (pc := 191) tb_Mo_wordOf 104 rfl) ib_11 ?_
                        exact fg_iret (fg_ft (pc := 193) tb_Mo_wordOf 105 rfl) rfl rfl (fg_q hQ (by unfold pz_wc; rw [if_neg (by omega), if_neg (by omega), if_neg (by omega), if_neg (by omega), if_neg (by omega), if_neg (by omega), if_neg (by omega), if_neg (by omega), if_neg (by omega), if_neg (by omega), if_pos (by omega)]))
                    · refine fg_bipush (fg_ft (pc := 172) tb_Mo_wordOf 94 rfl) ib_10 ?_
                      exact fg_iret (fg_ft (pc := 174) tb_Mo_wordOf 95 rfl) rfl rfl (fg_q hQ (by unfold pz_wc; rw [if_neg (by omega), if_neg (by omega), if_neg (by omega), if_neg (by omega), if_neg (by omega), if_neg (by omega), if_neg (by omega), if_neg (by omega), if_neg (by omega), if_pos (by omega)]))
                  · refine fg_bipush (fg_ft (pc := 154) tb_Mo_wordOf 84 rfl) ib_9 ?_
                    exact fg_iret (fg_ft (pc := 156) tb_Mo_wordOf 85 rfl) rfl rfl (fg_q hQ (by unfold pz_wc; rw [if_neg (by omega), if_neg (by omega), if_neg (by omega), if_neg (by omega), if_neg (by omega), if_neg (by omega), if_neg (by omega), if_neg (by omega), if_pos (by omega)]))
                · refine fg_bipush (fg_ft (pc := 135) tb_Mo_wordOf 74 rfl) ib_8 ?_
                  exact fg_iret (fg_ft (pc := 137) tb_Mo_wordOf 75 rfl) rfl rfl (fg_q hQ (by unfold pz_wc; rw [if_neg (by omega), if_neg (by omega), if_neg (by omega), if_neg (by omega), if_neg (by omega), if_neg (by omega), if_neg (by omega), if_pos (by omega)]))
              · refine fg_bipush (fg_ft (pc := 115) tb_Mo_wordOf 64 rfl) ib_7 ?_
                exact fg_iret (fg_ft (pc := 117) tb_Mo_wordOf 65 rfl) rfl rfl (fg_q hQ (by unfold pz_wc; rw [if_neg (by omega), if_neg (by omega), if_neg (by omega), if_neg (by omega), if_neg (by omega), if_neg (by omega), if_pos (by omega)]))
            · refine fg_bipush (fg_ft (pc := 98) tb_Mo_wordOf 54 rfl) ib_6 ?_
              exact fg_iret (fg_ft (pc := 100) tb_Mo_wordOf 55 rfl) rfl rfl (fg_q hQ (by unfold pz_wc; rw [if_neg (by omega), if_neg (by omega), if_neg (by omega), if_neg (by omega), if_neg (by omega), if_pos (by omega)]))
          · refine fg_iconst (fg_ft (pc := 80) tb_Mo_wordOf 44 rfl) ic_5 ?_
            exact fg_iret (fg_ft (pc := 81) tb_Mo_wordOf 45 rfl) rfl rfl (fg_q hQ (by unfold pz_wc; rw [if_neg (by omega), if_neg (by omega), if_neg (by omega), if_neg (by omega), if_pos (by omega)]))
        · refine fg_iconst (fg_ft (pc := 65) tb_Mo_wordOf 36 rfl) ic_4 ?_
          exact fg_iret (fg_ft (pc := 66) tb_Mo_wordOf 37 rfl) rfl rfl (fg_q hQ (by unfold pz_wc; rw [if_neg (by omega), if_neg (by omega), if_neg (by omega), if_pos (by omega)]))
      · refine fg_iconst (fg_ft (pc := 46) tb_Mo_wordOf 26 rfl) ic_3 ?_
        exact fg_iret (fg_ft (pc := 47) tb_Mo_wordOf 27 rfl) rfl rfl (fg_q hQ (by unfold pz_wc; rw [if_neg (by omega), if_neg (by omega), if_pos (by omega)]))
    · refine fg_iconst (fg_ft (pc := 32) tb_Mo_wordOf 18 rfl) ic_2 ?_
      exact fg_iret (fg_ft (pc := 33) tb_Mo_wordOf 19 rfl) rfl rfl (fg_q hQ (by unfold pz_wc; rw [if_neg (by omega), if_pos (by omega)]))
  · refine fg_iconst (fg_ft (pc := 15) tb_Mo_wordOf 8 rfl) ic_1 ?_
    exact fg_iret (fg_ft (pc := 16) tb_Mo_wordOf 9 rfl) rfl rfl (fg_q hQ (by unfold pz_wc; rw [if_pos (by omega)]))
theorem pz_hv_lt {b : Nat → Nat} {s : Nat} : ∀ k, (∀ i, i < k → 97 ≤ b (s + i) ∧ b (s + i) ≤ 122) → pz_hv b s k < 32 ^ k ∧ (0 < k → 32 ^ (k - 1) ≤ pz_hv b s k) := by
  intro k
  induction k with
  | zero => intro _; exact ⟨show 0 < 1 by decide, fun h => absurd h (by decide)⟩
  | succ k ih =>
    intro h
    obtain ⟨i1, i2⟩ := ih (fun i hi => h i (by omega))
    have hk := h k (Nat.lt_succ_self k)
    have e : pz_hv b s (k + 1) = 32 * pz_hv b s k + (b (s + k) - 96) := rfl
    rw [e]
    refine ⟨by rw [Nat.pow_succ]; omega, fun _ => ?_⟩
    rw [Nat.add_sub_cancel]
    rcases Nat.eq_zero_or_pos k with q | q
    · subst q; show 1 ≤ _; omega
    · have := i2 q
      have e2 : 32 ^ k = 32 ^ (k - 1) * 32 := by rw [← Nat.pow_succ, show (k - 1).succ = k by omega]
      omega
theorem pz_code_0 {b : Nat → Nat} {s k : Nat} (hk : 1 ≤ k) (hk5 : k ≤ 5) (hl : ∀ i, i < k → 97 ≤ b (s + i) ∧ b (s + i) ≤ 122) : pz_hv b s k = 6327955 ↔ (k = (pz_sp 0).length ∧ ∀ i, i < (pz_sp 0).length → b (s + i) = (pz_sp 0).getD i 0) := by
  constructor
  · intro h
    rcases (show k = 1 ∨ k = 2 ∨ k = 3 ∨ k = 4 ∨ k = 5 by omega) with rfl | rfl | rfl | rfl | rfl
    · have e : 32 * (0) + (b (s + 0) - 96) = 6327955 := h
      have l0 := hl 0 (by decide)
      exfalso; omega
    · have e : 32 * (32 * (0) + (b (s + 0) - 96)) + (b (s + 1) - 96) = 6327955 := h
      have l0 := hl 0 (by decide); have l1 := hl 1 (by decide)
      exfalso; omega
    · have e : 32 * (32 * (32 * (0) + (b (s + 0) - 96)) + (b (s + 1) - 96)) + (b (s + 2) - 96) = 6327955 := h
      have l0 := hl 0 (by decide); have l1 := hl 1 (by decide); have l2 := hl 2 (by decide)
      exfalso; omega
    · have e : 32 * (32 * (32 * (32 * (0) + (b (s + 0) - 96)) + (b (s + 1) - 96)) + (b (s + 2) - 96)) + (b (s + 3) - 96) = 6327955 := h
      have l0 := hl 0 (by decide); have l1 := hl 1 (by decide); have l2 := hl 2 (by decide); have l3 := hl 3 (by decide)
      exfalso; omega
    · have e : 32 * (32 * (32 * (32 * (32 * (0) + (b (s + 0) - 96)) + (b (s + 1) - 96)) + (b (s + 2) - 96)) + (b (s + 3) - 96)) + (b (s + 4) - 96) = 6327955 := h
      have l0 := hl 0 (by decide); have l1 := hl 1 (by decide); have l2 := hl 2 (by decide); have l3 := hl 3 (by decide); have l4 := hl 4 (by decide)
      refine ⟨rfl, fun i hi => ?_⟩
      have hi2 : i < 5 := hi
      rcases (show i = 0 ∨ i = 1 ∨ i = 2 ∨ i = 3 ∨ i = 4 by omega) with rfl | rfl | rfl | rfl | rfl
      · show b (s + 0) = 102; omega
      · show b (s + 1) = 97; omega
      · show b (s + 2) = 99; omega
      · show b (s + 3) = 116; omega
      · show b (s + 4) = 115; omega
  · rintro ⟨h1, h2⟩
    rw [h1]
    have g0 : b (s + 0) = 102 := h2 0 (by decide)
    have g1 : b (s + 1) = 97 := h2 1 (by decide)
    have g2 : b (s + 2) = 99 := h2 2 (by decide)
    have g3 : b (s + 3) = 116 := h2 3 (by decide)
    have g4 : b (s + 4) = 115 := h2 4 (by decide)
    show 32 * (32 * (32 * (32 * (32 * (0) + (b (s + 0) - 96)) + (b (s + 1) - 96)) + (b (s + 2) - 96)) + (b (s + 3) - 96)) + (b (s + 4) - 96) = 6327955
    omega
theorem pz_code_1 {b : Nat → Nat} {s k : Nat} (hk : 1 ≤ k) (hk5 : k ≤ 5) (hl : ∀ i, i < k → 97 ≤ b (s + i) ∧ b (s + i) ≤ 122) : pz_hv b s k = 611717 ↔ (k = (pz_sp 1).length ∧ ∀ i, i < (pz_sp 1).length → b (s + i) = (pz_sp 1).getD i 0) := by
  constructor
  · intro h
    rcases (show k = 1 ∨ k = 2 ∨ k = 3 ∨ k = 4 ∨ k = 5 by omega) with rfl | rfl | rfl | rfl | rfl
    · have e : 32 * (0) + (b (s + 0) - 96) = 611717 := h
      have l0 := hl 0 (by decide)
      exfalso; omega
    · have e : 32 * (32 * (0) + (b (s + 0) - 96)) + (b (s + 1) - 96) = 611717 := h
      have l0 := hl 0 (by decide); have l1 := hl 1 (by decide)
      exfalso; omega
    · have e : 32 * (32 * (32 * (0) + (b (s + 0) - 96)) + (b (s + 1) - 96)) + (b (s + 2) - 96) = 611717 := h
      have l0 := hl 0 (by decide); have l1 := hl 1 (by decide); have l2 := hl 2 (by decide)
      exfalso; omega
    · have e : 32 * (32 * (32 * (32 * (0) + (b (s + 0) - 96)) + (b (s + 1) - 96)) + (b (s + 2) - 96)) + (b (s + 3) - 96) = 611717 := h
      have l0 := hl 0 (by decide); have l1 := hl 1 (by decide); have l2 := hl 2 (by decide); have l3 := hl 3 (by decide)
      refine ⟨rfl, fun i hi => ?_⟩
      have hi2 : i < 4 := hi
      rcases (show i = 0 ∨ i = 1 ∨ i = 2 ∨ i = 3 by omega) with rfl | rfl | rfl | rfl
      · show b (s + 0) = 114; omega
      · show b (s + 1) = 117; omega
      · show b (s + 2) = 108; omega
      · show b (s + 3) = 101; omega
    · have e : 32 * (32 * (32 * (32 * (32 * (0) + (b (s + 0) - 96)) + (b (s + 1) - 96)) + (b (s + 2) - 96)) + (b (s + 3) - 96)) + (b (s + 4) - 96) = 611717 := h
      have l0 := hl 0 (by decide); have l1 := hl 1 (by decide); have l2 := hl 2 (by decide); have l3 := hl 3 (by decide); have l4 := hl 4 (by decide)
      exfalso; omega
  · rintro ⟨h1, h2⟩
    rw [h1]
    have g0 : b (s + 0) = 114 := h2 0 (by decide)
    have g1 : b (s + 1) = 117 := h2 1 (by decide)
    have g2 : b (s + 2) = 108 := h2 2 (by decide)
    have g3 : b (s + 3) = 101 := h2 3 (by decide)
    show 32 * (32 * (32 * (32 * (0) + (b (s + 0) - 96)) + (b (s + 1) - 96)) + (b (s + 2) - 96)) + (b (s + 3) - 96) = 611717
    omega
theorem pz_code_2 {b : Nat → Nat} {s k : Nat} (hk : 1 ≤ k) (hk5 : k ≤ 5) (hl : ∀ i, i < k → 97 ≤ b (s + i) ∧ b (s + i) ≤ 122) : pz_hv b s k = 15813 ↔ (k = (pz_sp 2).length ∧ ∀ i, i < (pz_sp 2).length → b (s + i) = (pz_sp 2).getD i 0) := by
  constructor
  · intro h
    rcases (show k = 1 ∨ k = 2 ∨ k = 3 ∨ k = 4 ∨ k = 5 by omega) with rfl | rfl | rfl | rfl | rfl
    · have e : 32 * (0) + (b (s + 0) - 96) = 15813 := h
      have l0 := hl 0 (by decide)
      exfalso; omega
    · have e : 32 * (32 * (0) + (b (s + 0) - 96)) + (b (s + 1) - 96) = 15813 := h
      have l0 := hl 0 (by decide); have l1 := hl 1 (by decide)
      exfalso; omega
    · have e : 32 * (32 * (32 * (0) + (b (s + 0) - 96)) + (b (s + 1) - 96)) + (b (s + 2) - 96) = 15813 := h
      have l0 := hl 0 (by decide); have l1 := hl 1 (by decide); have l2 := hl 2 (by decide)
      refine ⟨rfl, fun i hi => ?_⟩
      have hi2 : i < 3 := hi
      rcases (show i = 0 ∨ i = 1 ∨ i = 2 by omega) with rfl | rfl | rfl
      · show b (s + 0) = 111; omega
      · show b (s + 1) = 110; omega
      · show b (s + 2) = 101; omega
    · have e : 32 * (32 * (32 * (32 * (0) + (b (s + 0) - 96)) + (b (s + 1) - 96)) + (b (s + 2) - 96)) + (b (s + 3) - 96) = 15813 := h
      have l0 := hl 0 (by decide); have l1 := hl 1 (by decide); have l2 := hl 2 (by decide); have l3 := hl 3 (by decide)
      exfalso; omega
    · have e : 32 * (32 * (32 * (32 * (32 * (0) + (b (s + 0) - 96)) + (b (s + 1) - 96)) + (b (s + 2) - 96)) + (b (s + 3) - 96)) + (b (s + 4) - 96) = 15813 := h
      have l0 := hl 0 (by decide); have l1 := hl 1 (by decide); have l2 := hl 2 (by decide); have l3 := hl 3 (by decide); have l4 := hl 4 (by decide)
      exfalso; omega
  · rintro ⟨h1, h2⟩
    rw [h1]
    have g0 : b (s + 0) = 111 := h2 0 (by decide)
    have g1 : b (s + 1) = 110 := h2 1 (by decide)
    have g2 : b (s + 2) = 101 := h2 2 (by decide)
    show 32 * (32 * (32 * (0) + (b (s + 0) - 96)) + (b (s + 1) - 96)) + (b (s + 2) - 96) = 15813
    omega
theorem pz_code_3 {b : Nat → Nat} {s k : Nat} (hk : 1 ≤ k) (hk5 : k ≤ 5) (hl : ∀ i, i < k → 97 ≤ b (s + i) ∧ b (s + i) ≤ 122) : pz_hv b s k = 12009203 ↔ (k = (pz_sp 3).length ∧ ∀ i, i < (pz_sp 3).length → b (s + i) = (pz_sp 3).getD i 0) := by
  constructor
  · intro h
    rcases (show k = 1 ∨ k = 2 ∨ k = 3 ∨ k = 4 ∨ k = 5 by omega) with rfl | rfl | rfl | rfl | rfl
    · have e : 32 * (0) + (b (s + 0) - 96) = 12009203 := h
      have l0 := hl 0 (by decide)
      exfalso; omega
    · have e : 32 * (32 * (0) + (b (s + 0) - 96)) + (b (s + 1) - 96) = 12009203 := h
      have l0 := hl 0 (by decide); have l1 := hl 1 (by decide)
      exfalso; omega
    · have e : 32 * (32 * (32 * (0) + (b (s + 0) - 96)) + (b (s + 1) - 96)) + (b (s + 2) - 96) = 12009203 := h
      have l0 := hl 0 (by decide); have l1 := hl 1 (by decide); have l2 := hl 2 (by decide)
      exfalso; omega
    · have e : 32 * (32 * (32 * (32 * (0) + (b (s + 0) - 96)) + (b (s + 1) - 96)) + (b (s + 2) - 96)) + (b (s + 3) - 96) = 12009203 := h
      have l0 := hl 0 (by decide); have l1 := hl 1 (by decide); have l2 := hl 2 (by decide); have l3 := hl 3 (by decide)
      exfalso; omega
    · have e : 32 * (32 * (32 * (32 * (32 * (0) + (b (s + 0) - 96)) + (b (s + 1) - 96)) + (b (s + 2) - 96)) + (b (s + 3) - 96)) + (b (s + 4) - 96) = 12009203 := h
      have l0 := hl 0 (by decide); have l1 := hl 1 (by decide); have l2 := hl 2 (by decide); have l3 := hl 3 (by decide); have l4 := hl 4 (by decide)
      refine ⟨rfl, fun i hi => ?_⟩
      have hi2 : i < 5 := hi
      rcases (show i = 0 ∨ i = 1 ∨ i = 2 ∨ i = 3 ∨ i = 4 by omega) with rfl | rfl | rfl | rfl | rfl
      · show b (s + 0) = 107; omega
      · show b (s + 1) = 110; omega
      · show b (s + 2) = 111; omega
      · show b (s + 3) = 119; omega
      · show b (s + 4) = 115; omega
  · rintro ⟨h1, h2⟩
    rw [h1]
    have g0 : b (s + 0) = 107 := h2 0 (by decide)
    have g1 : b (s + 1) = 110 := h2 1 (by decide)
    have g2 : b (s + 2) = 111 := h2 2 (by decide)
    have g3 : b (s + 3) = 119 := h2 3 (by decide)
    have g4 : b (s + 4) = 115 := h2 4 (by decide)
    show 32 * (32 * (32 * (32 * (32 * (0) + (b (s + 0) - 96)) + (b (s + 1) - 96)) + (b (s + 2) - 96)) + (b (s + 3) - 96)) + (b (s + 4) - 96) = 12009203
    omega
theorem pz_code_4 {b : Nat → Nat} {s k : Nat} (hk : 1 ≤ k) (hk5 : k ≤ 5) (hl : ∀ i, i < k → 97 ≤ b (s + i) ∧ b (s + i) ≤ 122) : pz_hv b s k = 16052 ↔ (k = (pz_sp 4).length ∧ ∀ i, i < (pz_sp 4).length → b (s + i) = (pz_sp 4).getD i 0) := by
  constructor
  · intro h
    rcases (show k = 1 ∨ k = 2 ∨ k = 3 ∨ k = 4 ∨ k = 5 by omega) with rfl | rfl | rfl | rfl | rfl
    · have e : 32 * (0) + (b (s + 0) - 96) = 16052 := h
      have l0 := hl 0 (by decide)
      exfalso; omega
    · have e : 32 * (32 * (0) + (b (s + 0) - 96)) + (b (s + 1) - 96) = 16052 := h
      have l0 := hl 0 (by decide); have l1 := hl 1 (by decide)
      exfalso; omega
    · have e : 32 * (32 * (32 * (0) + (b (s + 0) - 96)) + (b (s + 1) - 96)) + (b (s + 2) - 96) = 16052 := h
      have l0 := hl 0 (by decide); have l1 := hl 1 (by decide); have l2 := hl 2 (by decide)
      refine ⟨rfl, fun i hi => ?_⟩
      have hi2 : i < 3 := hi
      rcases (show i = 0 ∨ i = 1 ∨ i = 2 by omega) with rfl | rfl | rfl
      · show b (s + 0) = 111; omega
      · show b (s + 1) = 117; omega
      · show b (s + 2) = 116; omega
    · have e : 32 * (32 * (32 * (32 * (0) + (b (s + 0) - 96)) + (b (s + 1) - 96)) + (b (s + 2) - 96)) + (b (s + 3) - 96) = 16052 := h
      have l0 := hl 0 (by decide); have l1 := hl 1 (by decide); have l2 := hl 2 (by decide); have l3 := hl 3 (by decide)
      exfalso; omega
    · have e : 32 * (32 * (32 * (32 * (32 * (0) + (b (s + 0) - 96)) + (b (s + 1) - 96)) + (b (s + 2) - 96)) + (b (s + 3) - 96)) + (b (s + 4) - 96) = 16052 := h
      have l0 := hl 0 (by decide); have l1 := hl 1 (by decide); have l2 := hl 2 (by decide); have l3 := hl 3 (by decide); have l4 := hl 4 (by decide)
      exfalso; omega
  · rintro ⟨h1, h2⟩
    rw [h1]
    have g0 : b (s + 0) = 111 := h2 0 (by decide)
    have g1 : b (s + 1) = 117 := h2 1 (by decide)
    have g2 : b (s + 2) = 116 := h2 2 (by decide)
    show 32 * (32 * (32 * (0) + (b (s + 0) - 96)) + (b (s + 1) - 96)) + (b (s + 2) - 96) = 16052
    omega
theorem pz_code_5 {b : Nat → Nat} {s k : Nat} (hk : 1 ≤ k) (hk5 : k ≤ 5) (hl : ∀ i, i < k → 97 ≤ b (s + i) ∧ b (s + i) ≤ 122) : pz_hv b s k = 632046 ↔ (k = (pz_sp 5).length ∧ ∀ i, i < (pz_sp 5).length → b (s + i) = (pz_sp 5).getD i 0) := by
  constructor
  · intro h
    rcases (show k = 1 ∨ k = 2 ∨ k = 3 ∨ k = 4 ∨ k = 5 by omega) with rfl | rfl | rfl | rfl | rfl
    · have e : 32 * (0) + (b (s + 0) - 96) = 632046 := h
      have l0 := hl 0 (by decide)
      exfalso; omega
    · have e : 32 * (32 * (0) + (b (s + 0) - 96)) + (b (s + 1) - 96) = 632046 := h
      have l0 := hl 0 (by decide); have l1 := hl 1 (by decide)
      exfalso; omega
    · have e : 32 * (32 * (32 * (0) + (b (s + 0) - 96)) + (b (s + 1) - 96)) + (b (s + 2) - 96) = 632046 := h
      have l0 := hl 0 (by decide); have l1 := hl 1 (by decide); have l2 := hl 2 (by decide)
      exfalso; omega
    · have e : 32 * (32 * (32 * (32 * (0) + (b (s + 0) - 96)) + (b (s + 1) - 96)) + (b (s + 2) - 96)) + (b (s + 3) - 96) = 632046 := h
      have l0 := hl 0 (by decide); have l1 := hl 1 (by decide); have l2 := hl 2 (by decide); have l3 := hl 3 (by decide)
      refine ⟨rfl, fun i hi => ?_⟩
      have hi2 : i < 4 := hi
      rcases (show i = 0 ∨ i = 1 ∨ i = 2 ∨ i = 3 by omega) with rfl | rfl | rfl | rfl
      · show b (s + 0) = 115; omega
      · show b (s + 1) = 105; omega
      · show b (s + 2) = 103; omega
      · show b (s + 3) = 110; omega
    · have e : 32 * (32 * (32 * (32 * (32 * (0) + (b (s + 0) - 96)) + (b (s + 1) - 96)) + (b (s + 2) - 96)) + (b (s + 3) - 96)) + (b (s + 4) - 96) = 632046 := h
      have l0 := hl 0 (by decide); have l1 := hl 1 (by decide); have l2 := hl 2 (by decide); have l3 := hl 3 (by decide); have l4 := hl 4 (by decide)
      exfalso; omega
  · rintro ⟨h1, h2⟩
    rw [h1]
    have g0 : b (s + 0) = 115 := h2 0 (by decide)
    have g1 : b (s + 1) = 105 := h2 1 (by decide)
    have g2 : b (s + 2) = 103 := h2 2 (by decide)
    have g3 : b (s + 3) = 110 := h2 3 (by decide)
    show 32 * (32 * (32 * (32 * (0) + (b (s + 0) - 96)) + (b (s + 1) - 96)) + (b (s + 2) - 96)) + (b (s + 3) - 96) = 632046
    omega
theorem pz_code_6 {b : Nat → Nat} {s k : Nat} (hk : 1 ≤ k) (hk5 : k ≤ 5) (hl : ∀ i, i < k → 97 ≤ b (s + i) ∧ b (s + i) ≤ 122) : pz_hv b s k = 431284 ↔ (k = (pz_sp 6).length ∧ ∀ i, i < (pz_sp 6).length → b (s + i) = (pz_sp 6).getD i 0) := by
  constructor
  · intro h
    rcases (show k = 1 ∨ k = 2 ∨ k = 3 ∨ k = 4 ∨ k = 5 by omega) with rfl | rfl | rfl | rfl | rfl
    · have e : 32 * (0) + (b (s + 0) - 96) = 431284 := h
      have l0 := hl 0 (by decide)
      exfalso; omega
    · have e : 32 * (32 * (0) + (b (s + 0) - 96)) + (b (s + 1) - 96) = 431284 := h
      have l0 := hl 0 (by decide); have l1 := hl 1 (by decide)
      exfalso; omega
    · have e : 32 * (32 * (32 * (0) + (b (s + 0) - 96)) + (b (s + 1) - 96)) + (b (s + 2) - 96) = 431284 := h
      have l0 := hl 0 (by decide); have l1 := hl 1 (by decide); have l2 := hl 2 (by decide)
      exfalso; omega
    · have e : 32 * (32 * (32 * (32 * (0) + (b (s + 0) - 96)) + (b (s + 1) - 96)) + (b (s + 2) - 96)) + (b (s + 3) - 96) = 431284 := h
      have l0 := hl 0 (by decide); have l1 := hl 1 (by decide); have l2 := hl 2 (by decide); have l3 := hl 3 (by decide)
      refine ⟨rfl, fun i hi => ?_⟩
      have hi2 : i < 4 := hi
      rcases (show i = 0 ∨ i = 1 ∨ i = 2 ∨ i = 3 by omega) with rfl | rfl | rfl | rfl
      · show b (s + 0) = 109; omega
      · show b (s + 1) = 101; omega
      · show b (s + 2) = 101; omega
      · show b (s + 3) = 116; omega
    · have e : 32 * (32 * (32 * (32 * (32 * (0) + (b (s + 0) - 96)) + (b (s + 1) - 96)) + (b (s + 2) - 96)) + (b (s + 3) - 96)) + (b (s + 4) - 96) = 431284 := h
      have l0 := hl 0 (by decide); have l1 := hl 1 (by decide); have l2 := hl 2 (by decide); have l3 := hl 3 (by decide); have l4 := hl 4 (by decide)
      exfalso; omega
  · rintro ⟨h1, h2⟩
    rw [h1]
    have g0 : b (s + 0) = 109 := h2 0 (by decide)
    have g1 : b (s + 1) = 101 := h2 1 (by decide)
    have g2 : b (s + 2) = 101 := h2 2 (by decide)
    have g3 : b (s + 3) = 116 := h2 3 (by decide)
    show 32 * (32 * (32 * (32 * (0) + (b (s + 0) - 96)) + (b (s + 1) - 96)) + (b (s + 2) - 96)) + (b (s + 3) - 96) = 431284
    omega
theorem pz_code_7 {b : Nat → Nat} {s k : Nat} (hk : 1 ≤ k) (hk5 : k ≤ 5) (hl : ∀ i, i < k → 97 ≤ b (s + i) ∧ b (s + i) ≤ 122) : pz_hv b s k = 20293004 ↔ (k = (pz_sp 7).length ∧ ∀ i, i < (pz_sp 7).length → b (s + i) = (pz_sp 7).getD i 0) := by
  constructor
  · intro h
    rcases (show k = 1 ∨ k = 2 ∨ k = 3 ∨ k = 4 ∨ k = 5 by omega) with rfl | rfl | rfl | rfl | rfl
    · have e : 32 * (0) + (b (s + 0) - 96) = 20293004 := h
      have l0 := hl 0 (by decide)
      exfalso; omega
    · have e : 32 * (32 * (0) + (b (s + 0) - 96)) + (b (s + 1) - 96) = 20293004 := h
      have l0 := hl 0 (by decide); have l1 := hl 1 (by decide)
      exfalso; omega
    · have e : 32 * (32 * (32 * (0) + (b (s + 0) - 96)) + (b (s + 1) - 96)) + (b (s + 2) - 96) = 20293004 := h
      have l0 := hl 0 (by decide); have l1 := hl 1 (by decide); have l2 := hl 2 (by decide)
      exfalso; omega
    · have e : 32 * (32 * (32 * (32 * (0) + (b (s + 0) - 96)) + (b (s + 1) - 96)) + (b (s + 2) - 96)) + (b (s + 3) - 96) = 20293004 := h
      have l0 := hl 0 (by decide); have l1 := hl 1 (by decide); have l2 := hl 2 (by decide); have l3 := hl 3 (by decide)
      exfalso; omega
    · have e : 32 * (32 * (32 * (32 * (32 * (0) + (b (s + 0) - 96)) + (b (s + 1) - 96)) + (b (s + 2) - 96)) + (b (s + 3) - 96)) + (b (s + 4) - 96) = 20293004 := h
      have l0 := hl 0 (by decide); have l1 := hl 1 (by decide); have l2 := hl 2 (by decide); have l3 := hl 3 (by decide); have l4 := hl 4 (by decide)
      refine ⟨rfl, fun i hi => ?_⟩
      have hi2 : i < 5 := hi
      rcases (show i = 0 ∨ i = 1 ∨ i = 2 ∨ i = 3 ∨ i = 4 by omega) with rfl | rfl | rfl | rfl | rfl
      · show b (s + 0) = 115; omega
      · show b (s + 1) = 107; omega
      · show b (s + 2) = 105; omega
      · show b (s + 3) = 108; omega
      · show b (s + 4) = 108; omega
  · rintro ⟨h1, h2⟩
    rw [h1]
    have g0 : b (s + 0) = 115 := h2 0 (by decide)
    have g1 : b (s + 1) = 107 := h2 1 (by decide)
    have g2 : b (s + 2) = 105 := h2 2 (by decide)
    have g3 : b (s + 3) = 108 := h2 3 (by decide)
    have g4 : b (s + 4) = 108 := h2 4 (by decide)
    show 32 * (32 * (32 * (32 * (32 * (0) + (b (s + 0) - 96)) + (b (s + 1) - 96)) + (b (s + 2) - 96)) + (b (s + 3) - 96)) + (b (s + 4) - 96) = 20293004
    omega
theorem pz_code_8 {b : Nat → Nat} {s k : Nat} (hk : 1 ≤ k) (hk5 : k ≤ 5) (hl : ∀ i, i < k → 97 ≤ b (s + i) ∧ b (s + i) ≤ 122) : pz_hv b s k = 284244 ↔ (k = (pz_sp 8).length ∧ ∀ i, i < (pz_sp 8).length → b (s + i) = (pz_sp 8).getD i 0) := by
  constructor
  · intro h
    rcases (show k = 1 ∨ k = 2 ∨ k = 3 ∨ k = 4 ∨ k = 5 by omega) with rfl | rfl | rfl | rfl | rfl
    · have e : 32 * (0) + (b (s + 0) - 96) = 284244 := h
      have l0 := hl 0 (by decide)
      exfalso; omega
    · have e : 32 * (32 * (0) + (b (s + 0) - 96)) + (b (s + 1) - 96) = 284244 := h
      have l0 := hl 0 (by decide); have l1 := hl 1 (by decide)
      exfalso; omega
    · have e : 32 * (32 * (32 * (0) + (b (s + 0) - 96)) + (b (s + 1) - 96)) + (b (s + 2) - 96) = 284244 := h
      have l0 := hl 0 (by decide); have l1 := hl 1 (by decide); have l2 := hl 2 (by decide)
      exfalso; omega
    · have e : 32 * (32 * (32 * (32 * (0) + (b (s + 0) - 96)) + (b (s + 1) - 96)) + (b (s + 2) - 96)) + (b (s + 3) - 96) = 284244 := h
      have l0 := hl 0 (by decide); have l1 := hl 1 (by decide); have l2 := hl 2 (by decide); have l3 := hl 3 (by decide)
      refine ⟨rfl, fun i hi => ?_⟩
      have hi2 : i < 4 := hi
      rcases (show i = 0 ∨ i = 1 ∨ i = 2 ∨ i = 3 by omega) with rfl | rfl | rfl | rfl
      · show b (s + 0) = 104; omega
      · show b (s + 1) = 117; omega
      · show b (s + 2) = 114; omega
      · show b (s + 3) = 116; omega
    · have e : 32 * (32 * (32 * (32 * (32 * (0) + (b (s + 0) - 96)) + (b (s + 1) - 96)) + (b (s + 2) - 96)) + (b (s + 3) - 96)) + (b (s + 4) - 96) = 284244 := h
      have l0 := hl 0 (by decide); have l1 := hl 1 (by decide); have l2 := hl 2 (by decide); have l3 := hl 3 (by decide); have l4 := hl 4 (by decide)
      exfalso; omega
  · rintro ⟨h1, h2⟩
    rw [h1]
    have g0 : b (s + 0) = 104 := h2 0 (by decide)
    have g1 : b (s + 1) = 117 := h2 1 (by decide)
    have g2 : b (s + 2) = 114 := h2 2 (by decide)
    have g3 : b (s + 3) = 116 := h2 3 (by decide)
    show 32 * (32 * (32 * (32 * (0) + (b (s + 0) - 96)) + (b (s + 1) - 96)) + (b (s + 2) - 96)) + (b (s + 3) - 96) = 284244
    omega
theorem pz_code_9 {b : Nat → Nat} {s k : Nat} (hk : 1 ≤ k) (hk5 : k ≤ 5) (hl : ∀ i, i < k → 97 ≤ b (s + i) ∧ b (s + i) ≤ 122) : pz_hv b s k = 17376357 ↔ (k = (pz_sp 9).length ∧ ∀ i, i < (pz_sp 9).length → b (s + i) = (pz_sp 9).getD i 0) := by
  constructor
  · intro h
    rcases (show k = 1 ∨ k = 2 ∨ k = 3 ∨ k = 4 ∨ k = 5 by omega) with rfl | rfl | rfl | rfl | rfl
    · have e : 32 * (0) + (b (s + 0) - 96) = 17376357 := h
      have l0 := hl 0 (by decide)
      exfalso; omega
    · have e : 32 * (32 * (0) + (b (s + 0) - 96)) + (b (s + 1) - 96) = 17376357 := h
      have l0 := hl 0 (by decide); have l1 := hl 1 (by decide)
      exfalso; omega
    · have e : 32 * (32 * (32 * (0) + (b (s + 0) - 96)) + (b (s + 1) - 96)) + (b (s + 2) - 96) = 17376357 := h
      have l0 := hl 0 (by decide); have l1 := hl 1 (by decide); have l2 := hl 2 (by decide)
      exfalso; omega
    · have e : 32 * (32 * (32 * (32 * (0) + (b (s + 0) - 96)) + (b (s + 1) - 96)) + (b (s + 2) - 96)) + (b (s + 3) - 96) = 17376357 := h
      have l0 := hl 0 (by decide); have l1 := hl 1 (by decide); have l2 := hl 2 (by decide); have l3 := hl 3 (by decide)
      exfalso; omega
    · have e : 32 * (32 * (32 * (32 * (32 * (0) + (b (s + 0) - 96)) + (b (s + 1) - 96)) + (b (s + 2) - 96)) + (b (s + 3) - 96)) + (b (s + 4) - 96) = 17376357 := h
      have l0 := hl 0 (by decide); have l1 := hl 1 (by decide); have l2 := hl 2 (by decide); have l3 := hl 3 (by decide); have l4 := hl 4 (by decide)
      refine ⟨rfl, fun i hi => ?_⟩
      have hi2 : i < 5 := hi
      rcases (show i = 0 ∨ i = 1 ∨ i = 2 ∨ i = 3 ∨ i = 4 by omega) with rfl | rfl | rfl | rfl | rfl
      · show b (s + 0) = 112; omega
      · show b (s + 1) = 114; omega
      · show b (s + 2) = 105; omega
      · show b (s + 3) = 99; omega
      · show b (s + 4) = 101; omega
  · rintro ⟨h1, h2⟩
    rw [h1]
    have g0 : b (s + 0) = 112 := h2 0 (by decide)
    have g1 : b (s + 1) = 114 := h2 1 (by decide)
    have g2 : b (s + 2) = 105 := h2 2 (by decide)
    have g3 : b (s + 3) = 99 := h2 3 (by decide)
    have g4 : b (s + 4) = 101 := h2 4 (by decide)
    show 32 * (32 * (32 * (32 * (32 * (0) + (b (s + 0) - 96)) + (b (s + 1) - 96)) + (b (s + 2) - 96)) + (b (s + 3) - 96)) + (b (s + 4) - 96) = 17376357
    omega
theorem pz_code_10 {b : Nat → Nat} {s k : Nat} (hk : 1 ≤ k) (hk5 : k ≤ 5) (hl : ∀ i, i < k → 97 ≤ b (s + i) ∧ b (s + i) ≤ 122) : pz_hv b s k = 24395141 ↔ (k = (pz_sp 10).length ∧ ∀ i, i < (pz_sp 10).length → b (s + i) = (pz_sp 10).getD i 0) := by
  constructor
  · intro h
    rcases (show k = 1 ∨ k = 2 ∨ k = 3 ∨ k = 4 ∨ k = 5 by omega) with rfl | rfl | rfl | rfl | rfl
    · have e : 32 * (0) + (b (s + 0) - 96) = 24395141 := h
      have l0 := hl 0 (by decide)
      exfalso; omega
    · have e : 32 * (32 * (0) + (b (s + 0) - 96)) + (b (s + 1) - 96) = 24395141 := h
      have l0 := hl 0 (by decide); have l1 := hl 1 (by decide)
      exfalso; omega
    · have e : 32 * (32 * (32 * (0) + (b (s + 0) - 96)) + (b (s + 1) - 96)) + (b (s + 2) - 96) = 24395141 := h
      have l0 := hl 0 (by decide); have l1 := hl 1 (by decide); have l2 := hl 2 (by decide)
      exfalso; omega
    · have e : 32 * (32 * (32 * (32 * (0) + (b (s + 0) - 96)) + (b (s + 1) - 96)) + (b (s + 2) - 96)) + (b (s + 3) - 96) = 24395141 := h
      have l0 := hl 0 (by decide); have l1 := hl 1 (by decide); have l2 := hl 2 (by decide); have l3 := hl 3 (by decide)
      exfalso; omega
    · have e : 32 * (32 * (32 * (32 * (32 * (0) + (b (s + 0) - 96)) + (b (s + 1) - 96)) + (b (s + 2) - 96)) + (b (s + 3) - 96)) + (b (s + 4) - 96) = 24395141 := h
      have l0 := hl 0 (by decide); have l1 := hl 1 (by decide); have l2 := hl 2 (by decide); have l3 := hl 3 (by decide); have l4 := hl 4 (by decide)
      refine ⟨rfl, fun i hi => ?_⟩
      have hi2 : i < 5 := hi
      rcases (show i = 0 ∨ i = 1 ∨ i = 2 ∨ i = 3 ∨ i = 4 by omega) with rfl | rfl | rfl | rfl | rfl
      · show b (s + 0) = 119; omega
      · show b (s + 1) = 104; omega
      · show b (s + 2) = 111; omega
      · show b (s + 3) = 108; omega
      · show b (s + 4) = 101; omega
  · rintro ⟨h1, h2⟩
    rw [h1]
    have g0 : b (s + 0) = 119 := h2 0 (by decide)
    have g1 : b (s + 1) = 104 := h2 1 (by decide)
    have g2 : b (s + 2) = 111 := h2 2 (by decide)
    have g3 : b (s + 3) = 108 := h2 3 (by decide)
    have g4 : b (s + 4) = 101 := h2 4 (by decide)
    show 32 * (32 * (32 * (32 * (32 * (0) + (b (s + 0) - 96)) + (b (s + 1) - 96)) + (b (s + 2) - 96)) + (b (s + 3) - 96)) + (b (s + 4) - 96) = 24395141
    omega
theorem pz_code_11 {b : Nat → Nat} {s k : Nat} (hk : 1 ≤ k) (hk5 : k ≤ 5) (hl : ∀ i, i < k → 97 ≤ b (s + i) ∧ b (s + i) ≤ 122) : pz_hv b s k = 12748404 ↔ (k = (pz_sp 11).length ∧ ∀ i, i < (pz_sp 11).length → b (s + i) = (pz_sp 11).getD i 0) := by
  constructor
  · intro h
    rcases (show k = 1 ∨ k = 2 ∨ k = 3 ∨ k = 4 ∨ k = 5 by omega) with rfl | rfl | rfl | rfl | rfl
    · have e : 32 * (0) + (b (s + 0) - 96) = 12748404 := h
      have l0 := hl 0 (by decide)
      exfalso; omega
    · have e : 32 * (32 * (0) + (b (s + 0) - 96)) + (b (s + 1) - 96) = 12748404 := h
      have l0 := hl 0 (by decide); have l1 := hl 1 (by decide)
      exfalso; omega
    · have e : 32 * (32 * (32 * (0) + (b (s + 0) - 96)) + (b (s + 1) - 96)) + (b (s + 2) - 96) = 12748404 := h
      have l0 := hl 0 (by decide); have l1 := hl 1 (by decide); have l2 := hl 2 (by decide)
      exfalso; omega
    · have e : 32 * (32 * (32 * (32 * (0) + (b (s + 0) - 96)) + (b (s + 1) - 96)) + (b (s + 2) - 96)) + (b (s + 3) - 96) = 12748404 := h
      have l0 := hl 0 (by decide); have l1 := hl 1 (by decide); have l2 := hl 2 (by decide); have l3 := hl 3 (by decide)
      exfalso; omega
    · have e : 32 * (32 * (32 * (32 * (32 * (0) + (b (s + 0) - 96)) + (b (s + 1) - 96)) + (b (s + 2) - 96)) + (b (s + 3) - 96)) + (b (s + 4) - 96) = 12748404 := h
      have l0 := hl 0 (by decide); have l1 := hl 1 (by decide); have l2 := hl 2 (by decide); have l3 := hl 3 (by decide); have l4 := hl 4 (by decide)
      refine ⟨rfl, fun i hi => ?_⟩
      have hi2 : i < 5 := hi
      rcases (show i = 0 ∨ i = 1 ∨ i = 2 ∨ i = 3 ∨ i = 4 by omega) with rfl | rfl | rfl | rfl | rfl
      · show b (s + 0) = 108; omega
      · show b (s + 1) = 101; omega
      · show b (s + 2) = 97; omega
      · show b (s + 3) = 115; omega
      · show b (s + 4) = 116; omega
  · rintro ⟨h1, h2⟩
    rw [h1]
    have g0 : b (s + 0) = 108 := h2 0 (by decide)
    have g1 : b (s + 1) = 101 := h2 1 (by decide)
    have g2 : b (s + 2) = 97 := h2 2 (by decide)
    have g3 : b (s + 3) = 115 := h2 3 (by decide)
    have g4 : b (s + 4) = 116 := h2 4 (by decide)
    show 32 * (32 * (32 * (32 * (32 * (0) + (b (s + 0) - 96)) + (b (s + 1) - 96)) + (b (s + 2) - 96)) + (b (s + 3) - 96)) + (b (s + 4) - 96) = 12748404
    omega
theorem pz_code_12 {b : Nat → Nat} {s k : Nat} (hk : 1 ≤ k) (hk5 : k ≤ 5) (hl : ∀ i, i < k → 97 ≤ b (s + i) ∧ b (s + i) ≤ 122) : pz_hv b s k = 394885 ↔ (k = (pz_sp 12).length ∧ ∀ i, i < (pz_sp 12).length → b (s + i) = (pz_sp 12).getD i 0) := by
  constructor
  · intro h
    rcases (show k = 1 ∨ k = 2 ∨ k = 3 ∨ k = 4 ∨ k = 5 by omega) with rfl | rfl | rfl | rfl | rfl
    · have e : 32 * (0) + (b (s + 0) - 96) = 394885 := h
      have l0 := hl 0 (by decide)
      exfalso; omega
    · have e : 32 * (32 * (0) + (b (s + 0) - 96)) + (b (s + 1) - 96) = 394885 := h
      have l0 := hl 0 (by decide); have l1 := hl 1 (by decide)
      exfalso; omega
    · have e : 32 * (32 * (32 * (0) + (b (s + 0) - 96)) + (b (s + 1) - 96)) + (b (s + 2) - 96) = 394885 := h
      have l0 := hl 0 (by decide); have l1 := hl 1 (by decide); have l2 := hl 2 (by decide)
      exfalso; omega
    · have e : 32 * (32 * (32 * (32 * (0) + (b (s + 0) - 96)) + (b (s + 1) - 96)) + (b (s + 2) - 96)) + (b (s + 3) - 96) = 394885 := h
      have l0 := hl 0 (by decide); have l1 := hl 1 (by decide); have l2 := hl 2 (by decide); have l3 := hl 3 (by decide)
      refine ⟨rfl, fun i hi => ?_⟩
      have hi2 : i < 4 := hi
      rcases (show i = 0 ∨ i = 1 ∨ i = 2 ∨ i = 3 by omega) with rfl | rfl | rfl | rfl
      · show b (s + 0) = 108; omega
      · show b (s + 1) = 97; omega
      · show b (s + 2) = 116; omega
      · show b (s + 3) = 101; omega
    · have e : 32 * (32 * (32 * (32 * (32 * (0) + (b (s + 0) - 96)) + (b (s + 1) - 96)) + (b (s + 2) - 96)) + (b (s + 3) - 96)) + (b (s + 4) - 96) = 394885 := h
      have l0 := hl 0 (by decide); have l1 := hl 1 (by decide); have l2 := hl 2 (by decide); have l3 := hl 3 (by decide); have l4 := hl 4 (by decide)
      exfalso; omega
  · rintro ⟨h1, h2⟩
    rw [h1]
    have g0 : b (s + 0) = 108 := h2 0 (by decide)
    have g1 : b (s + 1) = 97 := h2 1 (by decide)
    have g2 : b (s + 2) = 116 := h2 2 (by decide)
    have g3 : b (s + 3) = 101 := h2 3 (by decide)
    show 32 * (32 * (32 * (32 * (0) + (b (s + 0) - 96)) + (b (s + 1) - 96)) + (b (s + 2) - 96)) + (b (s + 3) - 96) = 394885
    omega
theorem pz_code_13 {b : Nat → Nat} {s k : Nat} (hk : 1 ≤ k) (hk5 : k ≤ 5) (hl : ∀ i, i < k → 97 ≤ b (s + i) ∧ b (s + i) ≤ 122) : pz_hv b s k = 263558 ↔ (k = (pz_sp 13).length ∧ ∀ i, i < (pz_sp 13).length → b (s + i) = (pz_sp 13).getD i 0) := by
  constructor
  · intro h
    rcases (show k = 1 ∨ k = 2 ∨ k = 3 ∨ k = 4 ∨ k = 5 by omega) with rfl | rfl | rfl | rfl | rfl
    · have e : 32 * (0) + (b (s + 0) - 96) = 263558 := h
      have l0 := hl 0 (by decide)
      exfalso; omega
    · have e : 32 * (32 * (0) + (b (s + 0) - 96)) + (b (s + 1) - 96) = 263558 := h
      have l0 := hl 0 (by decide); have l1 := hl 1 (by decide)
      exfalso; omega
    · have e : 32 * (32 * (32 * (0) + (b (s + 0) - 96)) + (b (s + 1) - 96)) + (b (s + 2) - 96) = 263558 := h
      have l0 := hl 0 (by decide); have l1 := hl 1 (by decide); have l2 := hl 2 (by decide)
      exfalso; omega
    · have e : 32 * (32 * (32 * (32 * (0) + (b (s + 0) - 96)) + (b (s + 1) - 96)) + (b (s + 2) - 96)) + (b (s + 3) - 96) = 263558 := h
      have l0 := hl 0 (by decide); have l1 := hl 1 (by decide); have l2 := hl 2 (by decide); have l3 := hl 3 (by decide)
      refine ⟨rfl, fun i hi => ?_⟩
      have hi2 : i < 4 := hi
      rcases (show i = 0 ∨ i = 1 ∨ i = 2 ∨ i = 3 by omega) with rfl | rfl | rfl | rfl
      · show b (s + 0) = 104; omega
      · show b (s + 1) = 97; omega
      · show b (s + 2) = 108; omega
      · show b (s + 3) = 102; omega
    · have e : 32 * (32 * (32 * (32 * (32 * (0) + (b (s + 0) - 96)) + (b (s + 1) - 96)) + (b (s + 2) - 96)) + (b (s + 3) - 96)) + (b (s + 4) - 96) = 263558 := h
      have l0 := hl 0 (by decide); have l1 := hl 1 (by decide); have l2 := hl 2 (by decide); have l3 := hl 3 (by decide); have l4 := hl 4 (by decide)
      exfalso; omega
  · rintro ⟨h1, h2⟩
    rw [h1]
    have g0 : b (s + 0) = 104 := h2 0 (by decide)
    have g1 : b (s + 1) = 97 := h2 1 (by decide)
    have g2 : b (s + 2) = 108 := h2 2 (by decide)
    have g3 : b (s + 3) = 102 := h2 3 (by decide)
    show 32 * (32 * (32 * (32 * (0) + (b (s + 0) - 96)) + (b (s + 1) - 96)) + (b (s + 2) - 96)) + (b (s + 3) - 96) = 263558
    omega
theorem pz_code_14 {b : Nat → Nat} {s k : Nat} (hk : 1 ≤ k) (hk5 : k ≤ 5) (hl : ∀ i, i < k → 97 ≤ b (s + i) ∧ b (s + i) ≤ 122) : pz_hv b s k = 12748366 ↔ (k = (pz_sp 14).length ∧ ∀ i, i < (pz_sp 14).length → b (s + i) = (pz_sp 14).getD i 0) := by
  constructor
  · intro h
    rcases (show k = 1 ∨ k = 2 ∨ k = 3 ∨ k = 4 ∨ k = 5 by omega) with rfl | rfl | rfl | rfl | rfl
    · have e : 32 * (0) + (b (s + 0) - 96) = 12748366 := h
      have l0 := hl 0 (by decide)
      exfalso; omega
    · have e : 32 * (32 * (0) + (b (s + 0) - 96)) + (b (s + 1) - 96) = 12748366 := h
      have l0 := hl 0 (by decide); have l1 := hl 1 (by decide)
      exfalso; omega
    · have e : 32 * (32 * (32 * (0) + (b (s + 0) - 96)) + (b (s + 1) - 96)) + (b (s + 2) - 96) = 12748366 := h
      have l0 := hl 0 (by decide); have l1 := hl 1 (by decide); have l2 := hl 2 (by decide)
      exfalso; omega
    · have e : 32 * (32 * (32 * (32 * (0) + (b (s + 0) - 96)) + (b (s + 1) - 96)) + (b (s + 2) - 96)) + (b (s + 3) - 96) = 12748366 := h
      have l0 := hl 0 (by decide); have l1 := hl 1 (by decide); have l2 := hl 2 (by decide); have l3 := hl 3 (by decide)
      exfalso; omega
    · have e : 32 * (32 * (32 * (32 * (32 * (0) + (b (s + 0) - 96)) + (b (s + 1) - 96)) + (b (s + 2) - 96)) + (b (s + 3) - 96)) + (b (s + 4) - 96) = 12748366 := h
      have l0 := hl 0 (by decide); have l1 := hl 1 (by decide); have l2 := hl 2 (by decide); have l3 := hl 3 (by decide); have l4 := hl 4 (by decide)
      refine ⟨rfl, fun i hi => ?_⟩
      have hi2 : i < 5 := hi
      rcases (show i = 0 ∨ i = 1 ∨ i = 2 ∨ i = 3 ∨ i = 4 by omega) with rfl | rfl | rfl | rfl | rfl
      · show b (s + 0) = 108; omega
      · show b (s + 1) = 101; omega
      · show b (s + 2) = 97; omega
      · show b (s + 3) = 114; omega
      · show b (s + 4) = 110; omega
  · rintro ⟨h1, h2⟩
    rw [h1]
    have g0 : b (s + 0) = 108 := h2 0 (by decide)
    have g1 : b (s + 1) = 101 := h2 1 (by decide)
    have g2 : b (s + 2) = 97 := h2 2 (by decide)
    have g3 : b (s + 3) = 114 := h2 3 (by decide)
    have g4 : b (s + 4) = 110 := h2 4 (by decide)
    show 32 * (32 * (32 * (32 * (32 * (0) + (b (s + 0) - 96)) + (b (s + 1) - 96)) + (b (s + 2) - 96)) + (b (s + 3) - 96)) + (b (s + 4) - 96) = 12748366
    omega
theorem pz_code_15 {b : Nat → Nat} {s k : Nat} (hk : 1 ≤ k) (hk5 : k ≤ 5) (hl : ∀ i, i < k → 97 ≤ b (s + i) ∧ b (s + i) ≤ 122) : pz_hv b s k = 1643 ↔ (k = (pz_sp 15).length ∧ ∀ i, i < (pz_sp 15).length → b (s + i) = (pz_sp 15).getD i 0) := by
  constructor
  · intro h
    rcases (show k = 1 ∨ k = 2 ∨ k = 3 ∨ k = 4 ∨ k = 5 by omega) with rfl | rfl | rfl | rfl | rfl
    · have e : 32 * (0) + (b (s + 0) - 96) = 1643 := h
      have l0 := hl 0 (by decide)
      exfalso; omega
    · have e : 32 * (32 * (0) + (b (s + 0) - 96)) + (b (s + 1) - 96) = 1643 := h
      have l0 := hl 0 (by decide); have l1 := hl 1 (by decide)
      exfalso; omega
    · have e : 32 * (32 * (32 * (0) + (b (s + 0) - 96)) + (b (s + 1) - 96)) + (b (s + 2) - 96) = 1643 := h
      have l0 := hl 0 (by decide); have l1 := hl 1 (by decide); have l2 := hl 2 (by decide)
      refine ⟨rfl, fun i hi => ?_⟩
      have hi2 : i < 3 := hi
      rcases (show i = 0 ∨ i = 1 ∨ i = 2 by omega) with rfl | rfl | rfl
      · show b (s + 0) = 97; omega
      · show b (s + 1) = 115; omega
      · show b (s + 2) = 107; omega
    · have e : 32 * (32 * (32 * (32 * (0) + (b (s + 0) - 96)) + (b (s + 1) - 96)) + (b (s + 2) - 96)) + (b (s + 3) - 96) = 1643 := h
      have l0 := hl 0 (by decide); have l1 := hl 1 (by decide); have l2 := hl 2 (by decide); have l3 := hl 3 (by decide)
      exfalso; omega
    · have e : 32 * (32 * (32 * (32 * (32 * (0) + (b (s + 0) - 96)) + (b (s + 1) - 96)) + (b (s + 2) - 96)) + (b (s + 3) - 96)) + (b (s + 4) - 96) = 1643 := h
      have l0 := hl 0 (by decide); have l1 := hl 1 (by decide); have l2 := hl 2 (by decide); have l3 := hl 3 (by decide); have l4 := hl 4 (by decide)
      exfalso; omega
  · rintro ⟨h1, h2⟩
    rw [h1]
    have g0 : b (s + 0) = 97 := h2 0 (by decide)
    have g1 : b (s + 1) = 115 := h2 1 (by decide)
    have g2 : b (s + 2) = 107 := h2 2 (by decide)
    show 32 * (32 * (32 * (0) + (b (s + 0) - 96)) + (b (s + 1) - 96)) + (b (s + 2) - 96) = 1643
    omega
theorem pz_code_16 {b : Nat → Nat} {s k : Nat} (hk : 1 ≤ k) (hk5 : k ≤ 5) (hl : ∀ i, i < k → 97 ≤ b (s + i) ∧ b (s + i) ≤ 122) : pz_hv b s k = 278194 ↔ (k = (pz_sp 16).length ∧ ∀ i, i < (pz_sp 16).length → b (s + i) = (pz_sp 16).getD i 0) := by
  constructor
  · intro h
    rcases (show k = 1 ∨ k = 2 ∨ k = 3 ∨ k = 4 ∨ k = 5 by omega) with rfl | rfl | rfl | rfl | rfl
    · have e : 32 * (0) + (b (s + 0) - 96) = 278194 := h
      have l0 := hl 0 (by decide)
      exfalso; omega
    · have e : 32 * (32 * (0) + (b (s + 0) - 96)) + (b (s + 1) - 96) = 278194 := h
      have l0 := hl 0 (by decide); have l1 := hl 1 (by decide)
      exfalso; omega
    · have e : 32 * (32 * (32 * (0) + (b (s + 0) - 96)) + (b (s + 1) - 96)) + (b (s + 2) - 96) = 278194 := h
      have l0 := hl 0 (by decide); have l1 := hl 1 (by decide); have l2 := hl 2 (by decide)
      exfalso; omega
    · have e : 32 * (32 * (32 * (32 * (0) + (b (s + 0) - 96)) + (b (s + 1) - 96)) + (b (s + 2) - 96)) + (b (s + 3) - 96) = 278194 := h
      have l0 := hl 0 (by decide); have l1 := hl 1 (by decide); have l2 := hl 2 (by decide); have l3 := hl 3 (by decide)
      refine ⟨rfl, fun i hi => ?_⟩
      have hi2 : i < 4 := hi
      rcases (show i = 0 ∨ i = 1 ∨ i = 2 ∨ i = 3 by omega) with rfl | rfl | rfl | rfl
      · show b (s + 0) = 104; omega
      · show b (s + 1) = 111; omega
      · show b (s + 2) = 117; omega
      · show b (s + 3) = 114; omega
    · have e : 32 * (32 * (32 * (32 * (32 * (0) + (b (s + 0) - 96)) + (b (s + 1) - 96)) + (b (s + 2) - 96)) + (b (s + 3) - 96)) + (b (s + 4) - 96) = 278194 := h
      have l0 := hl 0 (by decide); have l1 := hl 1 (by decide); have l2 := hl 2 (by decide); have l3 := hl 3 (by decide); have l4 := hl 4 (by decide)
      exfalso; omega
  · rintro ⟨h1, h2⟩
    rw [h1]
    have g0 : b (s + 0) = 104 := h2 0 (by decide)
    have g1 : b (s + 1) = 111 := h2 1 (by decide)
    have g2 : b (s + 2) = 117 := h2 2 (by decide)
    have g3 : b (s + 3) = 114 := h2 3 (by decide)
    show 32 * (32 * (32 * (32 * (0) + (b (s + 0) - 96)) + (b (s + 1) - 96)) + (b (s + 2) - 96)) + (b (s + 3) - 96) = 278194
    omega
def pz_cd : Nat → Nat
  | 0 => 6327955
  | 1 => 611717
  | 2 => 15813
  | 3 => 12009203
  | 4 => 16052
  | 5 => 632046
  | 6 => 431284
  | 7 => 20293004
  | 8 => 284244
  | 9 => 17376357
  | 10 => 24395141
  | 11 => 12748404
  | 12 => 394885
  | 13 => 263558
  | 14 => 12748366
  | 15 => 1643
  | 16 => 278194
  | _ => 0
theorem pz_code {b : Nat → Nat} {s k w : Nat} (hw : w < 17) (hk : 1 ≤ k) (hk5 : k ≤ 5) (hl : ∀ i, i < k → 97 ≤ b (s + i) ∧ b (s + i) ≤ 122) : pz_hv b s k = pz_cd w ↔ pz_isw b s (s + k) w := by
  unfold pz_isw
  rw [Nat.add_sub_cancel_left]
  rcases (show w = 0 ∨ w = 1 ∨ w = 2 ∨ w = 3 ∨ w = 4 ∨ w = 5 ∨ w = 6 ∨ w = 7 ∨ w = 8 ∨ w = 9 ∨ w = 10 ∨ w = 11 ∨ w = 12 ∨ w = 13 ∨ w = 14 ∨ w = 15 ∨ w = 16 by omega) with rfl | rfl | rfl | rfl | rfl | rfl | rfl | rfl | rfl | rfl | rfl | rfl | rfl | rfl | rfl | rfl | rfl
  · exact pz_code_0 hk hk5 hl
  · exact pz_code_1 hk hk5 hl
  · exact pz_code_2 hk hk5 hl
  · exact pz_code_3 hk hk5 hl
  · exact pz_code_4 hk hk5 hl
  · exact pz_code_5 hk hk5 hl
  · exact pz_code_6 hk hk5 hl
  · exact pz_code_7 hk hk5 hl
  · exact pz_code_8 hk hk5 hl
  · exact pz_code_9 hk hk5 hl
  · exact pz_code_10 hk hk5 hl
  · exact pz_code_11 hk hk5 hl
  · exact pz_code_12 hk hk5 hl
  · exact pz_code_13 hk hk5 hl
  · exact pz_code_14 hk hk5 hl
  · exact pz_code_15 hk hk5 hl
  · exact pz_code_16 hk hk5 hl
theorem pz_wc_cd : ∀ w, w < 17 → pz_wc (pz_cd w) = w + 1 := by decide
theorem pz_wc_no {v : Nat} (h : ∀ w, w < 17 → v ≠ pz_cd w) : pz_wc v = 99 := by
  unfold pz_wc
  rw [if_neg (show ¬ v = 6327955 from h 0 (by decide)), if_neg (show ¬ v = 611717 from h 1 (by decide)), if_neg (show ¬ v = 15813 from h 2 (by decide)), if_neg (show ¬ v = 12009203 from h 3 (by decide)), if_neg (show ¬ v = 16052 from h 4 (by decide)), if_neg (show ¬ v = 632046 from h 5 (by decide)), if_neg (show ¬ v = 431284 from h 6 (by decide)), if_neg (show ¬ v = 20293004 from h 7 (by decide)), if_neg (show ¬ v = 284244 from h 8 (by decide)), if_neg (show ¬ v = 17376357 from h 9 (by decide)), if_neg (show ¬ v = 24395141 from h 10 (by decide)), if_neg (show ¬ v = 12748404 from h 11 (by decide)), if_neg (show ¬ v = 394885 from h 12 (by decide)), if_neg (show ¬ v = 263558 from h 13 (by decide)), if_neg (show ¬ v = 12748366 from h 14 (by decide)), if_neg (show ¬ v = 1643 from h 15 (by decide)), if_neg (show ¬ v = 278194 from h 16 (by decide))]
theorem pz_len5 : ∀ w, w < 17 → (pz_sp w).length ≤ 5 := by decide
/-- the reference's number of a word -/
def pz_wn (o : Option Nat) : Nat := match o with
  | some w => w + 1
  | none => 99
theorem pz_wn_99 {o : Option Nat} (h : ∀ w, o = some w → w < 17) : pz_wn o = 99 ↔ o = none := by
  cases o with
  | none => exact ⟨fun _ => rfl, fun _ => rfl⟩
  | some w => exact ⟨fun e => by have := h w rfl; have e2 : w + 1 = 99 := e; omega, fun e => by cases e⟩
theorem pz_wordOf {b : Nat → Nat} {s k : Nat} (hk : 1 ≤ k) (hk5 : k ≤ 5) (hl : ∀ i, i < k → 97 ≤ b (s + i) ∧ b (s + i) ≤ 122) : pz_wc (pz_hv b s k) = pz_wn (pz_wd b s (s + k)) := by
  cases h : pz_wd b s (s + k) with
  | some w =>
    obtain ⟨h1, h2⟩ := pz_wd_sp h
    rw [(pz_code h1 hk hk5 hl).mpr h2]
    exact pz_wc_cd w h1
  | none =>
    refine pz_wc_no (fun w hw e => ?_)
    have := pz_wd_some hw ((pz_code hw hk hk5 hl).mp e)
    rw [h] at this; cases this
theorem pz_wd_long {b : Nat → Nat} {s e : Nat} (h : 5 < e - s) : pz_wd b s e = none := by
  cases hh : pz_wd b s e with
  | none => rfl
  | some w =>
    obtain ⟨h1, h2⟩ := pz_wd_sp hh
    have := pz_len5 w h1
    have := h2.1
    omega
