/-! the law: its loop, and the claim -/
theorem law_loop {l : Launch} {L : Nat} {xs : Nat → Int32} (hl : l.stackTraces = false) (hL : L ≤ 3072) : ∀ (n j : Nat) (h : Hp) (S : Sx) (a5 a6 : Option Value) (u w : Nat), 6 * j ≤ L → L < 6 * j + 6 * n → SS h S → u ≤ 104 + j → w ≤ 24600 + 6 * j → Go l room_1 mL_law 0 (Zl L xs Zlw) 23 (lvL j a5 a6) [] h u w := by
  intro n
  induction n with
  | zero => intro j h S a5 a6 u w h1 h2; omega
  | succ n ih =>
    intro j h S a5 a6 u w h1 h2 X hu hw
    refine go_iload dL_law_23 rfl ?_
    refine go_aloadn dL_law_25 rfl ?_
    refine go_slen dL_law_26 ?_
    refine go_bipush (v := 6) dL_law_27 rfl ?_
    refine go_isub dL_law_29 ?_
    refine go_icmp_gt (tgt := 2473) dL_law_30 (by decide) (fun _ => go_iconst (v := 1) dL_law_2473 rfl (law_ret (by omega) (by omega))) (fun c0 => ?_)
    have hj : 6 * j + 6 ≤ L := not_gt6 hL h1 c0
    have nx : Nx l L xs j u w := by
      intro h S a b u1 w1 X q1 q2
      refine go_iinc4 (c1 := 6) dL_law_2467 rfl rfl ?_
      refine go_goto (tgt := 23) dL_law_2470 (by decide) ?_
      rw [show nI (6 * j) + 6 = nI (6 * (j + 1)) from nI_add (6 * j) 6]
      exact ih (j + 1) h S a b u1 w1 (by omega) (by omega) X (by omega) (by omega)
    have hu1 : u + 1 ≤ 1135 := by omega
    have hw1 : w + 6 ≤ 32708 := by omega
    refine go_aloadn dL_law_33 rfl ?_
    refine go_iload dL_law_34 rfl ?_
    refine go_sld dL_law_36 (nI_in (by omega) (by omega)) ?_
    refine go_bipush (v := 63) dL_law_37 rfl ?_
    refine go_iand dL_law_39 ?_
    refine go_tab 38 0 2467 [208, 281, 337, 350, 406, 474, 542, 567, 635, 691, 771, 839, 852, 932, 1012, 1080, 1148, 1228, 1296, 1364, 1420, 1476, 1532, 1628, 1639, 1695, 1751, 1831, 1911, 1991, 2059, 2115, 2183, 2251, 2319, 2387, 2443, 2454] dL_law_40 rfl rfl rfl rfl rfl (by decide) (fun _ => nx h S _ _ u w X (Nat.le_succ _) (Nat.le_add_right _ _)) (fun i hi _ => ?_)
    match i, hi with
    | 0, _ => exact lc_feed hl hj hL X hu1 hw1 nx
    | 1, _ => exact lc_city hl hj hL X hu1 hw1 nx
    | 2, _ => exact lc_fault hl hj hL X hu1 hw1 nx
    | 3, _ => exact lc_count hl hj hL X hu1 hw1 nx
    | 4, _ => exact lc_person hl hj hL X hu1 hw1 nx
    | 5, _ => exact lc_thing hl hj hL X hu1 hw1 nx
    | 6, _ => exact lc_days hl hj hL X hu1 hw1 nx
    | 7, _ => exact lc_steal hl hj hL X hu1 hw1 nx
    | 8, _ => exact lc_back hl hj hL X hu1 hw1 nx
    | 9, _ => exact lc_walk hl hj hL X hu1 hw1 nx
    | 10, _ => exact lc_dye hl hj hL X hu1 hw1 nx
    | 11, _ => exact lc_undo hl hj hL X hu1 hw1 nx
    | 12, _ => exact lc_then hl hj hL X hu1 hw1 nx
    | 13, _ => exact lc_later hl hj hL X hu1 hw1 nx
    | 14, _ => exact lc_when hl hj hL X hu1 hw1 nx
    | 15, _ => exact lc_all hl hj hL X hu1 hw1 nx
    | 16, _ => exact lc_where hl hj hL X hu1 hw1 nx
    | 17, _ => exact lc_toStand hl hj hL X hu1 hw1 nx
    | 18, _ => exact lc_toSteal hl hj hL X hu1 hw1 nx
    | 19, _ => exact lc_watch hl hj hL X hu1 hw1 nx
    | 20, _ => exact lc_least hl hj hL X hu1 hw1 nx
    | 21, _ => exact lc_whose hl hj hL X hu1 hw1 nx
    | 22, _ => exact lc_note hl hj hL X hu1 hw1 nx
    | 23, _ => exact lc_forget hl hj hL X hu1 hw1 nx
    | 24, _ => exact lc_vain hl hj hL X hu1 hw1 nx
    | 25, _ => exact lc_ask hl hj hL X hu1 hw1 nx
    | 26, _ => exact lc_fog hl hj hL X hu1 hw1 nx
    | 27, _ => exact lc_game hl hj hL X hu1 hw1 nx
    | 28, _ => exact lc_years hl hj hL X hu1 hw1 nx
    | 29, _ => exact lc_meet hl hj hL X hu1 hw1 nx
    | 30, _ => exact lc_faced hl hj hL X hu1 hw1 nx
    | 31, _ => exact lc_walks hl hj hL X hu1 hw1 nx
    | 32, _ => exact lc_shamed hl hj hL X hu1 hw1 nx
    | 33, _ => exact lc_has hl hj hL X hu1 hw1 nx
    | 34, _ => exact lc_takes hl hj hL X hu1 hw1 nx
    | 35, _ => exact lc_quiet hl hj hL X hu1 hw1 nx
    | 36, _ => exact lc_image hl hj hL X hu1 hw1 nx
    | 37, _ => exact lc_restore hl hj hL X hu1 hw1 nx
    | (k + 38), hk => exact absurd hk (by omega)
theorem law_go {l : Launch} {L : Nat} {xs : Nat → Int32} (hl : l.stackTraces = false) (hL : L ≤ 3072) : Go l room_1 mL_law 0 (Zl L xs Zlw) 0 [some (.ref 1300), none, none, none, none, none, none] [] h00 0 0 := by
  refine law_open ?_
  refine go_ist4 dL_law_21 rfl ?_
  exact law_loop hl hL 600 0 hp0 S00 none none _ _ (by omega) (by omega) ⟨hp0_K, hp0_M, ws_00⟩ (Nat.le_refl _) (Nat.le_of_ble_eq_true rfl)
