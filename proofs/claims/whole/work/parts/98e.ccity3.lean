/-! the class's city: the walk -/
theorem KB.cy {h g : Hp} {c fs fr : Nat} {x : Int32} {C : Cy} {T : Tn} (W : WC C) (K : KB h c fs fr x C T) (hS : St g) (r5 : hR g 0 5 = hR h 0 5) (r0 : hR g 30 0 = hR h 30 0) (e : ∀ a k, (c ≤ a ∧ a ≤ c + 11) ∨ (30 ≤ a ∧ a ≤ 37) → hI g a k = hI h a k) : KB g c fs fr x C T := by
  obtain ⟨k1, ⟨⟨⟨t1, t2, t3, t4, t5, t6, t7, t8⟩, ⟨t9, t10⟩, ⟨⟨u1, u2, u3⟩, u4, u5, u6⟩, u7, u8, u9⟩, ⟨⟨v1, v2⟩, v3, v4, v5, v6⟩, w1, w2, w3, w4⟩, k3⟩ := K
  refine ⟨r5.trans k1, ⟨⟨⟨hS, t2, t3, r0.trans t4, ?_, t6, ?_, t8⟩, ⟨fun p hp => ?_, fun i hi => ?_⟩, ⟨⟨?_, ?_, u3⟩, ?_, ?_, u6⟩, fun t ht => ?_, ?_, u9⟩, ⟨⟨?_, ?_⟩, fun p hp => ?_, fun t ht => ?_, fun j hj => ?_, fun j hj => ?_⟩, fun t ht => ?_, fun p hp => ?_, fun i hi => ?_, ?_⟩, fun p hp => ?_⟩
  · rw [e _ _ (by omega)]; exact t5
  · rw [e _ _ (by omega)]; exact t7
  · rw [e _ _ (by omega)]; exact t9 p hp
  · rw [e _ _ (by omega)]; exact t10 i hi
  · rw [e _ _ (by omega)]; exact u1
  · rw [e _ _ (by omega)]; exact u2
  · rw [e _ _ (by omega)]; exact u4
  · rw [e _ _ (by omega)]; exact u5
  · rw [e _ _ (by omega)]; exact u7 t ht
  · rw [e _ _ (by omega)]; exact u8
  · rw [e _ _ (by omega)]; exact v1
  · rw [e _ _ (by omega)]; exact v2
  · rw [e _ _ (by omega), e _ _ (by omega)]; exact v3 p hp
  · rw [e _ _ (by omega)]; exact v4 t ht
  · rw [e _ _ (by omega)]; exact v5 j hj
  · rw [e _ _ (by omega)]; exact v6 j hj
  · rw [e _ _ (by omega), e _ _ (by omega), e _ _ (by omega), e _ _ (by omega)]; exact w1 t ht
  · rw [e _ _ (by omega), e _ _ (by omega)]; exact w2 p hp
  · rw [e _ _ (by omega)]; exact w3 i hi
  · rw [e _ _ (by omega)]; exact w4
  · rw [e _ _ (by omega)]; exact k3 p hp
theorem r_ct45 {l : Launch} {d n c : Nat} {x : Int32} {b : Nat → Nat} {h : Hp} {Z : ZT} {n0 : Nat} (hc : CityAt c) : ∀ (k : Nat) (Y : Ry) (g : Hp) (i : Nat), n + 1 - yS Y ≤ k → (yF Y).1 = 0 → YI n Y → i ≤ yS Y → RC g b n (yS Y) → KY g c Y → Fcy c h g → St g → (∀ g2 v2 v3, CE h g2 c (yFin b n Y) → Go l (rmOf (d + 11) (1, 6)) mX9_city n0 Z 80 [some (.ref 0), some (.int x), some (.int v2), some (.int v3)] [] g2 0 0) → Go l (rmOf (d + 11) (1, 6)) mX9_city n0 Z 45 [some (.ref 0), some (.int x), some (.int 1), some (.int (nI i))] [] g 0 0 := by
  have hc' := at_c hc
  intro k
  induction k with
  | zero => intro Y g i hk _ I; have := I.1.1.1; omega
  | succ k ih =>
    intro Y g i hk f0 I hi R K F hS kk
    have sn := I.1.1.1
    have n7 := I.1.1.2.1
    have hm := fun d => r_hasMore (l := l) (d := d) hS R
    by_cases z : tkK b n (yS Y) = 0
    · rw [if_pos z] at hm
      rw [yfin_t (fun q => q.2 z)] at kk
      refine go_iloadn dX9_city_45 rfl ?_
      refine go_sipush (v := 700) dX9_city_46 rfl ?_
      refine go_icmp_gt (tgt := 80) dX9_city_49 (by decide) (fun c49 => absurd c49 (nI_nlt (a := 700) (by omega) (by decide))) (fun c49 => ?_)
      refine go_iloadn dX9_city_52 rfl ?_
      refine go_if_eq (tgt := 80) dX9_city_53 (by decide) (fun c53 => absurd c53 (by decide)) (fun c53 => ?_)
      refine go_aloadn dX9_city_56 rfl ?_
      refine sg_getR dX9_city_57 fX9_24 rfl (wo_L rfl) hS (wo_r4 hS rfl) ?_
      refine sg_cVi (M' := mX3_hasMore) ([]) dX9_city_60 lX9_106 vX3_hasMore (rd_L (rfl)) (by decide) rfl hS (hm _) rfl (Nat.le_of_ble_eq_true rfl) (Nat.zero_le _) (Nat.zero_le _) ?_
      refine go_if_eq (tgt := 80) dX9_city_63 (by decide) (fun c63 => ?_) (fun c63 => absurd rfl c63)
      exact kk g _ _ ⟨F, hS, fun _ => K, fun q => absurd f0 q⟩
    · rw [if_neg z] at hm
      have sn2 := tk3 (b := b) (n := n) (s := yS Y) z
      have ln := fun d => r_line (l := l) (d := d) hS R K f0 I.1
      rw [← yfin_l f0 z] at kk
      by_cases y : (yF (yLine b n Y)).1 = 0
      · rw [if_pos y] at ln
        obtain ⟨I2, lt⟩ := yi_line I y
        refine go_iloadn dX9_city_45 rfl ?_
        refine go_sipush (v := 700) dX9_city_46 rfl ?_
        refine go_icmp_gt (tgt := 80) dX9_city_49 (by decide) (fun c49 => absurd c49 (nI_nlt (a := 700) (by omega) (by decide))) (fun c49 => ?_)
        refine go_iloadn dX9_city_52 rfl ?_
        refine go_if_eq (tgt := 80) dX9_city_53 (by decide) (fun c53 => absurd c53 (by decide)) (fun c53 => ?_)
        refine go_aloadn dX9_city_56 rfl ?_
        refine sg_getR dX9_city_57 fX9_24 rfl (wo_L rfl) hS (wo_r4 hS rfl) ?_
        refine sg_cVi (M' := mX3_hasMore) ([]) dX9_city_60 lX9_106 vX3_hasMore (rd_L (rfl)) (by decide) rfl hS (hm _) rfl (Nat.le_of_ble_eq_true rfl) (Nat.zero_le _) (Nat.zero_le _) ?_
        refine go_if_eq (tgt := 80) dX9_city_63 (by decide) (fun c63 => absurd c63 (by decide)) (fun c63 => ?_)
        refine go_aloadn dX9_city_66 rfl ?_
        refine sg_getR dX9_city_67 fX9_24 rfl (wo_L rfl) hS (wo_r4 hS rfl) ?_
        refine sg_rVi (M' := mX3_line) ([]) dX9_city_70 lX9_110 vX3_line (rd_L (rfl)) (by decide) rfl hS (ln _) rfl (Nat.le_of_ble_eq_true rfl) (Nat.zero_le _) (Nat.zero_le _) (fun g2 G => ?_)
        refine go_ist2 dX9_city_73 rfl ?_
        refine go_iinc3 (c1 := 1) dX9_city_74 rfl rfl ?_
        rw [nI_1]
        refine go_goto (tgt := 45) dX9_city_77 (by decide) ?_
        exact ih (yLine b n Y) g2 (i + 1) (by omega) y I2 (by omega) (G.2.1 y).1 (G.2.1 y).2 (F.fz G.1) (G.1.St hS) kk
      · rw [if_neg y] at ln
        rw [yfin_t (fun q => y q.1)] at kk
        refine go_iloadn dX9_city_45 rfl ?_
        refine go_sipush (v := 700) dX9_city_46 rfl ?_
        refine go_icmp_gt (tgt := 80) dX9_city_49 (by decide) (fun c49 => absurd c49 (nI_nlt (a := 700) (by omega) (by decide))) (fun c49 => ?_)
        refine go_iloadn dX9_city_52 rfl ?_
        refine go_if_eq (tgt := 80) dX9_city_53 (by decide) (fun c53 => absurd c53 (by decide)) (fun c53 => ?_)
        refine go_aloadn dX9_city_56 rfl ?_
        refine sg_getR dX9_city_57 fX9_24 rfl (wo_L rfl) hS (wo_r4 hS rfl) ?_
        refine sg_cVi (M' := mX3_hasMore) ([]) dX9_city_60 lX9_106 vX3_hasMore (rd_L (rfl)) (by decide) rfl hS (hm _) rfl (Nat.le_of_ble_eq_true rfl) (Nat.zero_le _) (Nat.zero_le _) ?_
        refine go_if_eq (tgt := 80) dX9_city_63 (by decide) (fun c63 => absurd c63 (by decide)) (fun c63 => ?_)
        refine go_aloadn dX9_city_66 rfl ?_
        refine sg_getR dX9_city_67 fX9_24 rfl (wo_L rfl) hS (wo_r4 hS rfl) ?_
        refine sg_rVi (M' := mX3_line) ([]) dX9_city_70 lX9_110 vX3_line (rd_L (rfl)) (by decide) rfl hS (ln _) rfl (Nat.le_of_ble_eq_true rfl) (Nat.zero_le _) (Nat.zero_le _) (fun g2 G => ?_)
        refine go_ist2 dX9_city_73 rfl ?_
        refine go_iinc3 (c1 := 1) dX9_city_74 rfl rfl ?_
        rw [nI_1]
        refine go_goto (tgt := 45) dX9_city_77 (by decide) ?_
        skip
        have hS := G.1.St hS
        have k2 := kk g2 0 (nI (i + 1)) ⟨F.fz G.1, hS, fun q => absurd q y, G.2.2⟩
        refine go_iloadn dX9_city_45 rfl ?_
        refine go_sipush (v := 700) dX9_city_46 rfl ?_
        refine go_icmp_gt (tgt := 80) dX9_city_49 (by decide) (fun c49 => k2) (fun c49 => ?_)
        refine go_iloadn dX9_city_52 rfl ?_
        refine go_if_eq (tgt := 80) dX9_city_53 (by decide) (fun c53 => ?_) (fun c53 => absurd rfl c53)
        exact k2
