/-! the class's next token -/
def SN4 (a k : Nat) : Prop := a = 3 ∧ 2 ≤ k ∧ k ≤ 6
theorem by_255 : ∀ c : Fin 256, ((byI c.val &&& 255).toUInt32 % 65536).toInt32 = nI c.val := by decide +kernel
theorem r_skips {l : Launch} {d n e : Nat} {b : Nat → Nat} {h : Hp} {Z : ZT} {n0 : Nat} (hS : St h) (H : TX h b n) (he : hI h 3 4 = nI e) (hi : e ≤ n) (kk : ∀ g, Fz SN4 h g → hI g 3 3 = nI (tkW b n e) → Go l (rmOf (d + 5) (0, 0)) mX3_next n0 Z 60 [some (.ref 3)] [] g 0 0) : Go l (rmOf (d + 5) (0, 0)) mX3_next n0 Z 0 [some (.ref 3)] [] h 0 0 := by
  have n7 := H.2.2.1
  unfold tkW at kk
  obtain ⟨s1, s2, s3, s4⟩ := spn_ok (p := fun j => isW (b j)) (n := n) (i := e)
  have s4 := s4 hi
  generalize spn (fun j => isW (b j)) n e = s at *
  refine go_aloadn dX3_next_0 rfl ?_
  refine go_aloadn dX3_next_1 rfl ?_
  refine sg_getI dX3_next_2 fX3_38 rfl (rd_L rfl) hS ?_
  rw [he]
  refine sg_putI dX3_next_5 fX3_60 rfl rfl (rd_L rfl) hS ?_
  skip
  refine go_cong (go_loopR (lvf := fun _ => [some (.ref 3)]) (s - e) (fun k g => Fz SN4 h g ∧ hI g 3 3 = nI (e + k)) (fun k g hk hh ih => ?_) (fun g hh => ?_) 0 (uI h 3 3 (nI e)) (Nat.zero_le _) ⟨Fz.rf.uI (by unfold SN4; omega), hI_uI_eq⟩) rfl rfl
  · obtain ⟨F, e3⟩ := hh
    have hS := F.St hS
    have H2 := H.fz F (by unfold SN4; exact ⟨by omega, fun k => by omega⟩)
    obtain ⟨k1, k2⟩ := s1 (e + k) (by omega) (by omega)
    obtain ⟨t1, t2⟩ := H2.2.2.2 _ k1
    have k2 := k2
    rw [by_W ⟨_, t2⟩, Bool.or_eq_true, decide_eq_true_eq, decide_eq_true_eq] at k2
    have fin : Go l (rmOf (d + 5) (0, 0)) mX3_next n0 Z 47 [some (.ref 3)] [] g 0 0 := by
      refine go_aloadn dX3_next_47 rfl ?_
      refine go_dup dX3_next_48 rfl ?_
      refine sg_getI dX3_next_49 fX3_60 rfl (rd_L rfl) hS ?_
      refine go_iconst (v := 1) dX3_next_52 rfl ?_
      refine go_iadd dX3_next_53 ?_
      rw [e3, nI_1]
      refine sg_putI dX3_next_54 fX3_60 rfl rfl (rd_L rfl) hS ?_
      refine go_goto (tgt := 8) dX3_next_57 (by decide) ?_
      exact go_cong (ih _ ⟨F.uI (by unfold SN4; omega), hI_uI_eq⟩) rfl rfl
    refine go_aloadn dX3_next_8 rfl ?_
    refine sg_getI dX3_next_9 fX3_60 rfl (rd_L rfl) hS ?_
    rw [e3]
    refine go_aloadn dX3_next_12 rfl ?_
    refine sg_getI dX3_next_13 fX3_25 rfl (rd_L rfl) hS ?_
    rw [H2.2.1]
    refine go_icmp_ge (tgt := 60) dX3_next_16 (by decide) (fun c16 => absurd c16 (nI_ge k1 (by omega))) (fun c16 => ?_)
    refine go_aloadn dX3_next_19 rfl ?_
    refine sg_getR dX3_next_20 fX3_9 rfl (rd_L rfl) hS H2.1 ?_
    refine go_aloadn dX3_next_23 rfl ?_
    refine sg_getI dX3_next_24 fX3_60 rfl (rd_L rfl) hS ?_
    rw [e3]
    refine sg_baldN (i := e + k) (x := byI (b (e + k))) dX3_next_27 rfl hS (by simp only [lit_nI, nI_add, pk_mul, Nat.add_assoc, Nat.zero_add, Nat.add_zero]) (by omega) (t1) ?_
    refine go_bipush (v := 32) dX3_next_28 rfl ?_
    refine go_icmp_eq (tgt := 47) dX3_next_30 (by decide) (fun c30 => ?_) (fun c30 => ?_)
    · exact fin
    · refine go_aloadn dX3_next_33 rfl ?_
      refine sg_getR dX3_next_34 fX3_9 rfl (rd_L rfl) hS H2.1 ?_
      refine go_aloadn dX3_next_37 rfl ?_
      refine sg_getI dX3_next_38 fX3_60 rfl (rd_L rfl) hS ?_
      rw [e3]
      refine sg_baldN (i := e + k) (x := byI (b (e + k))) dX3_next_41 rfl hS (by simp only [lit_nI, nI_add, pk_mul, Nat.add_assoc, Nat.zero_add, Nat.add_zero]) (by omega) (t1) ?_
      refine go_bipush (v := 10) dX3_next_42 rfl ?_
      refine go_icmp_ne (tgt := 60) dX3_next_44 (by decide) (fun c44 => absurd (k2.elim (fun q => absurd q c30) id) c44) (fun c44 => ?_)
      exact fin
  · obtain ⟨F, e3⟩ := hh
    have hS := F.St hS
    have H2 := H.fz F (by unfold SN4; exact ⟨by omega, fun k => by omega⟩)
    rw [show e + (s - e) = s by omega] at e3
    have fin := kk g F e3
    by_cases q : s < n
    · obtain ⟨t1, t2⟩ := H2.2.2.2 _ q
      have k2 : ¬ isW (b s) = true := fun z => s2 ⟨q, z⟩
      rw [by_W ⟨_, t2⟩, Bool.or_eq_true, decide_eq_true_eq, decide_eq_true_eq] at k2
      refine go_aloadn dX3_next_8 rfl ?_
      refine sg_getI dX3_next_9 fX3_60 rfl (rd_L rfl) hS ?_
      rw [e3]
      refine go_aloadn dX3_next_12 rfl ?_
      refine sg_getI dX3_next_13 fX3_25 rfl (rd_L rfl) hS ?_
      rw [H2.2.1]
      refine go_icmp_ge (tgt := 60) dX3_next_16 (by decide) (fun c16 => absurd c16 (nI_ge q (by omega))) (fun c16 => ?_)
      refine go_aloadn dX3_next_19 rfl ?_
      refine sg_getR dX3_next_20 fX3_9 rfl (rd_L rfl) hS H2.1 ?_
      refine go_aloadn dX3_next_23 rfl ?_
      refine sg_getI dX3_next_24 fX3_60 rfl (rd_L rfl) hS ?_
      rw [e3]
      refine sg_baldN (i := s) (x := byI (b s)) dX3_next_27 rfl hS (by simp only [lit_nI, nI_add, pk_mul, Nat.add_assoc, Nat.zero_add, Nat.add_zero]) (by omega) (t1) ?_
      refine go_bipush (v := 32) dX3_next_28 rfl ?_
      refine go_icmp_eq (tgt := 47) dX3_next_30 (by decide) (fun c30 => absurd (Or.inl c30) k2) (fun c30 => ?_)
      refine go_aloadn dX3_next_33 rfl ?_
      refine sg_getR dX3_next_34 fX3_9 rfl (rd_L rfl) hS H2.1 ?_
      refine go_aloadn dX3_next_37 rfl ?_
      refine sg_getI dX3_next_38 fX3_60 rfl (rd_L rfl) hS ?_
      rw [e3]
      refine sg_baldN (i := s) (x := byI (b s)) dX3_next_41 rfl hS (by simp only [lit_nI, nI_add, pk_mul, Nat.add_assoc, Nat.zero_add, Nat.add_zero]) (by omega) (t1) ?_
      refine go_bipush (v := 10) dX3_next_42 rfl ?_
      refine go_icmp_ne (tgt := 60) dX3_next_44 (by decide) (fun c44 => ?_) (fun c44 => absurd (Or.inr c44) k2)
      exact fin
    · refine go_aloadn dX3_next_8 rfl ?_
      refine sg_getI dX3_next_9 fX3_60 rfl (rd_L rfl) hS ?_
      rw [e3]
      refine go_aloadn dX3_next_12 rfl ?_
      refine sg_getI dX3_next_13 fX3_25 rfl (rd_L rfl) hS ?_
      rw [H2.2.1]
      refine go_icmp_ge (tgt := 60) dX3_next_16 (by decide) (fun c16 => ?_) (fun c16 => absurd (nI_le (by omega) (by omega)) c16)
      exact fin
theorem r_next {l : Launch} {d n e : Nat} {b : Nat → Nat} {h : Hp} (hS : St h) (H : TX h b n) (he : hI h 3 4 = nI e) (hi : e ≤ n) : Ey l (d + 5) mX3_next [.ref 3] h none (fun g => Fz SN4 h g ∧ RC g b n (tkW b n e)) := by
  have n7 := H.2.2.1
  have sn : tkW b n e ≤ n := (spn_ok (p := fun j => isW (b j)) (n := n) (i := e)).2.2.2 hi
  refine run_lv [some (.ref 3)] (go := ?_)
  refine r_skips hS H he hi (fun g F e3 => ?_)
  generalize tkW b n e = s at *
  have F1 : Fz SN4 h (uI g 3 4 (nI s)) := F.uI (by unfold SN4; omega)
  have e31 : hI (uI g 3 4 (nI s)) 3 3 = nI s := by rw [hI_uI_ne (by omega)]; exact e3
  have e41 : hI (uI g 3 4 (nI s)) 3 4 = nI s := hI_uI_eq
  have hS0 := hS
  have H0 := H
  have hS := F.St hS0
  have H2 := H.fz F (by unfold SN4; exact ⟨by omega, fun k => by omega⟩)
  refine go_aloadn dX3_next_60 rfl ?_
  refine go_aloadn dX3_next_61 rfl ?_
  refine sg_getI dX3_next_62 fX3_60 rfl (rd_L rfl) hS ?_
  rw [e3]
  refine sg_putI dX3_next_65 fX3_38 rfl rfl (rd_L rfl) hS ?_
  skip
  generalize uI g 3 4 (nI s) = g1 at *
  have hS := F1.St hS0
  have H2 := H0.fz F1 (by unfold SN4; exact ⟨by omega, fun k => by omega⟩)
  by_cases q : s < n
  · obtain ⟨t1, t2⟩ := H2.2.2.2 _ q
    have bl := by_L ⟨_, t2⟩
    have bd := by_D ⟨_, t2⟩
    dsimp only at bl bd
    by_cases zl : isL (b s) = true
    · have k1 : tkK b n s = 1 := by unfold tkK; rw [if_neg (by omega), if_pos zl]
      have ke : tkE b n s = spn (fun j => isL (b j)) n s := by unfold tkE; rw [if_neg (by omega), if_pos zl]
      have zl := zl
      rw [bl, Bool.and_eq_true, decide_eq_true_eq, decide_eq_true_eq] at zl
      refine go_aloadn dX3_next_68 rfl ?_
      refine sg_getI dX3_next_69 fX3_60 rfl (rd_L rfl) hS ?_
      rw [e31]
      refine go_aloadn dX3_next_72 rfl ?_
      refine sg_getI dX3_next_73 fX3_25 rfl (rd_L rfl) hS ?_
      rw [H2.2.1]
      refine go_icmp_lt (tgt := 87) dX3_next_76 (by decide) (fun c76 => ?_) (fun c76 => absurd (nI_lt q (by omega)) c76)
      refine go_aloadn dX3_next_87 rfl ?_
      refine sg_getR dX3_next_88 fX3_9 rfl (rd_L rfl) hS H2.1 ?_
      refine go_aloadn dX3_next_91 rfl ?_
      refine sg_getI dX3_next_92 fX3_60 rfl (rd_L rfl) hS ?_
      rw [e31]
      refine sg_baldN (i := s) (x := byI (b s)) dX3_next_95 rfl hS (by simp only [lit_nI, nI_add, pk_mul, Nat.add_assoc, Nat.zero_add, Nat.add_zero]) (by omega) (t1) ?_
      refine go_bipush (v := 97) dX3_next_96 rfl ?_
      refine go_icmp_lt (tgt := 122) dX3_next_98 (by decide) (fun c98 => absurd c98 (Int32.not_lt.mpr zl.1)) (fun c98 => ?_)
      refine go_aloadn dX3_next_101 rfl ?_
      refine sg_getR dX3_next_102 fX3_9 rfl (rd_L rfl) hS H2.1 ?_
      refine go_aloadn dX3_next_105 rfl ?_
      refine sg_getI dX3_next_106 fX3_60 rfl (rd_L rfl) hS ?_
      rw [e31]
      refine sg_baldN (i := s) (x := byI (b s)) dX3_next_109 rfl hS (by simp only [lit_nI, nI_add, pk_mul, Nat.add_assoc, Nat.zero_add, Nat.add_zero]) (by omega) (t1) ?_
      refine go_bipush (v := 122) dX3_next_110 rfl ?_
      refine go_icmp_gt (tgt := 122) dX3_next_112 (by decide) (fun c112 => absurd c112 (Int32.not_lt.mpr zl.2)) (fun c112 => ?_)
      refine go_aloadn dX3_next_115 rfl ?_
      refine sg_rV0 (M' := mX3_nextWord) ([]) dX3_next_116 lX3_63 vX3_nextWord (rd_L rfl) (by decide) rfl hS (r_nextWord hS H2 e41 sn) rfl (Nat.le_of_ble_eq_true rfl) (Nat.zero_le _) (Nat.zero_le _) (fun g2 G => ?_)
      refine go_goto (tgt := 198) dX3_next_119 (by decide) ?_
      refine go_return dX3_next_198 rfl (Nat.zero_le _) (Nat.zero_le _) ?_
      exact ⟨rfl, (F1.tr (G.1.sub (fun a k q => by unfold SN4; omega))), H2.fz G.1 ⟨by omega, fun k => by omega⟩, by rw [k1]; exact G.2.1, by rw [G.1.I (by omega)]; exact e31, by rw [ke]; exact G.2.2, sn, fun z => absurd (k1.symm.trans z) (by decide)⟩
    · by_cases zd : isD (b s) = true
      · have k1 : tkK b n s = 2 := by unfold tkK; rw [if_neg (by omega), if_neg zl, if_pos zd]
        have ke : tkE b n s = spn (fun j => isD (b j)) n s := by unfold tkE; rw [if_neg (by omega), if_neg zl, if_pos zd]
        rw [bl, Bool.and_eq_true, decide_eq_true_eq, decide_eq_true_eq] at zl
        have zd := zd
        rw [bd, Bool.and_eq_true, decide_eq_true_eq, decide_eq_true_eq] at zd
        have fin : Go l (rmOf (d + 5) (0, 0)) mX3_next (hN h) (Zm (0, 0) (fun v h1 => v = none ∧ Fz SN4 h h1 ∧ RC h1 b n s) noX) 122 [some (.ref 3)] [] g1 0 0 := by
          refine go_aloadn dX3_next_122 rfl ?_
          refine sg_getR dX3_next_123 fX3_9 rfl (rd_L rfl) hS H2.1 ?_
          refine go_aloadn dX3_next_126 rfl ?_
          refine sg_getI dX3_next_127 fX3_60 rfl (rd_L rfl) hS ?_
          rw [e31]
          refine sg_baldN (i := s) (x := byI (b s)) dX3_next_130 rfl hS (by simp only [lit_nI, nI_add, pk_mul, Nat.add_assoc, Nat.zero_add, Nat.add_zero]) (by omega) (t1) ?_
          refine go_bipush (v := 48) dX3_next_131 rfl ?_
          refine go_icmp_lt (tgt := 157) dX3_next_133 (by decide) (fun c133 => absurd c133 (Int32.not_lt.mpr zd.1)) (fun c133 => ?_)
          refine go_aloadn dX3_next_136 rfl ?_
          refine sg_getR dX3_next_137 fX3_9 rfl (rd_L rfl) hS H2.1 ?_
          refine go_aloadn dX3_next_140 rfl ?_
          refine sg_getI dX3_next_141 fX3_60 rfl (rd_L rfl) hS ?_
          rw [e31]
          refine sg_baldN (i := s) (x := byI (b s)) dX3_next_144 rfl hS (by simp only [lit_nI, nI_add, pk_mul, Nat.add_assoc, Nat.zero_add, Nat.add_zero]) (by omega) (t1) ?_
          refine go_bipush (v := 57) dX3_next_145 rfl ?_
          refine go_icmp_gt (tgt := 157) dX3_next_147 (by decide) (fun c147 => absurd c147 (Int32.not_lt.mpr zd.2)) (fun c147 => ?_)
          refine go_aloadn dX3_next_150 rfl ?_
          refine sg_rV0 (M' := mX3_nextNumber) ([]) dX3_next_151 lX3_66 vX3_nextNumber (rd_L rfl) (by decide) rfl hS (r_nextNumber hS H2 e41 sn) rfl (Nat.le_of_ble_eq_true rfl) (Nat.zero_le _) (Nat.zero_le _) (fun g2 G => ?_)
          refine go_goto (tgt := 198) dX3_next_154 (by decide) ?_
          refine go_return dX3_next_198 rfl (Nat.zero_le _) (Nat.zero_le _) ?_
          exact ⟨rfl, (F1.tr (G.1.sub (fun a k q => by unfold SN3 at q; unfold SN4; omega))), H2.fz G.1 ⟨by unfold SN3; omega, fun k => by unfold SN3; omega⟩, by rw [k1]; exact G.2.1, by rw [G.1.I (by unfold SN3; omega)]; exact e31, by rw [ke]; exact G.2.2.1, sn, fun _ => ⟨by unfold nvT; rw [ke]; exact G.2.2.2.1, by rw [ke]; exact G.2.2.2.2⟩⟩
        refine go_aloadn dX3_next_68 rfl ?_
        refine sg_getI dX3_next_69 fX3_60 rfl (rd_L rfl) hS ?_
        rw [e31]
        refine go_aloadn dX3_next_72 rfl ?_
        refine sg_getI dX3_next_73 fX3_25 rfl (rd_L rfl) hS ?_
        rw [H2.2.1]
        refine go_icmp_lt (tgt := 87) dX3_next_76 (by decide) (fun c76 => ?_) (fun c76 => absurd (nI_lt q (by omega)) c76)
        refine go_aloadn dX3_next_87 rfl ?_
        refine sg_getR dX3_next_88 fX3_9 rfl (rd_L rfl) hS H2.1 ?_
        refine go_aloadn dX3_next_91 rfl ?_
        refine sg_getI dX3_next_92 fX3_60 rfl (rd_L rfl) hS ?_
        rw [e31]
        refine sg_baldN (i := s) (x := byI (b s)) dX3_next_95 rfl hS (by simp only [lit_nI, nI_add, pk_mul, Nat.add_assoc, Nat.zero_add, Nat.add_zero]) (by omega) (t1) ?_
        refine go_bipush (v := 97) dX3_next_96 rfl ?_
        refine go_icmp_lt (tgt := 122) dX3_next_98 (by decide) (fun c98 => ?_) (fun c98 => ?_)
        · exact fin
        · refine go_aloadn dX3_next_101 rfl ?_
          refine sg_getR dX3_next_102 fX3_9 rfl (rd_L rfl) hS H2.1 ?_
          refine go_aloadn dX3_next_105 rfl ?_
          refine sg_getI dX3_next_106 fX3_60 rfl (rd_L rfl) hS ?_
          rw [e31]
          refine sg_baldN (i := s) (x := byI (b s)) dX3_next_109 rfl hS (by simp only [lit_nI, nI_add, pk_mul, Nat.add_assoc, Nat.zero_add, Nat.add_zero]) (by omega) (t1) ?_
          refine go_bipush (v := 122) dX3_next_110 rfl ?_
          refine go_icmp_gt (tgt := 122) dX3_next_112 (by decide) (fun c112 => ?_) (fun c112 => absurd ⟨Int32.not_lt.mp c98, Int32.not_lt.mp c112⟩ zl)
          exact fin
      · have k1 : tkK b n s = if isG (b s) = true then 3 else 4 := by unfold tkK; rw [if_neg (by omega), if_neg zl, if_neg zd]
        have ke : tkE b n s = s + 1 := by unfold tkE; rw [if_neg (by omega), if_neg zl, if_neg zd]
        rw [bl, Bool.and_eq_true, decide_eq_true_eq, decide_eq_true_eq] at zl
        rw [bd, Bool.and_eq_true, decide_eq_true_eq, decide_eq_true_eq] at zd
        have ig := ixG_lt ⟨b s, t2⟩
        dsimp only at ig
        have en : ∀ k : Int32, k = nI (tkK b n s) → Go l (rmOf (d + 5) (0, 0)) mX3_next (hN h) (Zm (0, 0) (fun v h1 => v = none ∧ Fz SN4 h h1 ∧ RC h1 b n s) noX) 185 [some (.ref 3)] [.int k, .ref 3] g1 0 0 := by
          intro k hk
          refine sg_putI dX3_next_185 fX3_57 rfl rfl (rd_L rfl) hS ?_
          refine go_aloadn dX3_next_188 rfl ?_
          refine go_dup dX3_next_189 rfl ?_
          refine sg_getI dX3_next_190 fX3_38 rfl (rd_L rfl) hS ?_
          refine go_iconst (v := 1) dX3_next_193 rfl ?_
          refine go_iadd dX3_next_194 ?_
          rw [hI_uI_ne (by omega), e41, nI_1]
          refine sg_putI dX3_next_195 fX3_38 rfl rfl (rd_L rfl) hS ?_
          refine go_return dX3_next_198 rfl (Nat.zero_le _) (Nat.zero_le _) ?_
          exact ⟨rfl, (F1.uI (by unfold SN4; omega)).uI (by unfold SN4; omega), (H2.fz (Fz.rf.uI (S := SN4) (by unfold SN4; omega)) (by unfold SN4; exact ⟨by omega, fun k => by omega⟩)).fz (Fz.rf.uI (S := SN4) (by unfold SN4; omega)) (by unfold SN4; exact ⟨by omega, fun k => by omega⟩), by rw [hI_uI_ne (by omega), hI_uI_eq]; exact hk, by rw [hI_uI_ne (by omega), hI_uI_ne (by omega)]; exact e31, by rw [ke]; exact hI_uI_eq, sn, fun z => absurd z (by rw [k1]; split <;> decide)⟩
        have fin : Go l (rmOf (d + 5) (0, 0)) mX3_next (hN h) (Zm (0, 0) (fun v h1 => v = none ∧ Fz SN4 h h1 ∧ RC h1 b n s) noX) 157 [some (.ref 3)] [] g1 0 0 := by
          refine go_aloadn dX3_next_157 rfl ?_
          refine go_ldcS (i := 0) rfl (by decide) rfl dX3_next_158 ?_
          refine go_aloadn dX3_next_160 rfl ?_
          refine sg_getR dX3_next_161 fX3_9 rfl (rd_L rfl) hS H2.1 ?_
          refine go_aloadn dX3_next_164 rfl ?_
          refine sg_getI dX3_next_165 fX3_60 rfl (rd_L rfl) hS ?_
          rw [e31]
          refine sg_baldN (i := s) (x := byI (b s)) dX3_next_168 rfl hS (by simp only [lit_nI, nI_add, pk_mul, Nat.add_assoc, Nat.zero_add, Nat.add_zero]) (by omega) (t1) ?_
          refine go_sipush (v := 255) dX3_next_169 rfl ?_
          refine go_iand dX3_next_172 ?_
          refine go_i2c dX3_next_173 ?_
          rw [by_255 ⟨b s, t2⟩]; dsimp only
          refine sg_cT (M' := mJ0_indexOf_0f7a4) ([.int (nI (b s))]) dX3_next_174 lX3_71 vJ0_indexOf_0f7a4 (by decide) rfl hS (t_ix hS t2) rfl (Nat.le_of_ble_eq_true rfl) (Nat.zero_le _) (Nat.zero_le _) ?_
          refine go_if_lt (tgt := 184) dX3_next_177 (by decide) (fun c177 => ?_) (fun c177 => ?_)
          · refine go_iconst (v := 4) dX3_next_184 rfl ?_
            first | exact en 4 (by rw [k1, if_neg (by rw [ig.mp c177]; decide)]; rfl) | exact en 3 (by rw [k1, if_pos (by cases z : isG (b s) with | true => rfl | false => exact absurd (ig.mpr z) c177)]; rfl)
          · refine go_iconst (v := 3) dX3_next_180 rfl ?_
            refine go_goto (tgt := 185) dX3_next_181 (by decide) ?_
            first | exact en 4 (by rw [k1, if_neg (by rw [ig.mp c177]; decide)]; rfl) | exact en 3 (by rw [k1, if_pos (by cases z : isG (b s) with | true => rfl | false => exact absurd (ig.mpr z) c177)]; rfl)
        have fi2 : Go l (rmOf (d + 5) (0, 0)) mX3_next (hN h) (Zm (0, 0) (fun v h1 => v = none ∧ Fz SN4 h h1 ∧ RC h1 b n s) noX) 122 [some (.ref 3)] [] g1 0 0 := by
          refine go_aloadn dX3_next_122 rfl ?_
          refine sg_getR dX3_next_123 fX3_9 rfl (rd_L rfl) hS H2.1 ?_
          refine go_aloadn dX3_next_126 rfl ?_
          refine sg_getI dX3_next_127 fX3_60 rfl (rd_L rfl) hS ?_
          rw [e31]
          refine sg_baldN (i := s) (x := byI (b s)) dX3_next_130 rfl hS (by simp only [lit_nI, nI_add, pk_mul, Nat.add_assoc, Nat.zero_add, Nat.add_zero]) (by omega) (t1) ?_
          refine go_bipush (v := 48) dX3_next_131 rfl ?_
          refine go_icmp_lt (tgt := 157) dX3_next_133 (by decide) (fun c133 => ?_) (fun c133 => ?_)
          · exact fin
          · refine go_aloadn dX3_next_136 rfl ?_
            refine sg_getR dX3_next_137 fX3_9 rfl (rd_L rfl) hS H2.1 ?_
            refine go_aloadn dX3_next_140 rfl ?_
            refine sg_getI dX3_next_141 fX3_60 rfl (rd_L rfl) hS ?_
            rw [e31]
            refine sg_baldN (i := s) (x := byI (b s)) dX3_next_144 rfl hS (by simp only [lit_nI, nI_add, pk_mul, Nat.add_assoc, Nat.zero_add, Nat.add_zero]) (by omega) (t1) ?_
            refine go_bipush (v := 57) dX3_next_145 rfl ?_
            refine go_icmp_gt (tgt := 157) dX3_next_147 (by decide) (fun c147 => ?_) (fun c147 => absurd ⟨Int32.not_lt.mp c133, Int32.not_lt.mp c147⟩ zd)
            exact fin
        refine go_aloadn dX3_next_68 rfl ?_
        refine sg_getI dX3_next_69 fX3_60 rfl (rd_L rfl) hS ?_
        rw [e31]
        refine go_aloadn dX3_next_72 rfl ?_
        refine sg_getI dX3_next_73 fX3_25 rfl (rd_L rfl) hS ?_
        rw [H2.2.1]
        refine go_icmp_lt (tgt := 87) dX3_next_76 (by decide) (fun c76 => ?_) (fun c76 => absurd (nI_lt q (by omega)) c76)
        refine go_aloadn dX3_next_87 rfl ?_
        refine sg_getR dX3_next_88 fX3_9 rfl (rd_L rfl) hS H2.1 ?_
        refine go_aloadn dX3_next_91 rfl ?_
        refine sg_getI dX3_next_92 fX3_60 rfl (rd_L rfl) hS ?_
        rw [e31]
        refine sg_baldN (i := s) (x := byI (b s)) dX3_next_95 rfl hS (by simp only [lit_nI, nI_add, pk_mul, Nat.add_assoc, Nat.zero_add, Nat.add_zero]) (by omega) (t1) ?_
        refine go_bipush (v := 97) dX3_next_96 rfl ?_
        refine go_icmp_lt (tgt := 122) dX3_next_98 (by decide) (fun c98 => ?_) (fun c98 => ?_)
        · exact fi2
        · refine go_aloadn dX3_next_101 rfl ?_
          refine sg_getR dX3_next_102 fX3_9 rfl (rd_L rfl) hS H2.1 ?_
          refine go_aloadn dX3_next_105 rfl ?_
          refine sg_getI dX3_next_106 fX3_60 rfl (rd_L rfl) hS ?_
          rw [e31]
          refine sg_baldN (i := s) (x := byI (b s)) dX3_next_109 rfl hS (by simp only [lit_nI, nI_add, pk_mul, Nat.add_assoc, Nat.zero_add, Nat.add_zero]) (by omega) (t1) ?_
          refine go_bipush (v := 122) dX3_next_110 rfl ?_
          refine go_icmp_gt (tgt := 122) dX3_next_112 (by decide) (fun c112 => ?_) (fun c112 => absurd ⟨Int32.not_lt.mp c98, Int32.not_lt.mp c112⟩ zl)
          exact fi2
  · have k1 : tkK b n s = 0 := by unfold tkK; rw [if_pos (by omega)]
    have ke : tkE b n s = s := by unfold tkE; rw [if_pos (by omega)]
    refine go_aloadn dX3_next_68 rfl ?_
    refine sg_getI dX3_next_69 fX3_60 rfl (rd_L rfl) hS ?_
    rw [e31]
    refine go_aloadn dX3_next_72 rfl ?_
    refine sg_getI dX3_next_73 fX3_25 rfl (rd_L rfl) hS ?_
    rw [H2.2.1]
    refine go_icmp_lt (tgt := 87) dX3_next_76 (by decide) (fun c76 => absurd c76 (nI_nlt (by omega) (by omega))) (fun c76 => ?_)
    refine go_aloadn dX3_next_79 rfl ?_
    refine go_iconst (v := 0) dX3_next_80 rfl ?_
    refine sg_putI dX3_next_81 fX3_57 rfl rfl (rd_L rfl) hS ?_
    refine go_goto (tgt := 198) dX3_next_84 (by decide) ?_
    refine go_return dX3_next_198 rfl (Nat.zero_le _) (Nat.zero_le _) ?_
    exact ⟨rfl, F1.uI (by unfold SN4; omega), H2.fz (Fz.rf.uI (S := SN4) (by unfold SN4; omega)) (by unfold SN4; exact ⟨by omega, fun k => by omega⟩), by rw [k1]; exact hI_uI_eq, by rw [hI_uI_ne (by omega)]; exact e31, by rw [hI_uI_ne (by omega), ke]; exact e41, sn, fun z => absurd (k1.symm.trans z) (by decide)⟩
