/-! the model's next token: words and numbers -/
theorem hI_uJ {h : Hp} {a k a' k' : Nat} {v : Int64} : hI (uJ h a k v) a' k' = hI h a' k' := rfl
theorem hJ_uJ_eq {h : Hp} {a k : Nat} {v : Int64} : hJ (uJ h a k v) a k = v := by
  rw [hJ_uJ_same]; unfold vp_updL; simp
theorem hJ_uI' {h : Hp} {a k a' k' : Nat} {v : Int32} : hJ (uI h a k v) a' k' = hJ h a' k' := rfl
theorem fj_uJ {S : Nat → Nat → Prop} {g g1 : Hp} {k : Nat} {v : Int64} (h : Fj S g g1) : Fj S g (uJ g1 77 k v) := h.tr ⟨rfl, rfl, fun a k' q => by simp only [hJ, uJ, up2]; rw [if_neg (fun z => q z.1)], fun _ _ _ => hI_uJ⟩
theorem isL_n {c : Nat} (h : isL c = true) : 97 ≤ c ∧ c ≤ 122 := by
  unfold isL at h
  rw [Bool.and_eq_true, decide_eq_true_eq, decide_eq_true_eq] at h; exact h
theorem wd_lt {b : Nat → Nat} {s k : Nat} (hk : k ≤ 7) (h : ∀ j, j < k → isL (b (s + j)) = true) : wdN b s k < 32 ^ k := by
  induction k with
  | zero => show 0 < 1; omega
  | succ k ih =>
    have i1 := ih (by omega) (fun j hj => h j (by omega))
    have hc := isL_n (h k (by omega))
    have es : wdN b s (k + 1) = if k < 7 then 32 * wdN b s k + (b (s + k) - 96) else wdN b s k := rfl
    rw [es, if_pos (by omega), Nat.pow_succ]
    omega
theorem nI_subS {s k : Nat} : nI (s + k) - nI s = nI k := by rw [← nI_add, Int32.add_comm, Int32.add_sub_cancel]
theorem sub_c {c m : Nat} (h : m ≤ c) : nI c - nI m = nI (c - m) := by
  have := nI_subS (s := m) (k := c - m)
  rw [show m + (c - m) = c by omega] at this; exact this
def S17 (a k : Nat) : Prop := a = 77 ∧ k = 17
theorem q_letters {l : Launch} {d n s : Nat} {b : Nat → Nat} {h : Hp} {Z : ZT} {lc : Option Value} (hS : St h) (H : TM h b n) (he : hI h 77 17 = nI s) (hp : hI h 77 19 = nI s) (hJ0 : hJ h 77 23 = lN 0) (hi : s ≤ n) {n0 : Nat} (k : ∀ g, Fj S17 h g → hI g 77 17 = nI (spn (fun j => isL (b j)) n s) → hJ g 77 23 = lN (wdN b s (spn (fun j => isL (b j)) n s - s)) → Go l (rmOf (d + 2) (0, 0)) mX10_goes n0 Z 172 [some (.ref 77), lc] [] g 0 0) : Go l (rmOf (d + 2) (0, 0)) mX10_goes n0 Z 108 [some (.ref 77), lc] [] h 0 0 := by
  have n7 := H.2.1
  obtain ⟨s1, s2, s3, s4⟩ := spn_ok (p := fun j => isL (b j)) (n := n) (i := s)
  have s4 := s4 hi
  generalize spn (fun j => isL (b j)) n s = e at *
  refine go_loopR (lvf := fun _ => [some (.ref 77), lc]) (e - s) (fun k g => Fj S17 h g ∧ hI g 77 17 = nI (s + k) ∧ hJ g 77 23 = lN (wdN b s k)) (fun j g hj hh ih => ?_) (fun g hh => ?_) 0 h (Nat.zero_le _) ⟨Fj.rf, he, hJ0⟩
  · obtain ⟨F, e17, eJ⟩ := hh
    have hS := F.St hS
    have H2 := H.fj F (by unfold S17; exact ⟨by omega, fun k => by omega⟩)
    have e19 : hI g 77 19 = nI s := by rw [F.I (by unfold S17; omega)]; exact hp
    obtain ⟨k1, k2⟩ := s1 (s + j) (by omega) (by omega)
    have t2 := (H2.2.2 _ k1).2
    have kl := isL_n k2
    have es : wdN b s (j + 1) = if j < 7 then 32 * wdN b s j + (b (s + j) - 96) else wdN b s j := rfl
    by_cases z : j < 7
    · rw [if_pos z] at es
      rw [es] at ih
      have wl := wd_lt (b := b) (s := s) (k := j) (by omega) (fun x hx => (s1 (s + x) (by omega) (by omega)).2)
      have p7 : 32 ^ j ≤ 32 ^ 7 := Nat.pow_le_pow_right (by decide) (by omega)
      refine go_aloadn dX10_goes_108 rfl ?_
      refine go_aloadn dX10_goes_109 rfl ?_
      refine sg_getI dX10_goes_110 fX10_115 rfl (mo_L rfl) hS ?_
      rw [e17]
      refine sg_cVi (M' := mX10_byteAt) ([.int (nI (s + j))]) dX10_goes_113 lX10_118 vX10_byteAt (mo_L rfl) (by decide) rfl hS (q_byteAt hS H2 (by omega)) rfl (Nat.le_of_ble_eq_true rfl) (Nat.zero_le _) (Nat.zero_le _) ?_
      rw [if_pos k1]
      refine sg_cSi (M' := mX10_isLetter) ([.int (nI (b (s + j)))]) dX10_goes_116 lX10_138 sX10_isLetter hS (q_isLetter t2) rfl (Nat.le_of_ble_eq_true rfl) (Nat.zero_le _) (Nat.zero_le _) ?_
      rw [if_pos k2]
      refine go_if_eq (tgt := 172) dX10_goes_119 (by decide) (fun c119 => absurd c119 (by decide)) (fun c119 => ?_)
      refine go_aloadn dX10_goes_122 rfl ?_
      refine sg_getI dX10_goes_123 fX10_115 rfl (mo_L rfl) hS ?_
      rw [e17]
      refine go_aloadn dX10_goes_126 rfl ?_
      refine sg_getI dX10_goes_127 fX10_122 rfl (mo_L rfl) hS ?_
      rw [e19]
      refine go_isub dX10_goes_130 ?_
      rw [nI_subS]
      refine go_bipush (v := 7) dX10_goes_131 rfl ?_
      refine go_icmp_ge (tgt := 159) dX10_goes_133 (by decide) (fun c133 => absurd c133 (nI_ge (b := 7) z (by decide))) (fun c133 => ?_)
      refine go_aloadn dX10_goes_136 rfl ?_
      refine go_aloadn dX10_goes_137 rfl ?_
      refine sg_getJ dX10_goes_138 fX10_125 rfl (mo_L rfl) hS ?_
      refine go_iconst (v := 5) dX10_goes_141 rfl ?_
      refine go_lshl dX10_goes_142 ?_
      refine go_aloadn dX10_goes_143 rfl ?_
      refine go_aloadn dX10_goes_144 rfl ?_
      refine sg_getI dX10_goes_145 fX10_115 rfl (mo_L rfl) hS ?_
      rw [e17]
      refine sg_cVi (M' := mX10_byteAt) ([.int (nI (s + j))]) dX10_goes_148 lX10_118 vX10_byteAt (mo_L rfl) (by decide) rfl hS (q_byteAt hS H2 (by omega)) rfl (Nat.le_of_ble_eq_true rfl) (Nat.zero_le _) (Nat.zero_le _) ?_
      rw [if_pos k1]
      refine go_bipush (v := 96) dX10_goes_151 rfl ?_
      refine go_isub dX10_goes_153 ?_
      rw [show (96 : Int32) = nI 96 from rfl, sub_c (by omega)]
      refine go_i2l dX10_goes_154 ?_
      refine go_lor dX10_goes_155 ?_
      rw [eJ, lw_5 (by omega) (by omega)]
      refine sg_putJ dX10_goes_156 fX10_125 rfl rfl (mo_L rfl) hS ?_
      refine go_aloadn dX10_goes_159 rfl ?_
      refine go_dup dX10_goes_160 rfl ?_
      refine sg_getI dX10_goes_161 fX10_115 rfl (mo_L rfl) hS ?_
      rw [hI_uJ, e17]
      refine go_iconst (v := 1) dX10_goes_164 rfl ?_
      refine go_iadd dX10_goes_165 ?_
      rw [nI_1]
      refine sg_putI dX10_goes_166 fX10_115 rfl rfl (mo_L rfl) hS ?_
      refine go_goto (tgt := 108) dX10_goes_169 (by decide) ?_
      exact go_cong (ih _ ⟨(fj_uJ F).uI (by unfold S17; omega), hI_uI_eq, by rw [hJ_uI', hJ_uJ_eq]⟩) rfl rfl
    · rw [if_neg z] at es
      rw [es] at ih
      refine go_aloadn dX10_goes_108 rfl ?_
      refine go_aloadn dX10_goes_109 rfl ?_
      refine sg_getI dX10_goes_110 fX10_115 rfl (mo_L rfl) hS ?_
      rw [e17]
      refine sg_cVi (M' := mX10_byteAt) ([.int (nI (s + j))]) dX10_goes_113 lX10_118 vX10_byteAt (mo_L rfl) (by decide) rfl hS (q_byteAt hS H2 (by omega)) rfl (Nat.le_of_ble_eq_true rfl) (Nat.zero_le _) (Nat.zero_le _) ?_
      rw [if_pos k1]
      refine sg_cSi (M' := mX10_isLetter) ([.int (nI (b (s + j)))]) dX10_goes_116 lX10_138 sX10_isLetter hS (q_isLetter t2) rfl (Nat.le_of_ble_eq_true rfl) (Nat.zero_le _) (Nat.zero_le _) ?_
      rw [if_pos k2]
      refine go_if_eq (tgt := 172) dX10_goes_119 (by decide) (fun c119 => absurd c119 (by decide)) (fun c119 => ?_)
      refine go_aloadn dX10_goes_122 rfl ?_
      refine sg_getI dX10_goes_123 fX10_115 rfl (mo_L rfl) hS ?_
      rw [e17]
      refine go_aloadn dX10_goes_126 rfl ?_
      refine sg_getI dX10_goes_127 fX10_122 rfl (mo_L rfl) hS ?_
      rw [e19]
      refine go_isub dX10_goes_130 ?_
      rw [nI_subS]
      refine go_bipush (v := 7) dX10_goes_131 rfl ?_
      refine go_icmp_ge (tgt := 159) dX10_goes_133 (by decide) (fun c133 => ?_) (fun c133 => absurd (nI_le (a := 7) (by omega) (by omega)) c133)
      refine go_aloadn dX10_goes_159 rfl ?_
      refine go_dup dX10_goes_160 rfl ?_
      refine sg_getI dX10_goes_161 fX10_115 rfl (mo_L rfl) hS ?_
      refine go_iconst (v := 1) dX10_goes_164 rfl ?_
      refine go_iadd dX10_goes_165 ?_
      rw [e17, nI_1]
      refine sg_putI dX10_goes_166 fX10_115 rfl rfl (mo_L rfl) hS ?_
      refine go_goto (tgt := 108) dX10_goes_169 (by decide) ?_
      exact go_cong (ih _ ⟨F.uI (by unfold S17; omega), hI_uI_eq, by rw [hJ_uI']; exact eJ⟩) rfl rfl
  · obtain ⟨F, e17, eJ⟩ := hh
    have hS := F.St hS
    have H2 := H.fj F (by unfold S17; exact ⟨by omega, fun k => by omega⟩)
    rw [show s + (e - s) = e by omega] at e17
    have c2 : (if e < n then b e else 0) < 256 := by split; (· exact (H2.2.2 _ (by assumption)).2); decide
    have c3 : ¬ isL (if e < n then b e else 0) = true := by
      split
      · exact fun q => s2 ⟨by assumption, q⟩
      · decide
    refine go_aloadn dX10_goes_108 rfl ?_
    refine go_aloadn dX10_goes_109 rfl ?_
    refine sg_getI dX10_goes_110 fX10_115 rfl (mo_L rfl) hS ?_
    rw [e17]
    refine sg_cVi (M' := mX10_byteAt) ([.int (nI e)]) dX10_goes_113 lX10_118 vX10_byteAt (mo_L rfl) (by decide) rfl hS (q_byteAt hS H2 (by omega)) rfl (Nat.le_of_ble_eq_true rfl) (Nat.zero_le _) (Nat.zero_le _) ?_
    refine sg_cSi (M' := mX10_isLetter) ([.int (nI (if e < n then b e else 0))]) dX10_goes_116 lX10_138 sX10_isLetter hS (q_isLetter c2) rfl (Nat.le_of_ble_eq_true rfl) (Nat.zero_le _) (Nat.zero_le _) ?_
    rw [if_neg c3]
    refine go_if_eq (tgt := 172) dX10_goes_119 (by decide) (fun c119 => ?_) (fun c119 => absurd rfl c119)
    exact k g F e17 eJ
theorem q_digits {l : Launch} {d n s : Nat} {b : Nat → Nat} {h : Hp} {Z : ZT} {lc : Option Value} (hS : St h) (H : TM h b n) (he : hI h 77 17 = nI s) (hp : hI h 77 19 = nI s) (hv : hI h 77 21 = 0) (hi : s ≤ n) {n0 : Nat} (k : ∀ g, Fz (fun a k => a = 77 ∧ (k = 17 ∨ k = 21)) h g → hI g 77 17 = nI (spn (fun j => isD (b j)) n s) → hI g 77 21 = nI (nvN b s (spn (fun j => isD (b j)) n s - s)) → Go l (rmOf (d + 2) (0, 0)) mX10_goes n0 Z 250 [some (.ref 77), lc] [] g 0 0) : Go l (rmOf (d + 2) (0, 0)) mX10_goes n0 Z 187 [some (.ref 77), lc] [] h 0 0 := by
  have n7 := H.2.1
  obtain ⟨s1, s2, s3, s4⟩ := spn_ok (p := fun j => isD (b j)) (n := n) (i := s)
  have s4 := s4 hi
  generalize spn (fun j => isD (b j)) n s = e at *
  refine go_loopR (lvf := fun _ => [some (.ref 77), lc]) (e - s) (fun k g => Fz (fun a k => a = 77 ∧ (k = 17 ∨ k = 21)) h g ∧ hI g 77 17 = nI (s + k) ∧ hI g 77 21 = nI (nvN b s k)) (fun j g hj hh ih => ?_) (fun g hh => ?_) 0 h (Nat.zero_le _) ⟨Fz.rf, he, hv⟩
  · obtain ⟨F, e17, e21⟩ := hh
    have hS := F.St hS
    have H2 := H.fj F.j ⟨by omega, fun k => by omega⟩
    have e19 : hI g 77 19 = nI s := by rw [F.I (by omega)]; exact hp
    obtain ⟨k1, k2⟩ := s1 (s + j) (by omega) (by omega)
    have t2 := (H2.2.2 _ k1).2
    have kl := isD_n k2
    have es : nvN b s (j + 1) = if j < 4 then 10 * nvN b s j + (b (s + j) - 48) else nvN b s j := rfl
    by_cases z : j < 4
    · rw [if_pos z] at es
      rw [es] at ih
      refine go_aloadn dX10_goes_187 rfl ?_
      refine go_aloadn dX10_goes_188 rfl ?_
      refine sg_getI dX10_goes_189 fX10_115 rfl (mo_L rfl) hS ?_
      rw [e17]
      refine sg_cVi (M' := mX10_byteAt) ([.int (nI (s + j))]) dX10_goes_192 lX10_118 vX10_byteAt (mo_L rfl) (by decide) rfl hS (q_byteAt hS H2 (by omega)) rfl (Nat.le_of_ble_eq_true rfl) (Nat.zero_le _) (Nat.zero_le _) ?_
      rw [if_pos k1]
      refine sg_cSi (M' := mX10_isDigit) ([.int (nI (b (s + j)))]) dX10_goes_195 lX10_142 sX10_isDigit hS (q_isDigit t2) rfl (Nat.le_of_ble_eq_true rfl) (Nat.zero_le _) (Nat.zero_le _) ?_
      rw [if_pos k2]
      refine go_if_eq (tgt := 250) dX10_goes_198 (by decide) (fun c198 => absurd c198 (by decide)) (fun c198 => ?_)
      refine go_aloadn dX10_goes_201 rfl ?_
      refine sg_getI dX10_goes_202 fX10_115 rfl (mo_L rfl) hS ?_
      rw [e17]
      refine go_aloadn dX10_goes_205 rfl ?_
      refine sg_getI dX10_goes_206 fX10_122 rfl (mo_L rfl) hS ?_
      rw [e19]
      refine go_isub dX10_goes_209 ?_
      rw [nI_subS]
      refine go_iconst (v := 4) dX10_goes_210 rfl ?_
      refine go_icmp_ge (tgt := 237) dX10_goes_211 (by decide) (fun c211 => absurd c211 (nI_ge (b := 4) z (by decide))) (fun c211 => ?_)
      refine go_aloadn dX10_goes_214 rfl ?_
      refine go_bipush (v := 10) dX10_goes_215 rfl ?_
      refine go_aloadn dX10_goes_217 rfl ?_
      refine sg_getI dX10_goes_218 fX10_129 rfl (mo_L rfl) hS ?_
      rw [e21]
      refine go_imul dX10_goes_221 ?_
      refine go_aloadn dX10_goes_222 rfl ?_
      refine go_aloadn dX10_goes_223 rfl ?_
      refine sg_getI dX10_goes_224 fX10_115 rfl (mo_L rfl) hS ?_
      rw [e17]
      refine sg_cVi (M' := mX10_byteAt) ([.int (nI (s + j))]) dX10_goes_227 lX10_118 vX10_byteAt (mo_L rfl) (by decide) rfl hS (q_byteAt hS H2 (by omega)) rfl (Nat.le_of_ble_eq_true rfl) (Nat.zero_le _) (Nat.zero_le _) ?_
      rw [if_pos k1]
      refine go_iadd dX10_goes_230 ?_
      refine go_bipush (v := 48) dX10_goes_231 rfl ?_
      refine go_isub dX10_goes_233 ?_
      rw [Int32.mul_comm, dig_n kl.1]
      refine sg_putI dX10_goes_234 fX10_129 rfl rfl (mo_L rfl) hS ?_
      refine go_aloadn dX10_goes_237 rfl ?_
      refine go_dup dX10_goes_238 rfl ?_
      refine sg_getI dX10_goes_239 fX10_115 rfl (mo_L rfl) hS ?_
      rw [hI_uI_ne (by omega), e17]
      refine go_iconst (v := 1) dX10_goes_242 rfl ?_
      refine go_iadd dX10_goes_243 ?_
      rw [nI_1]
      refine sg_putI dX10_goes_244 fX10_115 rfl rfl (mo_L rfl) hS ?_
      refine go_goto (tgt := 187) dX10_goes_247 (by decide) ?_
      exact go_cong (ih _ ⟨(F.uI ⟨rfl, Or.inr rfl⟩).uI ⟨rfl, Or.inl rfl⟩, hI_uI_eq, by rw [hI_uI_ne (by omega), hI_uI_eq]⟩) rfl rfl
    · rw [if_neg z] at es
      rw [es] at ih
      refine go_aloadn dX10_goes_187 rfl ?_
      refine go_aloadn dX10_goes_188 rfl ?_
      refine sg_getI dX10_goes_189 fX10_115 rfl (mo_L rfl) hS ?_
      rw [e17]
      refine sg_cVi (M' := mX10_byteAt) ([.int (nI (s + j))]) dX10_goes_192 lX10_118 vX10_byteAt (mo_L rfl) (by decide) rfl hS (q_byteAt hS H2 (by omega)) rfl (Nat.le_of_ble_eq_true rfl) (Nat.zero_le _) (Nat.zero_le _) ?_
      rw [if_pos k1]
      refine sg_cSi (M' := mX10_isDigit) ([.int (nI (b (s + j)))]) dX10_goes_195 lX10_142 sX10_isDigit hS (q_isDigit t2) rfl (Nat.le_of_ble_eq_true rfl) (Nat.zero_le _) (Nat.zero_le _) ?_
      rw [if_pos k2]
      refine go_if_eq (tgt := 250) dX10_goes_198 (by decide) (fun c198 => absurd c198 (by decide)) (fun c198 => ?_)
      refine go_aloadn dX10_goes_201 rfl ?_
      refine sg_getI dX10_goes_202 fX10_115 rfl (mo_L rfl) hS ?_
      rw [e17]
      refine go_aloadn dX10_goes_205 rfl ?_
      refine sg_getI dX10_goes_206 fX10_122 rfl (mo_L rfl) hS ?_
      rw [e19]
      refine go_isub dX10_goes_209 ?_
      rw [nI_subS]
      refine go_iconst (v := 4) dX10_goes_210 rfl ?_
      refine go_icmp_ge (tgt := 237) dX10_goes_211 (by decide) (fun c211 => ?_) (fun c211 => absurd (nI_le (a := 4) (by omega) (by omega)) c211)
      refine go_aloadn dX10_goes_237 rfl ?_
      refine go_dup dX10_goes_238 rfl ?_
      refine sg_getI dX10_goes_239 fX10_115 rfl (mo_L rfl) hS ?_
      refine go_iconst (v := 1) dX10_goes_242 rfl ?_
      refine go_iadd dX10_goes_243 ?_
      rw [e17, nI_1]
      refine sg_putI dX10_goes_244 fX10_115 rfl rfl (mo_L rfl) hS ?_
      refine go_goto (tgt := 187) dX10_goes_247 (by decide) ?_
      exact go_cong (ih _ ⟨F.uI ⟨rfl, Or.inl rfl⟩, hI_uI_eq, by rw [hI_uI_ne (by omega)]; exact e21⟩) rfl rfl
  · obtain ⟨F, e17, e21⟩ := hh
    have hS := F.St hS
    have H2 := H.fj F.j ⟨by omega, fun k => by omega⟩
    rw [show s + (e - s) = e by omega] at e17
    have c2 : (if e < n then b e else 0) < 256 := by split; (· exact (H2.2.2 _ (by assumption)).2); decide
    have c3 : ¬ isD (if e < n then b e else 0) = true := by
      split
      · exact fun q => s2 ⟨by assumption, q⟩
      · decide
    refine go_aloadn dX10_goes_187 rfl ?_
    refine go_aloadn dX10_goes_188 rfl ?_
    refine sg_getI dX10_goes_189 fX10_115 rfl (mo_L rfl) hS ?_
    rw [e17]
    refine sg_cVi (M' := mX10_byteAt) ([.int (nI e)]) dX10_goes_192 lX10_118 vX10_byteAt (mo_L rfl) (by decide) rfl hS (q_byteAt hS H2 (by omega)) rfl (Nat.le_of_ble_eq_true rfl) (Nat.zero_le _) (Nat.zero_le _) ?_
    refine sg_cSi (M' := mX10_isDigit) ([.int (nI (if e < n then b e else 0))]) dX10_goes_195 lX10_142 sX10_isDigit hS (q_isDigit c2) rfl (Nat.le_of_ble_eq_true rfl) (Nat.zero_le _) (Nat.zero_le _) ?_
    rw [if_neg c3]
    refine go_if_eq (tgt := 250) dX10_goes_198 (by decide) (fun c198 => ?_) (fun c198 => absurd rfl c198)
    exact k g F e17 e21
