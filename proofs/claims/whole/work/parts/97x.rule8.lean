/-! rules: the loop of the class -/
theorem rst_q {b : Nat → Nat} {n sh : Nat} {U : Ru} (h : uQ U = 0) : rst b n sh U = if uD U = 0 then (if uE U = 0 ∧ tkK b n (uS U) = 3 ∧ b (uS U) = 59 then ((uS U, 1, 0), U.2.1, popW 1 (uW U) (uP U)) else rstB b n U) else rstP b n sh U := by unfold rst; rw [if_pos h]
theorem sx_P {b : Nat → Nat} {n sh : Nat} {U : Ru} (x : uQ (rstP b n sh U) = 0) : uS (rstP b n sh U) = nx b n (uS U) := by
  unfold rstP at x ⊢
  by_cases a1 : tkK b n (uS U) = 2 ∨ tkK b n (uS U) = 1 ∨ (tkK b n (uS U) = 3 ∧ b (uS U) = 40)
  · rw [if_pos a1] at x ⊢
    by_cases a2 : 6 ≤ uE U
    · rw [if_pos a2] at x; exact absurd x (show ¬ (2 : Nat) = 0 by decide)
    · rw [if_neg a2] at x ⊢
      by_cases a3 : tkK b n (uS U) = 2
      · rw [if_pos a3] at x ⊢
        by_cases a4 : ftF b n (uS U) = 0
        · rw [if_pos a4]; rfl
        · rw [if_neg a4] at x; exact absurd x (show ¬ (2 : Nat) = 0 by decide)
      · rw [if_neg a3] at x ⊢
        by_cases a5 : tkK b n (uS U) = 1
        · rw [if_pos a5] at x ⊢
          unfold rstW at x ⊢
          by_cases a6 : uM U = 1 ∧ kwN b n (uS U) = 19
          · rw [if_pos a6] at x ⊢
            by_cases a7 : 6 ≤ uC U
            · rw [if_pos a7] at x; exact absurd x (show ¬ (2 : Nat) = 0 by decide)
            · rw [if_neg a7]; rfl
          · rw [if_neg a6] at x ⊢
            by_cases a7 : vlA sh (kwN b n (uS U))
            · rw [if_pos a7]; rfl
            · rw [if_neg a7] at x; exact absurd x (show ¬ (2 : Nat) = 0 by decide)
        · rw [if_neg a5]; rfl
  · rw [if_neg a1] at x; exact absurd x (show ¬ (2 : Nat) = 0 by decide)
theorem sx_B {b : Nat → Nat} {n : Nat} {U : Ru} (x : uQ (rstB b n U) = 0) : uS (rstB b n U) = nx b n (uS U) := by
  unfold rstB at x ⊢
  by_cases z : tkK b n (uS U) = 3 ∧ b (uS U) = 41
  · rw [if_pos z] at x ⊢
    by_cases y : uE U = 0
    · rw [if_pos y] at x; exact absurd x (show ¬ (2 : Nat) = 0 by decide)
    · rw [if_neg y]; rfl
  · rw [if_neg z] at x ⊢
    by_cases y : opF b n (uS U) = 0
    · rw [if_pos y] at x; exact absurd x (show ¬ (2 : Nat) = 0 by decide)
    · rw [if_neg y] at x ⊢
      by_cases w : bdN (opF b n (uS U)) = 4 ∧ topB (popW 5 (uW U) (uP U)).1 = 4
      · rw [if_pos w] at x; exact absurd x (show ¬ (2 : Nat) = 0 by decide)
      · rw [if_neg w]; rfl
theorem r_ru30 {l : Launch} {d n c cl r sh : Nat} {b : Nat → Nat} {h h0 : Hp} {Y : Ry} {A : Nat → Prop} (hr : RuleAt r) (hrs : (r = c + 10 ∧ sh = 1) ∨ (r = c + 11 ∧ sh = 0)) (hS0 : St h) (K : KY h c Y) (F0 : Fz (Scy c) h0 h) (f0 : (yF Y).1 = 0) (hcl : (yK Y).1 = cl) (h1 : (yR Y).1 + (cSh (yC Y)).1 ≤ cl) (h2 : (yR Y).2.1 + (cRe (yC Y)).1 ≤ cl) (hA : ∀ k, vlA sh k → A (mvN k)) : ∀ (k : Nat) (U : Ru) (g : Hp) (i s0 : Nat), n + 1 - uS U ≤ k → uQ U = 0 → UV A n cl U → i < uS U → RC g b n s0 → nx b n s0 = uS U → KU g c cl U → Fz (S2r c cl) h g → Go l (rmOf (d + 9) (0, 0)) mX3_ruleLine (hN h0) (Zm (0, 0) (fun v0 h1 => v0 = some (.int (if (yF (yRu2 b n sh Y (ruFin b n sh U))).1 = 0 then 1 else 0)) ∧ CK h0 h1 c b n (yRu2 b n sh Y (ruFin b n sh U))) noX) 30 [some (.ref 3), some (.ref r), some (.int (nI cl)), some (.int 0), some (.int (nI i))] [] g 0 0 := by
  have hc := K.1.2
  have hc' := at_c hc
  have hsh : sh ≤ 1 := by omega
  intro k
  induction k with
  | zero => intro U g i s0 hk _ V; have := V.1.1; omega
  | succ k ih =>
    intro U g i s0 hk hq V hi R hs KK F
    obtain ⟨B, hz⟩ := V.ub
    have n7 := V.1.2.1
    have sn := V.1.1
    have hS := F.St hS0
    have nxt := fun d => r_nextR (l := l) (d := d) hS R
    rw [hs] at nxt
    rw [← fin_s]
    have fl : ∀ y, yRu2 b n sh Y (ruFl U y) = yFl Y (uS U) y := fun y => rfl
    have go46 : ∀ g1, Fz SN4 g g1 ∧ RC g1 b n (uS U) → Go l (rmOf (d + 9) (0, 0)) mX3_ruleLine (hN h0) (Zm (0, 0) (fun v0 h1 => v0 = some (.int (if (yF (yRu2 b n sh Y (ruFin b n sh (rst b n sh U)))).1 = 0 then 1 else 0)) ∧ CK h0 h1 c b n (yRu2 b n sh Y (ruFin b n sh (rst b n sh U)))) noX) 46 [some (.ref 3), some (.ref r), some (.int (nI cl)), some (.int 0), some (.int (nI i))] [] g1 0 0 := by
      intro g1 G
      have hS := G.1.St hS
      have F1 : Fz (S2r c cl) h g1 := F.tr (G.1.sub (fun _ _ q => Or.inl q))
      have hC : hR g1 3 7 = some c := by rw [F1.1]; exact K.1.1
      have K1 : KU g1 c cl U := ⟨KK.1.fz G.1 (by unfold SN4; omega) (fun k => by unfold SN4; omega) (by unfold SN4; omega) (fun k => by unfold SN4; omega), by rw [G.1.I (by unfold SN4; omega)]; exact KK.2.1, by rw [G.1.I (by unfold SN4; omega)]; exact KK.2.2.1, by rw [G.1.I (by unfold SN4; omega)]; exact KK.2.2.2.1, by rw [G.1.I (by unfold SN4; omega)]; exact KK.2.2.2.2⟩
      have e14 := K1.2.1
      have e16 := K1.2.2.2.1
      have R1 := G.2
      have isg := fun d => r_isSign (l := l) (d := d) (c := 59) hS R1 (by decide)
      rw [rst_q hq]
      have d1 := V.2.1.1
      have E6 := V.2.2.1.2.2
      -- behind an iteration
      have nextI : ∀ V2, uQ V2 = 0 → UV A n cl V2 → uS U < uS V2 → uS V2 = nx b n (uS U) → ∀ g2, Fz (Sr c cl) g1 g2 ∧ KU g2 c cl V2 → Go l (rmOf (d + 9) (0, 0)) mX3_ruleLine (hN h0) (Zm (0, 0) (fun v0 h1 => v0 = some (.int (if (yF (yRu2 b n sh Y (ruFin b n sh V2))).1 = 0 then 1 else 0)) ∧ CK h0 h1 c b n (yRu2 b n sh Y (ruFin b n sh V2))) noX) 121 [some (.ref 3), some (.ref r), some (.int (nI cl)), some (.int 0), some (.int (nI i))] [] g2 0 0 := by
        intro V2 hq2 hv2 hlt hs2 g2 G2
        have hS := G2.1.St hS
        refine go_iinc4 (c1 := 1) dX3_ruleLine_121 rfl rfl ?_
        rw [nI_1]
        refine go_goto (tgt := 30) dX3_ruleLine_124 (by decide) ?_
        exact ih V2 g2 (i + 1) (uS U) (by omega) hq2 hv2 (by omega) (R1.sr hc' G2.1) hs2.symm G2.2 (F1.tr (G2.1.sub (fun _ _ q => Or.inr q)))
      by_cases z : uD U = 0
      · rw [if_pos z]
        rw [z] at e16
        have bh := fun d => r_behindPart (l := l) (d := d) hS R1 hc hC K1 B hz
        by_cases y : uE U = 0 ∧ tkK b n (uS U) = 3 ∧ b (uS U) = 59
        · rw [if_pos y]
          rw [y.1] at e14
          rw [if_pos y.2] at isg
          rw [fin_t (show ¬ (1 : Nat) = 0 by decide)]
          have go127 := r_ru127 (l := l) (d := d) (x3 := 1) (x4 := nI (i + 1)) hr hrs hS R1 K F1 F0 K1.1 B.2.2.2.2.1 (by have := B.2.2.2.2.2.1; omega) (by have := B.2.2.2.2.2.2.1; omega) f0 hcl h1 h2
          rw [show yRu2 b n sh Y ((uS U, 1, 0), U.2.1, popW 1 (uW U) (uP U)) = yEnd b n (yRu1 sh Y (popW 1 (uW U) (uP U)).2) (uS U) from rfl]
          refine go_aloadn dX3_ruleLine_46 rfl ?_
          refine sg_getI dX3_ruleLine_47 fX3_203 rfl (rd_L rfl) hS ?_
          rw [e16]
          refine go_if_ne (tgt := 73) dX3_ruleLine_50 (by decide) (fun c50 => absurd rfl c50) (fun c50 => ?_)
          refine go_aloadn dX3_ruleLine_53 rfl ?_
          refine sg_getI dX3_ruleLine_54 fX3_206 rfl (rd_L rfl) hS ?_
          rw [e14]
          refine go_if_ne (tgt := 73) dX3_ruleLine_57 (by decide) (fun c57 => absurd rfl c57) (fun c57 => ?_)
          refine go_aloadn dX3_ruleLine_60 rfl ?_
          refine go_bipush (v := 59) dX3_ruleLine_61 rfl ?_
          refine sg_cVi (M' := mX3_isSign) ([.int (nI 59)]) dX3_ruleLine_63 lX3_134 vX3_isSign (rd_L rfl) (by decide) rfl hS (isg _) rfl (Nat.le_of_ble_eq_true rfl) (Nat.zero_le _) (Nat.zero_le _) ?_
          refine go_if_eq (tgt := 73) dX3_ruleLine_66 (by decide) (fun c66 => absurd c66 (by decide)) (fun c66 => ?_)
          refine go_iconst (v := 1) dX3_ruleLine_69 rfl ?_
          refine go_goto (tgt := 74) dX3_ruleLine_70 (by decide) ?_
          refine go_ist3 dX3_ruleLine_74 rfl ?_
          refine go_iloadn dX3_ruleLine_75 rfl ?_
          refine go_if_ne (tgt := 121) dX3_ruleLine_76 (by decide) (fun c76 => ?_) (fun c76 => absurd c76 (by decide))
          refine go_iinc4 (c1 := 1) dX3_ruleLine_121 rfl rfl ?_
          rw [nI_1]
          refine go_goto (tgt := 30) dX3_ruleLine_124 (by decide) ?_
          skip
          refine go_iload dX3_ruleLine_30 rfl ?_
          refine go_sipush (v := 700) dX3_ruleLine_32 rfl ?_
          refine go_icmp_gt (tgt := 127) dX3_ruleLine_35 (by decide) (fun c35 => absurd c35 (nI_nlt (a := 700) (by omega) (by decide))) (fun c35 => ?_)
          refine go_iloadn dX3_ruleLine_38 rfl ?_
          refine go_if_ne (tgt := 127) dX3_ruleLine_39 (by decide) (fun c39 => ?_) (fun c39 => absurd c39 (by decide))
          exact go127
        · rw [if_neg y]
          have go74 : Go l (rmOf (d + 9) (0, 0)) mX3_ruleLine (hN h0) (Zm (0, 0) (fun v0 h1 => v0 = some (.int (if (yF (yRu2 b n sh Y (ruFin b n sh (rstB b n U)))).1 = 0 then 1 else 0)) ∧ CK h0 h1 c b n (yRu2 b n sh Y (ruFin b n sh (rstB b n U)))) noX) 73 [some (.ref 3), some (.ref r), some (.int (nI cl)), some (.int 0), some (.int (nI i))] [] g1 0 0 := by
            by_cases x : uQ (rstB b n U) = 0
            · rw [if_pos x] at bh
              obtain ⟨v1, v2⟩ := uv_B V z x
              have hsx : uS (rstB b n U) = nx b n (uS U) := sx_B x
              have nI2 := nextI _ x v1 v2 hsx
              refine go_iconst (v := 0) dX3_ruleLine_73 rfl ?_
              refine go_ist3 dX3_ruleLine_74 rfl ?_
              refine go_iloadn dX3_ruleLine_75 rfl ?_
              refine go_if_ne (tgt := 121) dX3_ruleLine_76 (by decide) (fun c76 => absurd rfl c76) (fun c76 => ?_)
              refine go_aloadn dX3_ruleLine_79 rfl ?_
              refine sg_getI dX3_ruleLine_80 fX3_203 rfl (rd_L rfl) hS ?_
              rw [e16]
              refine go_if_eq (tgt := 112) dX3_ruleLine_83 (by decide) (fun c83 => ?_) (fun c83 => absurd rfl c83)
              refine go_aloadn dX3_ruleLine_112 rfl ?_
              refine sg_rVi (M' := mX3_behindPart) ([]) dX3_ruleLine_113 lX3_213 vX3_behindPart (rd_L rfl) (by decide) rfl hS (bh _) rfl (Nat.le_of_ble_eq_true rfl) (Nat.zero_le _) (Nat.zero_le _) (fun g2 G2 => ?_)
              refine go_if_ne (tgt := 121) dX3_ruleLine_116 (by decide) (fun c116 => ?_) (fun c116 => absurd c116 (by decide))
              exact nI2 g2 (G2.2.1 x)
            · rw [if_neg x] at bh
              obtain ⟨u1, u2⟩ := uy_B x
              rw [fin_t x]
              have e : yRu2 b n sh Y (rstB b n U) = yFl Y (uS (rstB b n U)) (uY (rstB b n U)) := if_neg (by omega)
              rw [e, yFl_f, if_neg (by omega)]
              refine go_iconst (v := 0) dX3_ruleLine_73 rfl ?_
              refine go_ist3 dX3_ruleLine_74 rfl ?_
              refine go_iloadn dX3_ruleLine_75 rfl ?_
              refine go_if_ne (tgt := 121) dX3_ruleLine_76 (by decide) (fun c76 => absurd rfl c76) (fun c76 => ?_)
              refine go_aloadn dX3_ruleLine_79 rfl ?_
              refine sg_getI dX3_ruleLine_80 fX3_203 rfl (rd_L rfl) hS ?_
              rw [e16]
              refine go_if_eq (tgt := 112) dX3_ruleLine_83 (by decide) (fun c83 => ?_) (fun c83 => absurd rfl c83)
              refine go_aloadn dX3_ruleLine_112 rfl ?_
              refine sg_rVi (M' := mX3_behindPart) ([]) dX3_ruleLine_113 lX3_213 vX3_behindPart (rd_L rfl) (by decide) rfl hS (bh _) rfl (Nat.le_of_ble_eq_true rfl) (Nat.zero_le _) (Nat.zero_le _) (fun g2 G2 => ?_)
              refine go_if_ne (tgt := 121) dX3_ruleLine_116 (by decide) (fun c116 => absurd rfl c116) (fun c116 => ?_)
              refine go_iconst (v := 0) dX3_ruleLine_119 rfl ?_
              refine go_ireturn dX3_ruleLine_120 rfl rfl (Nat.zero_le _) (Nat.zero_le _) ?_
              exact ⟨rfl, F0.tr ((F1.sub (fun _ _ q => q.sc)).tr G2.1), fun q => absurd (show uY (rstB b n U) = 0 from q) (by omega), fun _ => G2.2.2 x⟩
          by_cases y0 : uE U = 0
          · rw [y0] at e14
            rw [if_neg (fun q => y ⟨y0, q⟩)] at isg
            refine go_aloadn dX3_ruleLine_46 rfl ?_
            refine sg_getI dX3_ruleLine_47 fX3_203 rfl (rd_L rfl) hS ?_
            rw [e16]
            refine go_if_ne (tgt := 73) dX3_ruleLine_50 (by decide) (fun c50 => absurd rfl c50) (fun c50 => ?_)
            refine go_aloadn dX3_ruleLine_53 rfl ?_
            refine sg_getI dX3_ruleLine_54 fX3_206 rfl (rd_L rfl) hS ?_
            rw [e14]
            refine go_if_ne (tgt := 73) dX3_ruleLine_57 (by decide) (fun c57 => absurd rfl c57) (fun c57 => ?_)
            refine go_aloadn dX3_ruleLine_60 rfl ?_
            refine go_bipush (v := 59) dX3_ruleLine_61 rfl ?_
            refine sg_cVi (M' := mX3_isSign) ([.int (nI 59)]) dX3_ruleLine_63 lX3_134 vX3_isSign (rd_L rfl) (by decide) rfl hS (isg _) rfl (Nat.le_of_ble_eq_true rfl) (Nat.zero_le _) (Nat.zero_le _) ?_
            refine go_if_eq (tgt := 73) dX3_ruleLine_66 (by decide) (fun c66 => ?_) (fun c66 => absurd rfl c66)
            exact go74
          · refine go_aloadn dX3_ruleLine_46 rfl ?_
            refine sg_getI dX3_ruleLine_47 fX3_203 rfl (rd_L rfl) hS ?_
            rw [e16]
            refine go_if_ne (tgt := 73) dX3_ruleLine_50 (by decide) (fun c50 => absurd rfl c50) (fun c50 => ?_)
            refine go_aloadn dX3_ruleLine_53 rfl ?_
            refine sg_getI dX3_ruleLine_54 fX3_206 rfl (rd_L rfl) hS ?_
            rw [e14]
            refine go_if_ne (tgt := 73) dX3_ruleLine_57 (by decide) (fun c57 => ?_) (fun c57 => absurd c57 (nI_ne0 (by omega) (by omega)))
            exact go74
      · rw [if_neg z]
        have z1 : uD U = 1 := by omega
        rw [z1] at e16
        have pt := fun d => r_part (l := l) (d := d) hS R1 hc hC K1 B hsh
        have go103 : Go l (rmOf (d + 9) (0, 0)) mX3_ruleLine (hN h0) (Zm (0, 0) (fun v0 h1 => v0 = some (.int (if (yF (yRu2 b n sh Y (ruFin b n sh (rstP b n sh U)))).1 = 0 then 1 else 0)) ∧ CK h0 h1 c b n (yRu2 b n sh Y (ruFin b n sh (rstP b n sh U)))) noX) 103 [some (.ref 3), some (.ref r), some (.int (nI cl)), some (.int 0), some (.int (nI i))] [.int (nI sh), .ref 3] g1 0 0 := by
          by_cases x : uQ (rstP b n sh U) = 0
          · rw [if_pos x] at pt
            obtain ⟨v1, v2⟩ := uv_P V hA z1 x
            have hsx : uS (rstP b n sh U) = nx b n (uS U) := sx_P x
            have nI2 := nextI _ x v1 v2 hsx
            refine sg_rVi (M' := mX3_part) ([.int (nI sh)]) dX3_ruleLine_103 lX3_209 vX3_part (rd_L rfl) (by decide) rfl hS (pt _) rfl (Nat.le_of_ble_eq_true rfl) (Nat.zero_le _) (Nat.zero_le _) (fun g2 G2 => ?_)
            refine go_if_eq (tgt := 119) dX3_ruleLine_106 (by decide) (fun c106 => absurd c106 (by decide)) (fun c106 => ?_)
            refine go_goto (tgt := 121) dX3_ruleLine_109 (by decide) ?_
            exact nI2 g2 (G2.2.1 x)
          · rw [if_neg x] at pt
            obtain ⟨u1, u2⟩ := uy_P x
            rw [fin_t x]
            have e : yRu2 b n sh Y (rstP b n sh U) = yFl Y (uS (rstP b n sh U)) (uY (rstP b n sh U)) := if_neg (by omega)
            rw [e, yFl_f, if_neg (by omega)]
            refine sg_rVi (M' := mX3_part) ([.int (nI sh)]) dX3_ruleLine_103 lX3_209 vX3_part (rd_L rfl) (by decide) rfl hS (pt _) rfl (Nat.le_of_ble_eq_true rfl) (Nat.zero_le _) (Nat.zero_le _) (fun g2 G2 => ?_)
            refine go_if_eq (tgt := 119) dX3_ruleLine_106 (by decide) (fun c106 => ?_) (fun c106 => absurd rfl c106)
            refine go_iconst (v := 0) dX3_ruleLine_119 rfl ?_
            refine go_ireturn dX3_ruleLine_120 rfl rfl (Nat.zero_le _) (Nat.zero_le _) ?_
            exact ⟨rfl, F0.tr ((F1.sub (fun _ _ q => q.sc)).tr G2.1), fun q => absurd (show uY (rstP b n sh U) = 0 from q) (by omega), fun _ => G2.2.2 x⟩
        have go95 : Go l (rmOf (d + 9) (0, 0)) mX3_ruleLine (hN h0) (Zm (0, 0) (fun v0 h1 => v0 = some (.int (if (yF (yRu2 b n sh Y (ruFin b n sh (rstP b n sh U)))).1 = 0 then 1 else 0)) ∧ CK h0 h1 c b n (yRu2 b n sh Y (ruFin b n sh (rstP b n sh U)))) noX) 95 [some (.ref 3), some (.ref r), some (.int (nI cl)), some (.int 0), some (.int (nI i))] [.ref (c + 10), .ref r, .ref 3] g1 0 0 := by
          refine go_acmp_ne (tgt := 102) dX3_ruleLine_95 (by decide) (by omega) (by omega) (fun c95 => ?_) (fun c95 => ?_)
          · have s0 : sh = 0 := by omega
            refine go_iconst (v := 0) dX3_ruleLine_102 rfl ?_
            rw [s0] at go103 ⊢
            exact go103
          · have s1 : sh = 1 := by omega
            refine go_iconst (v := 1) dX3_ruleLine_98 rfl ?_
            refine go_goto (tgt := 103) dX3_ruleLine_99 (by decide) ?_
            rw [s1] at go103 ⊢
            exact go103
        refine go_aloadn dX3_ruleLine_46 rfl ?_
        refine sg_getI dX3_ruleLine_47 fX3_203 rfl (rd_L rfl) hS ?_
        rw [e16]
        refine go_if_ne (tgt := 73) dX3_ruleLine_50 (by decide) (fun c50 => ?_) (fun c50 => absurd c50 (by decide))
        refine go_iconst (v := 0) dX3_ruleLine_73 rfl ?_
        refine go_ist3 dX3_ruleLine_74 rfl ?_
        refine go_iloadn dX3_ruleLine_75 rfl ?_
        refine go_if_ne (tgt := 121) dX3_ruleLine_76 (by decide) (fun c76 => absurd rfl c76) (fun c76 => ?_)
        refine go_aloadn dX3_ruleLine_79 rfl ?_
        refine sg_getI dX3_ruleLine_80 fX3_203 rfl (rd_L rfl) hS ?_
        rw [e16]
        refine go_if_eq (tgt := 112) dX3_ruleLine_83 (by decide) (fun c83 => absurd c83 (by decide)) (fun c83 => ?_)
        refine go_aloadn dX3_ruleLine_86 rfl ?_
        refine go_aloadn dX3_ruleLine_87 rfl ?_
        refine go_aloadn dX3_ruleLine_88 rfl ?_
        refine sg_getR dX3_ruleLine_89 fX3_29 rfl (rd_L rfl) hS hC ?_
        refine sg_getR dX3_ruleLine_92 fX3_120 rfl (ct_L hc) hS (ct_r14 hS hc) ?_
        exact go95
    refine go_iload dX3_ruleLine_30 rfl ?_
    refine go_sipush (v := 700) dX3_ruleLine_32 rfl ?_
    refine go_icmp_gt (tgt := 127) dX3_ruleLine_35 (by decide) (fun c35 => absurd c35 (nI_nlt (a := 700) (by omega) (by decide))) (fun c35 => ?_)
    refine go_iloadn dX3_ruleLine_38 rfl ?_
    refine go_if_ne (tgt := 127) dX3_ruleLine_39 (by decide) (fun c39 => absurd rfl c39) (fun c39 => ?_)
    refine go_aloadn dX3_ruleLine_42 rfl ?_
    refine sg_rV0 (M' := mX3_next) ([]) dX3_ruleLine_43 lX3_54 vX3_next (rd_L rfl) (by decide) rfl hS (nxt _) rfl (Nat.le_of_ble_eq_true rfl) (Nat.zero_le _) (Nat.zero_le _) (fun g1 G => ?_)
    exact go46 g1 G
theorem r_beginRule {l : Launch} {d c cl s : Nat} {h : Hp} (hS : St h) (hc : c = 6 ∨ c = 18) (hcl : hI h c 13 = nI cl) : Ey l (d + 1) mX3_beginRule [.ref 3] h none (fun g => Fz (Sr c cl) h g ∧ KU g c cl (ru0 s)) := by
  refine run_lv [some (.ref 3)] (go := ?_)
  have F1 : Fz (fun a k => a = 3 ∧ 13 ≤ k) h (uI (uI (uI (uI (uI h 3 13 0) 3 14 0) 3 15 0) 3 16 1) 3 17 1) := ((((Fz.rf.uI ⟨rfl, by decide⟩).uI ⟨rfl, by decide⟩).uI ⟨rfl, by decide⟩).uI ⟨rfl, by decide⟩).uI ⟨rfl, by decide⟩
  have fin : ∀ g, g = uI (uI (uI (uI (uI h 3 13 0) 3 14 0) 3 15 0) 3 16 1) 3 17 1 → Fz (Sr c cl) h g ∧ KU g c cl (ru0 s) := by
    intro g hg
    have F1 := F1
    rw [← hg] at F1
    refine ⟨F1.sub (fun a k q => Or.inl q), ⟨by rw [hg, hI_uI_ne (by omega), hI_uI_ne (by omega), hI_uI_ne (by omega), hI_uI_ne (by omega), hI_uI_eq]; rfl, fun i hi => absurd hi (Nat.not_lt_zero _), by rw [F1.I (by omega)]; exact hcl, fun j hj => absurd hj (Nat.not_lt_zero _)⟩, ?_, ?_, ?_, ?_⟩
    · rw [hg, hI_uI_ne (by omega), hI_uI_ne (by omega), hI_uI_ne (by omega), hI_uI_eq]; rfl
    · rw [hg, hI_uI_ne (by omega), hI_uI_ne (by omega), hI_uI_eq]; rfl
    · rw [hg, hI_uI_ne (by omega), hI_uI_eq]; rfl
    · rw [hg, hI_uI_eq]; rfl
  refine go_aloadn dX3_beginRule_0 rfl ?_
  refine go_iconst (v := 0) dX3_beginRule_1 rfl ?_
  refine sg_putI dX3_beginRule_2 fX3_224 rfl rfl (rd_L rfl) hS ?_
  refine go_aloadn dX3_beginRule_5 rfl ?_
  refine go_iconst (v := 0) dX3_beginRule_6 rfl ?_
  refine sg_putI dX3_beginRule_7 fX3_206 rfl rfl (rd_L rfl) hS ?_
  refine go_aloadn dX3_beginRule_10 rfl ?_
  refine go_iconst (v := 0) dX3_beginRule_11 rfl ?_
  refine sg_putI dX3_beginRule_12 fX3_227 rfl rfl (rd_L rfl) hS ?_
  refine go_aloadn dX3_beginRule_15 rfl ?_
  refine go_iconst (v := 1) dX3_beginRule_16 rfl ?_
  refine sg_putZ dX3_beginRule_17 fX3_203 rfl rfl (rd_L rfl) hS (Or.inr rfl) ?_
  refine go_aloadn dX3_beginRule_20 rfl ?_
  refine go_iconst (v := 1) dX3_beginRule_21 rfl ?_
  refine sg_putZ dX3_beginRule_22 fX3_230 rfl rfl (rd_L rfl) hS (Or.inr rfl) ?_
  refine go_return dX3_beginRule_25 rfl (Nat.zero_le _) (Nat.zero_le _) ?_
  exact ⟨rfl, fin _ rfl⟩
