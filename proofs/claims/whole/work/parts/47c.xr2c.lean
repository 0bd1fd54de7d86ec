def nxm (s c d : Int) : Int := if tnx s c d = 9 then -1 else tnx s c d
theorem nxm_y {s c d x : Int} (h : tnx s c d = x) (hx : ¬ x = 9) : x = nxm s c d := by unfold nxm; rw [h, if_neg hx]
theorem nxm_n {s c d : Int} (h : tnx s c d = 9) : -1 = nxm s c d := by unfold nxm; rw [h, if_pos rfl]

set_option maxRecDepth 100000 in
set_option maxHeartbeats 4000000 in
theorem c_X8_next {B : Bs} {m : Wd} {s c d : Int} (hs : 0 ≤ s ∧ s ≤ 8) (hc : inR c) (hd : inR d) : Sp (GM B) 1 yX8_next cX8_next 5 (Option.some FieldType.int) [.ref (ga (GM B) (0)), iv (s), iv (c), iv (d)] m (pI m (nxm s c d)) := by
  refine Sp.of (by decide) (Nat.le_of_ble_eq_true rfl) (fun X F => ?_)
  show Jw (GM B) X _ 0 [some (.ref (ga (GM B) (0))), some (iv (s)), some (iv (c)), some (iv (d))] [] m
  refine jr_iload_n F dX8_next_0 rfl ?_
  refine jr_bipush F dX8_next_1 (by decide) ?_
  refine jr_bipush F dX8_next_3 (by decide) ?_
  refine jr_sI F dX8_next_5 cs_X8_88 (c_X8_lies (by omega) (by omega) (by omega)) rfl (Nat.le_of_ble_eq_true rfl) (Nat.le_of_ble_eq_true rfl) rfl (Nat.le_of_ble_eq_true rfl) ?_
  have dg : bi (48 ≤ c ∧ c ≤ 57) = 0 ↔ ¬ (48 ≤ c ∧ c ≤ 57) := bi_eq0
  have dR := bi_01 (48 ≤ c ∧ c ≤ 57)
  refine jr_istore F dX8_next_8 (Nat.le_of_ble_eq_true rfl) rfl ?_
  refine jr_iload_n F dX8_next_10 rfl ?_
  rcases (show s = 0 ∨ s = 1 ∨ s = 2 ∨ s = 3 ∨ s = 4 ∨ s = 5 ∨ s = 6 ∨ (s < 0 ∨ 6 < s) by omega) with c11 | c11 | c11 | c11 | c11 | c11 | c11 | c11
  · refine jr_tsIn (tgt := 52) F (0) dX8_next_11 c11 (by omega) (by omega) rfl (by decide) (by omega) ?_
    refine jr_iload_n F dX8_next_52 rfl ?_
    refine jr_bipush F dX8_next_53 (by decide) ?_
    refine jr_icmp_eq (tgt := 64) F dX8_next_55 (by decide) (fun c55 => ?_) (fun c55 => ?_) (by omega) (by omega)
    · skip
      refine jr_iconst F dX8_next_64 ?_
      refine jr_goto (tgt := 69) F dX8_next_65 (by decide) ?_
      exact jr_iret F dX8_next_69 (pI_of (nxm_y (by unfold tnx tnf; (repeat' split) <;> omega) (by omega)) rfl)
    · skip
      refine jr_iload_n F dX8_next_58 rfl ?_
      refine jr_bipush F dX8_next_59 (by decide) ?_
      refine jr_icmp_ne (tgt := 68) F dX8_next_61 (by decide) (fun c61 => ?_) (fun c61 => ?_) (by omega) (by omega)
      · skip
        refine jr_iconst F dX8_next_68 ?_
        exact jr_iret F dX8_next_69 (pI_of (nxm_n (by unfold tnx tnf; (repeat' split) <;> omega)) rfl)
      · skip
        refine jr_iconst F dX8_next_64 ?_
        refine jr_goto (tgt := 69) F dX8_next_65 (by decide) ?_
        exact jr_iret F dX8_next_69 (pI_of (nxm_y (by unfold tnx tnf; (repeat' split) <;> omega) (by omega)) rfl)
  · refine jr_tsIn (tgt := 70) F (1) dX8_next_11 c11 (by omega) (by omega) rfl (by decide) (by omega) ?_
    refine jr_iload_n F dX8_next_70 rfl ?_
    refine jr_bipush F dX8_next_71 (by decide) ?_
    refine jr_icmp_ne (tgt := 80) F dX8_next_73 (by decide) (fun c73 => ?_) (fun c73 => ?_) (by omega) (by omega)
    · skip
      refine jr_iconst F dX8_next_80 ?_
      exact jr_iret F dX8_next_81 (pI_of (nxm_n (by unfold tnx tnf; (repeat' split) <;> omega)) rfl)
    · skip
      refine jr_iconst F dX8_next_76 ?_
      refine jr_goto (tgt := 81) F dX8_next_77 (by decide) ?_
      exact jr_iret F dX8_next_81 (pI_of (nxm_y (by unfold tnx tnf; (repeat' split) <;> omega) (by omega)) rfl)
  · refine jr_tsIn (tgt := 82) F (2) dX8_next_11 c11 (by omega) (by omega) rfl (by decide) (by omega) ?_
    refine jr_iload_n F dX8_next_82 rfl ?_
    refine jr_bipush F dX8_next_83 (by decide) ?_
    refine jr_icmp_eq (tgt := 94) F dX8_next_85 (by decide) (fun c85 => ?_) (fun c85 => ?_) (by omega) (by omega)
    · skip
      refine jr_iconst F dX8_next_94 ?_
      refine jr_goto (tgt := 99) F dX8_next_95 (by decide) ?_
      exact jr_iret F dX8_next_99 (pI_of (nxm_y (by unfold tnx tnf; (repeat' split) <;> omega) (by omega)) rfl)
    · skip
      refine jr_iload_n F dX8_next_88 rfl ?_
      refine jr_bipush F dX8_next_89 (by decide) ?_
      refine jr_icmp_ne (tgt := 98) F dX8_next_91 (by decide) (fun c91 => ?_) (fun c91 => ?_) (by omega) (by omega)
      · skip
        refine jr_iconst F dX8_next_98 ?_
        exact jr_iret F dX8_next_99 (pI_of (nxm_n (by unfold tnx tnf; (repeat' split) <;> omega)) rfl)
      · skip
        refine jr_iconst F dX8_next_94 ?_
        refine jr_goto (tgt := 99) F dX8_next_95 (by decide) ?_
        exact jr_iret F dX8_next_99 (pI_of (nxm_y (by unfold tnx tnf; (repeat' split) <;> omega) (by omega)) rfl)
  · refine jr_tsIn (tgt := 100) F (3) dX8_next_11 c11 (by omega) (by omega) rfl (by decide) (by omega) ?_
    refine jr_iload_n F dX8_next_100 rfl ?_
    refine jr_bipush F dX8_next_101 (by decide) ?_
    refine jr_icmp_ne (tgt := 110) F dX8_next_103 (by decide) (fun c103 => ?_) (fun c103 => ?_) (by omega) (by omega)
    · skip
      refine jr_iconst F dX8_next_110 ?_
      exact jr_iret F dX8_next_111 (pI_of (nxm_n (by unfold tnx tnf; (repeat' split) <;> omega)) rfl)
    · skip
      refine jr_iconst F dX8_next_106 ?_
      refine jr_goto (tgt := 111) F dX8_next_107 (by decide) ?_
      exact jr_iret F dX8_next_111 (pI_of (nxm_y (by unfold tnx tnf; (repeat' split) <;> omega) (by omega)) rfl)
  · refine jr_tsIn (tgt := 112) F (4) dX8_next_11 c11 (by omega) (by omega) rfl (by decide) (by omega) ?_
    refine jr_iload_n F dX8_next_112 rfl ?_
    refine jr_bipush F dX8_next_113 (by decide) ?_
    refine jr_icmp_eq (tgt := 124) F dX8_next_115 (by decide) (fun c115 => ?_) (fun c115 => ?_) (by omega) (by omega)
    · skip
      refine jr_iconst F dX8_next_124 ?_
      refine jr_goto (tgt := 140) F dX8_next_125 (by decide) ?_
      exact jr_iret F dX8_next_140 (pI_of (nxm_y (by unfold tnx tnf; (repeat' split) <;> omega) (by omega)) rfl)
    · skip
      refine jr_iload_n F dX8_next_118 rfl ?_
      refine jr_bipush F dX8_next_119 (by decide) ?_
      refine jr_icmp_ne (tgt := 128) F dX8_next_121 (by decide) (fun c121 => ?_) (fun c121 => ?_) (by omega) (by omega)
      · skip
        refine jr_iload_n F dX8_next_128 rfl ?_
        refine jr_sI F dX8_next_129 cs_X8_143 (c_X8_isName (by omega)) rfl (Nat.le_of_ble_eq_true rfl) (Nat.le_of_ble_eq_true rfl) rfl (Nat.le_of_ble_eq_true rfl) ?_
        refine jr_ifeq_b (tgt := 139) F dX8_next_132 (by decide) (fun c132 => ?_) (fun c132 => ?_)
        · skip
          refine jr_iconst F dX8_next_139 ?_
          exact jr_iret F dX8_next_140 (pI_of (nxm_n (by unfold tnx tnf; (repeat' split) <;> omega)) rfl)
        · skip
          refine jr_iconst F dX8_next_135 ?_
          refine jr_goto (tgt := 140) F dX8_next_136 (by decide) ?_
          exact jr_iret F dX8_next_140 (pI_of (nxm_y (by unfold tnx tnf; (repeat' split) <;> omega) (by omega)) rfl)
      · skip
        refine jr_iconst F dX8_next_124 ?_
        refine jr_goto (tgt := 140) F dX8_next_125 (by decide) ?_
        exact jr_iret F dX8_next_140 (pI_of (nxm_y (by unfold tnx tnf; (repeat' split) <;> omega) (by omega)) rfl)
  · refine jr_tsIn (tgt := 141) F (5) dX8_next_11 c11 (by omega) (by omega) rfl (by decide) (by omega) ?_
    refine jr_iload_n F dX8_next_141 rfl ?_
    refine jr_bipush F dX8_next_142 (by decide) ?_
    refine jr_bipush F dX8_next_144 (by decide) ?_
    refine jr_sI F dX8_next_146 cs_X8_88 (c_X8_lies (by omega) (by omega) (by omega)) rfl (Nat.le_of_ble_eq_true rfl) (Nat.le_of_ble_eq_true rfl) rfl (Nat.le_of_ble_eq_true rfl) ?_
    refine jr_ifeq_b (tgt := 157) F dX8_next_149 (by decide) (fun c149 => ?_) (fun c149 => ?_)
    · skip
      refine jr_iconst F dX8_next_157 ?_
      exact jr_iret F dX8_next_158 (pI_of (nxm_n (by unfold tnx tnf; (repeat' split) <;> omega)) rfl)
    · skip
      refine jr_bipush F dX8_next_152 (by decide) ?_
      refine jr_goto (tgt := 158) F dX8_next_154 (by decide) ?_
      exact jr_iret F dX8_next_158 (pI_of (nxm_y (by unfold tnx tnf; (repeat' split) <;> omega) (by omega)) rfl)
  · refine jr_tsIn (tgt := 159) F (6) dX8_next_11 c11 (by omega) (by omega) rfl (by decide) (by omega) ?_
    refine jr_iload F dX8_next_159 rfl ?_
    refine jr_if_eq (tgt := 169) F dX8_next_161 (by decide) (fun c161 => ?_) (fun c161 => ?_) (by omega)
    · skip
      refine jr_iconst F dX8_next_169 ?_
      exact jr_iret F dX8_next_170 (pI_of (nxm_n (by unfold tnx tnf; (repeat' split) <;> omega)) rfl)
    · skip
      refine jr_bipush F dX8_next_164 (by decide) ?_
      refine jr_goto (tgt := 170) F dX8_next_166 (by decide) ?_
      exact jr_iret F dX8_next_170 (pI_of (nxm_y (by unfold tnx tnf; (repeat' split) <;> omega) (by omega)) rfl)
  · refine jr_tsOut (tgt := 171) F dX8_next_11 c11 (by decide) (by omega) ?_
    refine jr_iload_n F dX8_next_171 rfl ?_
    refine jr_bipush F dX8_next_172 (by decide) ?_
    refine jr_icmp_ne (tgt := 185) F dX8_next_174 (by decide) (fun c174 => ?_) (fun c174 => ?_) (by omega) (by omega)
    · skip
      refine jr_iload_n F dX8_next_185 rfl ?_
      refine jr_bipush F dX8_next_186 (by decide) ?_
      refine jr_icmp_eq (tgt := 197) F dX8_next_188 (by decide) (fun c188 => ?_) (fun c188 => ?_) (by omega) (by omega)
      · skip
        refine jr_iconst F dX8_next_197 ?_
        refine jr_goto (tgt := 217) F dX8_next_198 (by decide) ?_
        exact jr_iret F dX8_next_217 (pI_of (nxm_y (by unfold tnx tnf; (repeat' split) <;> omega) (by omega)) rfl)
      · skip
        refine jr_iload_n F dX8_next_191 rfl ?_
        refine jr_bipush F dX8_next_192 (by decide) ?_
        refine jr_icmp_ne (tgt := 201) F dX8_next_194 (by decide) (fun c194 => ?_) (fun c194 => ?_) (by omega) (by omega)
        · skip
          refine jr_iload_n F dX8_next_201 rfl ?_
          refine jr_bipush F dX8_next_202 (by decide) ?_
          refine jr_icmp_ne (tgt := 216) F dX8_next_204 (by decide) (fun c204 => ?_) (fun c204 => ?_) (by omega) (by omega)
          · skip
            refine jr_iconst F dX8_next_216 ?_
            exact jr_iret F dX8_next_217 (pI_of (nxm_n (by unfold tnx tnf; (repeat' split) <;> omega)) rfl)
          · skip
            refine jr_iload_n F dX8_next_207 rfl ?_
            refine jr_if_le (tgt := 216) F dX8_next_208 (by decide) (fun c208 => ?_) (fun c208 => ?_) (by omega)
            · skip
              refine jr_iconst F dX8_next_216 ?_
              exact jr_iret F dX8_next_217 (pI_of (nxm_n (by unfold tnx tnf; (repeat' split) <;> omega)) rfl)
            · skip
              refine jr_bipush F dX8_next_211 (by decide) ?_
              refine jr_goto (tgt := 217) F dX8_next_213 (by decide) ?_
              exact jr_iret F dX8_next_217 (pI_of (nxm_y (by unfold tnx tnf; (repeat' split) <;> omega) (by omega)) rfl)
        · skip
          refine jr_iconst F dX8_next_197 ?_
          refine jr_goto (tgt := 217) F dX8_next_198 (by decide) ?_
          exact jr_iret F dX8_next_217 (pI_of (nxm_y (by unfold tnx tnf; (repeat' split) <;> omega) (by omega)) rfl)
    · skip
      refine jr_iload F dX8_next_177 rfl ?_
      refine jr_if_eq (tgt := 185) F dX8_next_179 (by decide) (fun c179 => ?_) (fun c179 => ?_) (by omega)
      · skip
        refine jr_iload_n F dX8_next_185 rfl ?_
        refine jr_bipush F dX8_next_186 (by decide) ?_
        refine jr_icmp_eq (tgt := 197) F dX8_next_188 (by decide) (fun c188 => ?_) (fun c188 => ?_) (by omega) (by omega)
        · skip
          refine jr_iconst F dX8_next_197 ?_
          refine jr_goto (tgt := 217) F dX8_next_198 (by decide) ?_
          exact jr_iret F dX8_next_217 (pI_of (nxm_y (by unfold tnx tnf; (repeat' split) <;> omega) (by omega)) rfl)
        · skip
          refine jr_iload_n F dX8_next_191 rfl ?_
          refine jr_bipush F dX8_next_192 (by decide) ?_
          refine jr_icmp_ne (tgt := 201) F dX8_next_194 (by decide) (fun c194 => ?_) (fun c194 => ?_) (by omega) (by omega)
          · skip
            refine jr_iload_n F dX8_next_201 rfl ?_
            refine jr_bipush F dX8_next_202 (by decide) ?_
            refine jr_icmp_ne (tgt := 216) F dX8_next_204 (by decide) (fun c204 => ?_) (fun c204 => ?_) (by omega) (by omega)
            · skip
              refine jr_iconst F dX8_next_216 ?_
              exact jr_iret F dX8_next_217 (pI_of (nxm_n (by unfold tnx tnf; (repeat' split) <;> omega)) rfl)
            · skip
              refine jr_iload_n F dX8_next_207 rfl ?_
              refine jr_if_le (tgt := 216) F dX8_next_208 (by decide) (fun c208 => ?_) (fun c208 => ?_) (by omega)
              · skip
                refine jr_iconst F dX8_next_216 ?_
                exact jr_iret F dX8_next_217 (pI_of (nxm_n (by unfold tnx tnf; (repeat' split) <;> omega)) rfl)
              · skip
                refine jr_bipush F dX8_next_211 (by decide) ?_
                refine jr_goto (tgt := 217) F dX8_next_213 (by decide) ?_
                exact jr_iret F dX8_next_217 (pI_of (nxm_y (by unfold tnx tnf; (repeat' split) <;> omega) (by omega)) rfl)
          · skip
            refine jr_iconst F dX8_next_197 ?_
            refine jr_goto (tgt := 217) F dX8_next_198 (by decide) ?_
            exact jr_iret F dX8_next_217 (pI_of (nxm_y (by unfold tnx tnf; (repeat' split) <;> omega) (by omega)) rfl)
      · skip
        refine jr_bipush F dX8_next_182 (by decide) ?_
        exact jr_iret F dX8_next_184 (pI_of (nxm_y (by unfold tnx tnf; (repeat' split) <;> omega) (by omega)) rfl)

