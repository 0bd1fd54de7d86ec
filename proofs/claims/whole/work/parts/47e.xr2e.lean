set_option maxRecDepth 100000 in
set_option maxHeartbeats 4000000 in
theorem c_X8_fault {B : Bs} {w m : Wd}  (hM : RM w m) (hp : 0 ≤ w 18 1 ∧ w 18 1 ≤ 60) : Sp (GM B) 3 yX8_fault cX8_fault 1 (Option.some FieldType.int) [.ref (ga (GM B) (0))] m (pI (rdT w m) ((scw w).1)) := by
  refine Sp.of (by decide) (Nat.le_of_ble_eq_true rfl) (fun X F => ?_)
  show Jw (GM B) X _ 0 [some (.ref (ga (GM B) (0)))] [] m
  refine jr_aload_n F dX8_fault_0 rfl ?_
  refine jr_vVx F dX8_fault_1 cv_X8_157 (c_X8_readText hM (by omega)) (Nat.le_of_ble_eq_true rfl) rfl rfl rfl rfl (Nat.le_of_ble_eq_true rfl) (Nat.le_of_ble_eq_true rfl) rfl (Nat.le_of_ble_eq_true rfl) (fun w1 e1 => ?_)
  refine jr_aload_n F dX8_fault_4 rfl ?_
  refine jr_getIx F (scw w).1 dX8_fault_5 fg_X8_150 (Nat.le_of_ble_eq_true rfl) rfl rfl (by subst e1; rfl) (fun q5 => ?_)
  exact jr_iret F dX8_fault_8 (pI_of (by first | rfl | omega) (by subst e1; first | rfl | omega))

