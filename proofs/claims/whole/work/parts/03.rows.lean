theorem iv_tdiv {a b : Int} (ha : inR a) (hb : inR b) : Int32.ofInt (a.tdiv b) = Int32.ofInt a / Int32.ofInt b := Int32.ofInt_tdiv (by rw [iv_min]; exact ha.1) (by rw [iv_max]; exact ha.2) (by rw [iv_min]; exact hb.1) (by rw [iv_max]; exact hb.2)
section JR
variable {G : Gc} {X : Xc} {own : String} {cc : ByteArray} {nL d : Nat} {ret : Option FieldType} {post : Option Value → Wd → Prop} {pc : Nat} {lv : List (Option Value)} {rest : List Value} {w : Wd}
theorem jr_iconst (F : Fx G X own cc nL d ret) {n : Int} (hd : decode cc pc = .ok (.iconst n, 1))
    (k : Jw G X post (pc + 1) lv (iv n :: rest) w) : Jw G X post pc lv rest w := by
  intro H locs ls hP hD hS hO hl
  exact lv_iconst F.1 F.2.1 hd rfl (k H locs ls hP hD hS hO hl)
theorem jr_bipush (F : Fx G X own cc nL d ret) {n : Int} (hd : decode cc pc = .ok (.bipush n, 2)) (hv : (Int8.ofInt n).toInt32 = Int32.ofInt n)
    (k : Jw G X post (pc + 2) lv (iv n :: rest) w) : Jw G X post pc lv rest w := by
  intro H locs ls hP hD hS hO hl
  exact lv_bipush F.1 F.2.1 hd hv (k H locs ls hP hD hS hO hl)
theorem jr_sipush (F : Fx G X own cc nL d ret) {n : Int} (hd : decode cc pc = .ok (.sipush n, 3)) (hv : (Int16.ofInt n).toInt32 = Int32.ofInt n)
    (k : Jw G X post (pc + 3) lv (iv n :: rest) w) : Jw G X post pc lv rest w := by
  intro H locs ls hP hD hS hO hl
  exact lv_sipush F.1 F.2.1 hd hv (k H locs ls hP hD hS hO hl)
theorem jr_lconst (F : Fx G X own cc nL d ret) {n : Fin 2} {z : Int} (hd : decode cc pc = .ok (.lconst n, 1)) (hv : Int64.ofNat (n : Nat) = Int64.ofInt z)
    (k : Jw G X post (pc + 1) lv (lq z :: rest) w) : Jw G X post pc lv rest w := by
  intro H locs ls hP hD hS hO hl
  exact lv_lconst F.1 F.2.1 hd hv (k H locs ls hP hD hS hO hl)
theorem jr_ldc (F : Fx G X own cc nL d ret) {i : Nat} {z : Int} (hd : decode cc pc = .ok (.ldc i, 2)) (hw : Cond.constant own i (Int32.ofInt z) ∈ tb0)
    (k : Jw G X post (pc + 2) lv (iv z :: rest) w) : Jw G X post pc lv rest w := by
  intro H locs ls hP hD hS hO hl
  exact lv_ldc F.1 F.2.1 F.2.2.2.1 (F.2.2.2.2.1 _ hw) hd (k H locs ls hP hD hS hO hl)
theorem jr_ldcw (F : Fx G X own cc nL d ret) {i : Nat} {z : Int} (hd : decode cc pc = .ok (.ldc_w i, 3)) (hw : Cond.constant own i (Int32.ofInt z) ∈ tb0)
    (k : Jw G X post (pc + 3) lv (iv z :: rest) w) : Jw G X post pc lv rest w := by
  intro H locs ls hP hD hS hO hl
  exact lv_ldcw F.1 F.2.1 F.2.2.2.1 (F.2.2.2.2.1 _ hw) hd (k H locs ls hP hD hS hO hl)
theorem jr_ldc2 (F : Fx G X own cc nL d ret) {i : Nat} {z : Int} (hd : decode cc pc = .ok (.ldc2_w i, 3)) (hw : Cond.constantLong own i (Int64.ofInt z) ∈ tb0)
    (k : Jw G X post (pc + 3) lv (lq z :: rest) w) : Jw G X post pc lv rest w := by
  intro H locs ls hP hD hS hO hl
  exact lv_ldc2 F.1 F.2.1 F.2.2.2.1 (F.2.2.2.2.1 _ hw) hd (k H locs ls hP hD hS hO hl)
theorem jr_iload_n (F : Fx G X own cc nL d ret) {i : Fin 4} {x : Int32} (hd : decode cc pc = .ok (.iload_n i, 1)) (hl : lg lv (i : Nat) = some (.int x))
    (k : Jw G X post (pc + 1) lv (.int x :: rest) w) : Jw G X post pc lv rest w := by
  intro H locs ls hP hD hS hO hl'
  exact lv_iload_n F.1 F.2.1 hd rfl (hl'.at hl) (k H locs ls hP hD hS hO hl')
theorem jr_iload (F : Fx G X own cc nL d ret) {i : Nat} {x : Int32} (hd : decode cc pc = .ok (.iload i, 2)) (hl : lg lv i = some (.int x))
    (k : Jw G X post (pc + 2) lv (.int x :: rest) w) : Jw G X post pc lv rest w := by
  intro H locs ls hP hD hS hO hl'
  exact lv_iload F.1 F.2.1 hd (hl'.at hl) (k H locs ls hP hD hS hO hl')
theorem jr_lload_n (F : Fx G X own cc nL d ret) {i : Fin 4} {x : Int64} (hd : decode cc pc = .ok (.lload_n i, 1)) (hl : lg lv (i : Nat) = some (.long x))
    (k : Jw G X post (pc + 1) lv (.long x :: rest) w) : Jw G X post pc lv rest w := by
  intro H locs ls hP hD hS hO hl'
  exact lv_lload_n F.1 F.2.1 hd rfl (hl'.at hl) (k H locs ls hP hD hS hO hl')
theorem jr_lload (F : Fx G X own cc nL d ret) {i : Nat} {x : Int64} (hd : decode cc pc = .ok (.lload i, 2)) (hl : lg lv i = some (.long x))
    (k : Jw G X post (pc + 2) lv (.long x :: rest) w) : Jw G X post pc lv rest w := by
  intro H locs ls hP hD hS hO hl'
  exact lv_lload F.1 F.2.1 hd (hl'.at hl) (k H locs ls hP hD hS hO hl')
theorem jr_aload_n (F : Fx G X own cc nL d ret) {i : Fin 4} {x : Nat} (hd : decode cc pc = .ok (.aload_n i, 1)) (hl : lg lv (i : Nat) = some (.ref x))
    (k : Jw G X post (pc + 1) lv (.ref x :: rest) w) : Jw G X post pc lv rest w := by
  intro H locs ls hP hD hS hO hl'
  exact lv_aload_n F.1 F.2.1 hd rfl (hl'.at hl) (k H locs ls hP hD hS hO hl')
theorem jr_aload (F : Fx G X own cc nL d ret) {i : Nat} {x : Nat} (hd : decode cc pc = .ok (.aload i, 2)) (hl : lg lv i = some (.ref x))
    (k : Jw G X post (pc + 2) lv (.ref x :: rest) w) : Jw G X post pc lv rest w := by
  intro H locs ls hP hD hS hO hl'
  exact lv_aload F.1 F.2.1 hd (hl'.at hl) (k H locs ls hP hD hS hO hl')
theorem jr_istore_n (F : Fx G X own cc nL d ret) {i : Fin 4} {x : Int32} (hd : decode cc pc = .ok (.istore_n i, 1)) (hn : (i : Nat) < nL) (ho : okst lv (i : Nat) = true)
    (k : Jw G X post (pc + 1) (lst lv (i : Nat) (some (.int x))) rest w) : Jw G X post pc lv (.int x :: rest) w := by
  intro H locs ls hP hD hS hO hl
  exact lv_istore_n F.1 F.2.1 hd rfl hl.has (by rw [F.2.2.1]; exact hn) rfl (fun ls' h' => k H locs ls' hP hD hS hO (lh_st1 ho h'))
theorem jr_istore (F : Fx G X own cc nL d ret) {i : Nat} {x : Int32} (hd : decode cc pc = .ok (.istore i, 2)) (hn : i < nL) (ho : okst lv i = true)
    (k : Jw G X post (pc + 2) (lst lv i (some (.int x))) rest w) : Jw G X post pc lv (.int x :: rest) w := by
  intro H locs ls hP hD hS hO hl
  exact lv_istore F.1 F.2.1 hd hl.has (by rw [F.2.2.1]; exact hn) rfl (fun ls' h' => k H locs ls' hP hD hS hO (lh_st1 ho h'))
theorem jr_astore_n (F : Fx G X own cc nL d ret) {i : Fin 4} {x : Nat} (hd : decode cc pc = .ok (.astore_n i, 1)) (hn : (i : Nat) < nL) (ho : okst lv (i : Nat) = true)
    (k : Jw G X post (pc + 1) (lst lv (i : Nat) (some (.ref x))) rest w) : Jw G X post pc lv (.ref x :: rest) w := by
  intro H locs ls hP hD hS hO hl
  exact lv_astore_n F.1 F.2.1 hd rfl hl.has (by rw [F.2.2.1]; exact hn) rfl (fun ls' h' => k H locs ls' hP hD hS hO (lh_st1 ho h'))
theorem jr_astore (F : Fx G X own cc nL d ret) {i : Nat} {x : Nat} (hd : decode cc pc = .ok (.astore i, 2)) (hn : i < nL) (ho : okst lv i = true)
    (k : Jw G X post (pc + 2) (lst lv i (some (.ref x))) rest w) : Jw G X post pc lv (.ref x :: rest) w := by
  intro H locs ls hP hD hS hO hl
  exact lv_astore F.1 F.2.1 hd hl.has (by rw [F.2.2.1]; exact hn) rfl (fun ls' h' => k H locs ls' hP hD hS hO (lh_st1 ho h'))
theorem jr_lstore_n (F : Fx G X own cc nL d ret) {i : Fin 4} {x : Int64} (hd : decode cc pc = .ok (.lstore_n i, 1)) (hn : (i : Nat) + 1 < nL) (ho : okst lv (i : Nat) = true)
    (k : Jw G X post (pc + 1) (lst (lst lv ((i : Nat) + 1) none) (i : Nat) (some (.long x))) rest w) : Jw G X post pc lv (.long x :: rest) w := by
  intro H locs ls hP hD hS hO hl
  exact lv_lstore_n F.1 F.2.1 hd rfl hl.has (by rw [F.2.2.1]; exact hn) rfl (fun ls' h' => k H locs ls' hP hD hS hO (lh_st2 ho h'))
theorem jr_lstore (F : Fx G X own cc nL d ret) {i : Nat} {x : Int64} (hd : decode cc pc = .ok (.lstore i, 2)) (hn : i + 1 < nL) (ho : okst lv i = true)
    (k : Jw G X post (pc + 2) (lst (lst lv (i + 1) none) i (some (.long x))) rest w) : Jw G X post pc lv (.long x :: rest) w := by
  intro H locs ls hP hD hS hO hl
  exact lv_lstore F.1 F.2.1 hd hl.has (by rw [F.2.2.1]; exact hn) rfl (fun ls' h' => k H locs ls' hP hD hS hO (lh_st2 ho h'))
theorem jr_iadd (F : Fx G X own cc nL d ret) {a b : Int} (hd : decode cc pc = .ok (.iadd, 1))
    (k : Jw G X post (pc + 1) lv (iv (a + b) :: rest) w) : Jw G X post pc lv (iv b :: iv a :: rest) w := by
  intro H locs ls hP hD hS hO hl
  have h := k H locs ls hP hD hS hO hl
  rw [iv, Int32.ofInt_add] at h
  exact lv_iadd F.1 F.2.1 hd h
theorem jr_isub (F : Fx G X own cc nL d ret) {a b : Int} (hd : decode cc pc = .ok (.isub, 1))
    (k : Jw G X post (pc + 1) lv (iv (a - b) :: rest) w) : Jw G X post pc lv (iv b :: iv a :: rest) w := by
  intro H locs ls hP hD hS hO hl
  have h := k H locs ls hP hD hS hO hl
  rw [iv, Int32.ofInt_sub] at h
  exact lv_isub F.1 F.2.1 hd h
theorem jr_imul (F : Fx G X own cc nL d ret) {a b : Int} (hd : decode cc pc = .ok (.imul, 1))
    (k : Jw G X post (pc + 1) lv (iv (a * b) :: rest) w) : Jw G X post pc lv (iv b :: iv a :: rest) w := by
  intro H locs ls hP hD hS hO hl
  have h := k H locs ls hP hD hS hO hl
  rw [iv, Int32.ofInt_mul] at h
  exact lv_imul F.1 F.2.1 hd h
theorem jr_ineg (F : Fx G X own cc nL d ret) {a : Int} (hd : decode cc pc = .ok (.ineg, 1))
    (k : Jw G X post (pc + 1) lv (iv (-a) :: rest) w) : Jw G X post pc lv (iv a :: rest) w := by
  intro H locs ls hP hD hS hO hl
  have h := k H locs ls hP hD hS hO hl
  rw [iv, Int32.ofInt_neg] at h
  exact lv_ineg F.1 F.2.1 hd h
theorem jr_ladd (F : Fx G X own cc nL d ret) {a b : Int} (hd : decode cc pc = .ok (.ladd, 1))
    (k : Jw G X post (pc + 1) lv (lq (a + b) :: rest) w) : Jw G X post pc lv (lq b :: lq a :: rest) w := by
  intro H locs ls hP hD hS hO hl
  have h := k H locs ls hP hD hS hO hl
  rw [lq, Int64.ofInt_add] at h
  exact lv_ladd F.1 F.2.1 hd h
theorem jr_lmul (F : Fx G X own cc nL d ret) {a b : Int} (hd : decode cc pc = .ok (.lmul, 1))
    (k : Jw G X post (pc + 1) lv (lq (a * b) :: rest) w) : Jw G X post pc lv (lq b :: lq a :: rest) w := by
  intro H locs ls hP hD hS hO hl
  have h := k H locs ls hP hD hS hO hl
  rw [lq, Int64.ofInt_mul] at h
  exact lv_lmul F.1 F.2.1 hd h
theorem jr_iand (F : Fx G X own cc nL d ret) {x y : Int32} (hd : decode cc pc = .ok (.iand, 1))
    (k : Jw G X post (pc + 1) lv (.int (x &&& y) :: rest) w) : Jw G X post pc lv (.int y :: .int x :: rest) w := by
  intro H locs ls hP hD hS hO hl
  exact lv_iand F.1 F.2.1 hd (k H locs ls hP hD hS hO hl)
theorem jr_ior (F : Fx G X own cc nL d ret) {x y : Int32} (hd : decode cc pc = .ok (.ior, 1))
    (k : Jw G X post (pc + 1) lv (.int (x ||| y) :: rest) w) : Jw G X post pc lv (.int y :: .int x :: rest) w := by
  intro H locs ls hP hD hS hO hl
  exact lv_ior F.1 F.2.1 hd (k H locs ls hP hD hS hO hl)
theorem jr_ixor (F : Fx G X own cc nL d ret) {x y : Int32} (hd : decode cc pc = .ok (.ixor, 1))
    (k : Jw G X post (pc + 1) lv (.int (x ^^^ y) :: rest) w) : Jw G X post pc lv (.int y :: .int x :: rest) w := by
  intro H locs ls hP hD hS hO hl
  exact lv_ixor F.1 F.2.1 hd (k H locs ls hP hD hS hO hl)
theorem jr_land (F : Fx G X own cc nL d ret) {x y : Int64} (hd : decode cc pc = .ok (.land, 1))
    (k : Jw G X post (pc + 1) lv (.long (x &&& y) :: rest) w) : Jw G X post pc lv (.long y :: .long x :: rest) w := by
  intro H locs ls hP hD hS hO hl
  exact lv_land F.1 F.2.1 hd (k H locs ls hP hD hS hO hl)
theorem jr_lor (F : Fx G X own cc nL d ret) {x y : Int64} (hd : decode cc pc = .ok (.lor, 1))
    (k : Jw G X post (pc + 1) lv (.long (x ||| y) :: rest) w) : Jw G X post pc lv (.long y :: .long x :: rest) w := by
  intro H locs ls hP hD hS hO hl
  exact lv_lor F.1 F.2.1 hd (k H locs ls hP hD hS hO hl)
theorem jr_lxor (F : Fx G X own cc nL d ret) {x y : Int64} (hd : decode cc pc = .ok (.lxor, 1))
    (k : Jw G X post (pc + 1) lv (.long (x ^^^ y) :: rest) w) : Jw G X post pc lv (.long y :: .long x :: rest) w := by
  intro H locs ls hP hD hS hO hl
  exact lv_lxor F.1 F.2.1 hd (k H locs ls hP hD hS hO hl)
theorem jr_top (F : Fx G X own cc nL d ret) {x : Int32} {z : Int} (hz : x = Int32.ofInt z)
    (k : Jw G X post pc lv (iv z :: rest) w) : Jw G X post pc lv (.int x :: rest) w := by
  intro H locs ls hP hD hS hO hl
  subst hz
  exact k H locs ls hP hD hS hO hl
theorem jr_topl (F : Fx G X own cc nL d ret) {x : Int64} {z : Int} (hz : x = Int64.ofInt z)
    (k : Jw G X post pc lv (lq z :: rest) w) : Jw G X post pc lv (.long x :: rest) w := by
  intro H locs ls hP hD hS hO hl
  subst hz
  exact k H locs ls hP hD hS hO hl
theorem jr_icmp_eq (F : Fx G X own cc nL d ret) {a b : Int} {off : Int} {tgt : Nat} (hd : decode cc pc = .ok (.if_icmp .eq off, 3)) (ht : (pc : Int) + off = (tgt : Int))
    (kt : a = b → Jw G X post tgt lv rest w) (kf : ¬ a = b → Jw G X post (pc + 3) lv rest w) (ha : inR a) (hb : inR b) : Jw G X post pc lv (iv b :: iv a :: rest) w := by
  intro H locs ls hP hD hS hO hl
  exact lv_icmp_eq F.1 F.2.1 hd ht (fun h => kt (by exact (iv_eq ha hb).mp h) H locs ls hP hD hS hO hl) (fun h => kf (by exact fun q => h ((iv_eq ha hb).mpr q)) H locs ls hP hD hS hO hl)
theorem jr_if_eq (F : Fx G X own cc nL d ret) {a : Int} {off : Int} {tgt : Nat} (hd : decode cc pc = .ok (.ifCond .eq off, 3)) (ht : (pc : Int) + off = (tgt : Int))
    (kt : a = 0 → Jw G X post tgt lv rest w) (kf : ¬ a = 0 → Jw G X post (pc + 3) lv rest w) (ha : inR a) : Jw G X post pc lv (iv a :: rest) w := by
  intro H locs ls hP hD hS hO hl
  exact lv_if_eq F.1 F.2.1 hd ht (fun h => kt (by rw [iv_zero] at h; exact (iv_eq ha (show inR 0 by omega)).mp h) H locs ls hP hD hS hO hl) (fun h => kf (by rw [iv_zero] at h; exact fun q => h ((iv_eq ha (show inR 0 by omega)).mpr q)) H locs ls hP hD hS hO hl)
theorem jr_icmp_ne (F : Fx G X own cc nL d ret) {a b : Int} {off : Int} {tgt : Nat} (hd : decode cc pc = .ok (.if_icmp .ne off, 3)) (ht : (pc : Int) + off = (tgt : Int))
    (kt : ¬ a = b → Jw G X post tgt lv rest w) (kf : a = b → Jw G X post (pc + 3) lv rest w) (ha : inR a) (hb : inR b) : Jw G X post pc lv (iv b :: iv a :: rest) w := by
  intro H locs ls hP hD hS hO hl
  exact lv_icmp_ne F.1 F.2.1 hd ht (fun h => kt (by exact fun q => h ((iv_eq ha hb).mpr q)) H locs ls hP hD hS hO hl) (fun h => kf (by exact (iv_eq ha hb).mp h) H locs ls hP hD hS hO hl)
theorem jr_if_ne (F : Fx G X own cc nL d ret) {a : Int} {off : Int} {tgt : Nat} (hd : decode cc pc = .ok (.ifCond .ne off, 3)) (ht : (pc : Int) + off = (tgt : Int))
    (kt : ¬ a = 0 → Jw G X post tgt lv rest w) (kf : a = 0 → Jw G X post (pc + 3) lv rest w) (ha : inR a) : Jw G X post pc lv (iv a :: rest) w := by
  intro H locs ls hP hD hS hO hl
  exact lv_if_ne F.1 F.2.1 hd ht (fun h => kt (by rw [iv_zero] at h; exact fun q => h ((iv_eq ha (show inR 0 by omega)).mpr q)) H locs ls hP hD hS hO hl) (fun h => kf (by rw [iv_zero] at h; exact (iv_eq ha (show inR 0 by omega)).mp h) H locs ls hP hD hS hO hl)
theorem jr_icmp_lt (F : Fx G X own cc nL d ret) {a b : Int} {off : Int} {tgt : Nat} (hd : decode cc pc = .ok (.if_icmp .lt off, 3)) (ht : (pc : Int) + off = (tgt : Int))
    (kt : a < b → Jw G X post tgt lv rest w) (kf : b ≤ a → Jw G X post (pc + 3) lv rest w) (ha : inR a) (hb : inR b) : Jw G X post pc lv (iv b :: iv a :: rest) w := by
  intro H locs ls hP hD hS hO hl
  exact lv_icmp_lt F.1 F.2.1 hd ht (fun h => kt (by exact (iv_lt ha hb).mp h) H locs ls hP hD hS hO hl) (fun h => kf (by exact Int.not_lt.mp (fun q => h ((iv_lt ha hb).mpr q))) H locs ls hP hD hS hO hl)
theorem jr_if_lt (F : Fx G X own cc nL d ret) {a : Int} {off : Int} {tgt : Nat} (hd : decode cc pc = .ok (.ifCond .lt off, 3)) (ht : (pc : Int) + off = (tgt : Int))
    (kt : a < 0 → Jw G X post tgt lv rest w) (kf : 0 ≤ a → Jw G X post (pc + 3) lv rest w) (ha : inR a) : Jw G X post pc lv (iv a :: rest) w := by
  intro H locs ls hP hD hS hO hl
  exact lv_if_lt F.1 F.2.1 hd ht (fun h => kt (by rw [iv_zero] at h; exact (iv_lt ha (show inR 0 by omega)).mp h) H locs ls hP hD hS hO hl) (fun h => kf (by rw [iv_zero] at h; exact Int.not_lt.mp (fun q => h ((iv_lt ha (show inR 0 by omega)).mpr q))) H locs ls hP hD hS hO hl)
theorem jr_icmp_ge (F : Fx G X own cc nL d ret) {a b : Int} {off : Int} {tgt : Nat} (hd : decode cc pc = .ok (.if_icmp .ge off, 3)) (ht : (pc : Int) + off = (tgt : Int))
    (kt : b ≤ a → Jw G X post tgt lv rest w) (kf : a < b → Jw G X post (pc + 3) lv rest w) (ha : inR a) (hb : inR b) : Jw G X post pc lv (iv b :: iv a :: rest) w := by
  intro H locs ls hP hD hS hO hl
  exact lv_icmp_ge F.1 F.2.1 hd ht (fun h => kt (by exact (iv_le hb ha).mp h) H locs ls hP hD hS hO hl) (fun h => kf (by exact Int.not_le.mp (fun q => h ((iv_le hb ha).mpr q))) H locs ls hP hD hS hO hl)
theorem jr_if_ge (F : Fx G X own cc nL d ret) {a : Int} {off : Int} {tgt : Nat} (hd : decode cc pc = .ok (.ifCond .ge off, 3)) (ht : (pc : Int) + off = (tgt : Int))
    (kt : 0 ≤ a → Jw G X post tgt lv rest w) (kf : a < 0 → Jw G X post (pc + 3) lv rest w) (ha : inR a) : Jw G X post pc lv (iv a :: rest) w := by
  intro H locs ls hP hD hS hO hl
  exact lv_if_ge F.1 F.2.1 hd ht (fun h => kt (by rw [iv_zero] at h; exact (iv_le (show inR 0 by omega) ha).mp h) H locs ls hP hD hS hO hl) (fun h => kf (by rw [iv_zero] at h; exact Int.not_le.mp (fun q => h ((iv_le (show inR 0 by omega) ha).mpr q))) H locs ls hP hD hS hO hl)
theorem jr_icmp_gt (F : Fx G X own cc nL d ret) {a b : Int} {off : Int} {tgt : Nat} (hd : decode cc pc = .ok (.if_icmp .gt off, 3)) (ht : (pc : Int) + off = (tgt : Int))
    (kt : b < a → Jw G X post tgt lv rest w) (kf : a ≤ b → Jw G X post (pc + 3) lv rest w) (ha : inR a) (hb : inR b) : Jw G X post pc lv (iv b :: iv a :: rest) w := by
  intro H locs ls hP hD hS hO hl
  exact lv_icmp_gt F.1 F.2.1 hd ht (fun h => kt (by exact (iv_lt hb ha).mp h) H locs ls hP hD hS hO hl) (fun h => kf (by exact Int.not_lt.mp (fun q => h ((iv_lt hb ha).mpr q))) H locs ls hP hD hS hO hl)
theorem jr_if_gt (F : Fx G X own cc nL d ret) {a : Int} {off : Int} {tgt : Nat} (hd : decode cc pc = .ok (.ifCond .gt off, 3)) (ht : (pc : Int) + off = (tgt : Int))
    (kt : 0 < a → Jw G X post tgt lv rest w) (kf : a ≤ 0 → Jw G X post (pc + 3) lv rest w) (ha : inR a) : Jw G X post pc lv (iv a :: rest) w := by
  intro H locs ls hP hD hS hO hl
  exact lv_if_gt F.1 F.2.1 hd ht (fun h => kt (by rw [iv_zero] at h; exact (iv_lt (show inR 0 by omega) ha).mp h) H locs ls hP hD hS hO hl) (fun h => kf (by rw [iv_zero] at h; exact Int.not_lt.mp (fun q => h ((iv_lt (show inR 0 by omega) ha).mpr q))) H locs ls hP hD hS hO hl)
theorem jr_icmp_le (F : Fx G X own cc nL d ret) {a b : Int} {off : Int} {tgt : Nat} (hd : decode cc pc = .ok (.if_icmp .le off, 3)) (ht : (pc : Int) + off = (tgt : Int))
    (kt : a ≤ b → Jw G X post tgt lv rest w) (kf : b < a → Jw G X post (pc + 3) lv rest w) (ha : inR a) (hb : inR b) : Jw G X post pc lv (iv b :: iv a :: rest) w := by
  intro H locs ls hP hD hS hO hl
  exact lv_icmp_le F.1 F.2.1 hd ht (fun h => kt (by exact (iv_le ha hb).mp h) H locs ls hP hD hS hO hl) (fun h => kf (by exact Int.not_le.mp (fun q => h ((iv_le ha hb).mpr q))) H locs ls hP hD hS hO hl)
theorem jr_if_le (F : Fx G X own cc nL d ret) {a : Int} {off : Int} {tgt : Nat} (hd : decode cc pc = .ok (.ifCond .le off, 3)) (ht : (pc : Int) + off = (tgt : Int))
    (kt : a ≤ 0 → Jw G X post tgt lv rest w) (kf : 0 < a → Jw G X post (pc + 3) lv rest w) (ha : inR a) : Jw G X post pc lv (iv a :: rest) w := by
  intro H locs ls hP hD hS hO hl
  exact lv_if_le F.1 F.2.1 hd ht (fun h => kt (by rw [iv_zero] at h; exact (iv_le ha (show inR 0 by omega)).mp h) H locs ls hP hD hS hO hl) (fun h => kf (by rw [iv_zero] at h; exact Int.not_le.mp (fun q => h ((iv_le ha (show inR 0 by omega)).mpr q))) H locs ls hP hD hS hO hl)
/-- a truth as a number -/
noncomputable def bi (P : Prop) : Int := @ite _ P (Classical.propDecidable P) 1 0
theorem bi_t {P : Prop} (h : P) : bi P = 1 := by unfold bi; rw [if_pos h]
theorem bi_f {P : Prop} (h : ¬ P) : bi P = 0 := by unfold bi; rw [if_neg h]
theorem bi_c {P Q : Prop} (h : P ↔ Q) : bi P = bi Q := by rw [propext h]
theorem bi_01 (P : Prop) : 0 ≤ bi P ∧ bi P ≤ 1 := (Classical.em P).elim (fun h => by rw [bi_t h]; omega) (fun h => by rw [bi_f h]; omega)
theorem bi_eq1 {P : Prop} : bi P = 1 ↔ P := ⟨fun h => Classical.byContradiction fun q => by rw [bi_f q] at h; omega, bi_t⟩
theorem bi_eq0 {P : Prop} : bi P = 0 ↔ ¬ P := ⟨fun h q => by rw [bi_t q] at h; omega, bi_f⟩
theorem jr_ifeq_b (F : Fx G X own cc nL d ret) {B : Prop} {off : Int} {tgt : Nat} (hd : decode cc pc = .ok (.ifCond .eq off, 3)) (ht : (pc : Int) + off = (tgt : Int))
    (kt : ¬ B → Jw G X post tgt lv rest w) (kf : B → Jw G X post (pc + 3) lv rest w) : Jw G X post pc lv (iv (bi B) :: rest) w :=
  jr_if_eq F hd ht (fun h => kt (bi_eq0.mp h)) (fun h => kf (Classical.byContradiction fun q => h (bi_f q))) (by have := bi_01 B; omega)
theorem jr_ifne_b (F : Fx G X own cc nL d ret) {B : Prop} {off : Int} {tgt : Nat} (hd : decode cc pc = .ok (.ifCond .ne off, 3)) (ht : (pc : Int) + off = (tgt : Int))
    (kt : B → Jw G X post tgt lv rest w) (kf : ¬ B → Jw G X post (pc + 3) lv rest w) : Jw G X post pc lv (iv (bi B) :: rest) w :=
  jr_if_ne F hd ht (fun h => kt (Classical.byContradiction fun q => h (bi_f q))) (fun h => kf (bi_eq0.mp h)) (by have := bi_01 B; omega)
theorem jr_goto (F : Fx G X own cc nL d ret) {off : Int} {tgt : Nat} (hd : decode cc pc = .ok (.goto off, 3)) (ht : (pc : Int) + off = (tgt : Int))
    (k : Jw G X post tgt lv rest w) : Jw G X post pc lv rest w := by
  intro H locs ls hP hD hS hO hl
  exact lv_goto F.1 F.2.1 hd ht (k H locs ls hP hD hS hO hl)
theorem jr_tsOut (F : Fx G X own cc nL d ret) {a dflt lo hi : Int} {offs : Array Int} {len tgt : Nat} (hd : decode cc pc = .ok (.tableswitch dflt lo hi offs, len)) (h : a < lo ∨ hi < a) (ht : (pc : Int) + dflt = (tgt : Int)) (ha : inR a)
    (k : Jw G X post tgt lv rest w) : Jw G X post pc lv (iv a :: rest) w := by
  intro H locs ls hP hD hS hO hl
  exact lv_tableOut F.1 F.2.1 hd (by rw [iv_toInt ha]; exact h) ht (k H locs ls hP hD hS hO hl)
theorem jr_tsIn (F : Fx G X own cc nL d ret) {a dflt lo hi off : Int} {offs : Array Int} {len tgt : Nat} (v : Int) (hd : decode cc pc = .ok (.tableswitch dflt lo hi offs, len)) (h : a = v) (h1 : lo ≤ v) (h2 : v ≤ hi) (ho : offs[(v - lo).toNat]? = some off) (ht : (pc : Int) + off = (tgt : Int)) (ha : inR v)
    (k : Jw G X post tgt lv rest w) : Jw G X post pc lv (iv a :: rest) w := by
  intro H locs ls hP hD hS hO hl
  subst h
  exact lv_tableIn F.1 F.2.1 hd (by rw [iv_toInt ha]; omega) (by rw [iv_toInt ha]; omega) (by rw [iv_toInt ha]; exact ho) ht (k H locs ls hP hD hS hO hl)
theorem jr_look (F : Fx G X own cc nL d ret) {a dflt off : Int} {ps : Array (Int × Int)} {len tgt : Nat} (hd : decode cc pc = .ok (.lookupswitch dflt ps, len)) (hp : (ps.toList.zip (ps.toList.drop 1)).all (fun (a, next) => a.1 < next.1) = true) (ho : Op.lookupswitch.offset ps.toList dflt a = off) (ht : (pc : Int) + off = (tgt : Int)) (ha : inR a)
    (k : Jw G X post tgt lv rest w) : Jw G X post pc lv (iv a :: rest) w := by
  intro H locs ls hP hD hS hO hl
  exact lv_lookup F.1 F.2.1 hd hp (by rw [iv_toInt ha]; exact ho) ht (k H locs ls hP hD hS hO hl)
theorem asc_at {ls : Array Slot} {nL : Nat} {l : List (Option Value)} {i : Nat} {v : Value} (h : lg l i = some v) : ∃ k : Nat, (asc 0 l)[k]? = some (i, v) := List.getElem?_of_mem ((asc_mem l 0 i v).mpr ⟨i, by omega, h⟩)
theorem jr_iinc (F : Fx G X own cc nL d ret) {i : Nat} {n a : Int} (hd : decode cc pc = .ok (.iinc i n, 3)) (hi : lg lv i = some (iv a)) (hn : i < nL) (ho : okst lv i = true)
    (k : Jw G X post (pc + 3) (lst lv i (some (iv (a + n)))) rest w) : Jw G X post pc lv rest w := by
  intro H locs ls hP hD hS hO hl
  obtain ⟨q, hq⟩ := asc_at (ls := ls) (nL := nL) hi
  exact lv_iinc (v := Int32.ofInt (a + n)) F.1 F.2.1 hd hl.has hq (by rw [Int32.ofInt_add]) (by rw [F.2.2.1]; exact hn) rfl (fun ls' h' => k H locs ls' hP hD hS hO (lh_st1 ho h'))
theorem jr_i2l (F : Fx G X own cc nL d ret) {a : Int} (hd : decode cc pc = .ok (.i2l, 1)) (ha : inR a)
    (k : Jw G X post (pc + 1) lv (lq a :: rest) w) : Jw G X post pc lv (iv a :: rest) w := by
  intro H locs ls hP hD hS hO hl
  exact lv_i2l F.1 F.2.1 hd (Int32.toInt64_ofInt (by rw [iv_min]; exact ha.1) (by rw [iv_max]; exact ha.2)) (k H locs ls hP hD hS hO hl)
theorem jr_l2i (F : Fx G X own cc nL d ret) {a : Int} (hd : decode cc pc = .ok (.l2i, 1))
    (k : Jw G X post (pc + 1) lv (iv a :: rest) w) : Jw G X post pc lv (lq a :: rest) w := by
  intro H locs ls hP hD hS hO hl
  exact lv_l2i F.1 F.2.1 hd Int64.toInt32_ofInt (k H locs ls hP hD hS hO hl)
theorem jr_i2b (F : Fx G X own cc nL d ret) {a : Int} (hd : decode cc pc = .ok (.i2b, 1)) (ha : -128 ≤ a ∧ a ≤ 127)
    (k : Jw G X post (pc + 1) lv (iv a :: rest) w) : Jw G X post pc lv (iv a :: rest) w := by
  intro H locs ls hP hD hS hO hl
  exact lv_i2b F.1 F.2.1 hd (by rw [Int32.toInt8_ofInt]; exact Int32.toInt_inj.mp (by rw [Int8.toInt_toInt32, Int8.toInt_ofInt_of_le (by omega) (by omega), iv_toInt (by omega)])) (k H locs ls hP hD hS hO hl)
theorem jr_ishl (F : Fx G X own cc nL d ret) {x y : Int32} (hd : decode cc pc = .ok (.ishl, 1))
    (k : Jw G X post (pc + 1) lv (.int (x <<< (y &&& 31)) :: rest) w) : Jw G X post pc lv (.int y :: .int x :: rest) w := by
  intro H locs ls hP hD hS hO hl
  exact lv_ishl F.1 F.2.1 hd (k H locs ls hP hD hS hO hl)
theorem jr_ishr (F : Fx G X own cc nL d ret) {x y : Int32} (hd : decode cc pc = .ok (.ishr, 1))
    (k : Jw G X post (pc + 1) lv (.int (x >>> (y &&& 31)) :: rest) w) : Jw G X post pc lv (.int y :: .int x :: rest) w := by
  intro H locs ls hP hD hS hO hl
  exact lv_ishr F.1 F.2.1 hd (k H locs ls hP hD hS hO hl)
theorem jr_iushr (F : Fx G X own cc nL d ret) {x y : Int32} (hd : decode cc pc = .ok (.iushr, 1))
    (k : Jw G X post (pc + 1) lv (.int ((x.toUInt32 >>> (y.toUInt32 &&& Int32.toUInt32 31)).toInt32) :: rest) w) : Jw G X post pc lv (.int y :: .int x :: rest) w := by
  intro H locs ls hP hD hS hO hl
  exact lv_iushr F.1 F.2.1 hd rfl (k H locs ls hP hD hS hO hl)
theorem jr_lshl (F : Fx G X own cc nL d ret) {x : Int64} {y : Int32} (hd : decode cc pc = .ok (.lshl, 1))
    (k : Jw G X post (pc + 1) lv (.long (x <<< (y.toInt64 &&& 63)) :: rest) w) : Jw G X post pc lv (.int y :: .long x :: rest) w := by
  intro H locs ls hP hD hS hO hl
  exact lv_lshl F.1 F.2.1 hd rfl (k H locs ls hP hD hS hO hl)
theorem jr_lshr (F : Fx G X own cc nL d ret) {x : Int64} {y : Int32} (hd : decode cc pc = .ok (.lshr, 1))
    (k : Jw G X post (pc + 1) lv (.long (x >>> (y.toInt64 &&& 63)) :: rest) w) : Jw G X post pc lv (.int y :: .long x :: rest) w := by
  intro H locs ls hP hD hS hO hl
  exact lv_lshr F.1 F.2.1 hd rfl (k H locs ls hP hD hS hO hl)
theorem jr_lushr (F : Fx G X own cc nL d ret) {x : Int64} {y : Int32} (hd : decode cc pc = .ok (.lushr, 1))
    (k : Jw G X post (pc + 1) lv (.long ((x.toUInt64 >>> (y.toInt64.toUInt64 &&& Int64.toUInt64 63)).toInt64) :: rest) w) : Jw G X post pc lv (.int y :: .long x :: rest) w := by
  intro H locs ls hP hD hS hO hl
  exact lv_lushr F.1 F.2.1 hd rfl (k H locs ls hP hD hS hO hl)
theorem jr_irem (F : Fx G X own cc nL d ret) {a b : Int} (hd : decode cc pc = .ok (.irem, 1)) (ha : inR a) (h0 : 0 ≤ a) (hb : 0 < b) (hb2 : inR b)
    (k : Jw G X post (pc + 1) lv (iv (a % b) :: rest) w) : Jw G X post pc lv (iv b :: iv a :: rest) w := by
  intro H locs ls hP hD hS hO hl
  have h := k H locs ls hP hD hS hO hl
  have e : Int32.ofInt a - Int32.ofInt a / Int32.ofInt b * Int32.ofInt b = Int32.ofInt (a % b) := by rw [← iv_tdiv ha hb2, Int.tdiv_eq_ediv_of_nonneg h0, ← Int32.ofInt_mul, ← Int32.ofInt_sub, Int.emod_def, Int.mul_comm b]
  rw [iv, ← e] at h
  exact lv_irem F.1 F.2.1 hd (by rw [iv_zero, iv_eq hb2 (by omega)]; omega) h
theorem jr_idiv (F : Fx G X own cc nL d ret) {a b : Int} (hd : decode cc pc = .ok (.idiv, 1)) (ha : inR a) (h0 : 0 ≤ a) (hb : 0 < b) (hb2 : inR b)
    (k : Jw G X post (pc + 1) lv (iv (a / b) :: rest) w) : Jw G X post pc lv (iv b :: iv a :: rest) w := by
  intro H locs ls hP hD hS hO hl
  have h := k H locs ls hP hD hS hO hl
  have e : Int32.ofInt a / Int32.ofInt b = Int32.ofInt (a / b) := by rw [← iv_tdiv ha hb2, Int.tdiv_eq_ediv_of_nonneg h0]
  rw [iv, ← e] at h
  exact lv_idiv F.1 F.2.1 hd (by rw [iv_zero, iv_eq hb2 (by omega)]; omega) h
theorem jr_dup (F : Fx G X own cc nL d ret) {v : Value} (hd : decode cc pc = .ok (.dup, 1)) (hc : v.category = 1)
    (k : Jw G X post (pc + 1) lv (v :: v :: rest) w) : Jw G X post pc lv (v :: rest) w := by
  intro H locs ls hP hD hS hO hl
  exact lv_dup F.1 F.2.1 hd hc (k H locs ls hP hD hS hO hl)
theorem jr_pop (F : Fx G X own cc nL d ret) {v : Value} (hd : decode cc pc = .ok (.pop, 1)) (hc : v.category = 1)
    (k : Jw G X post (pc + 1) lv rest w) : Jw G X post pc lv (v :: rest) w := by
  intro H locs ls hP hD hS hO hl
  exact lv_pop F.1 F.2.1 hd hc (k H locs ls hP hD hS hO hl)
theorem jr_dup_x1 (F : Fx G X own cc nL d ret) {u v : Value} (hd : decode cc pc = .ok (.dup_x1, 1)) (hu : u.category = 1) (hv : v.category = 1)
    (k : Jw G X post (pc + 1) lv (u :: v :: u :: rest) w) : Jw G X post pc lv (u :: v :: rest) w := by
  intro H locs ls hP hD hS hO hl
  exact lv_dup_x1 F.1 F.2.1 hd hu hv (k H locs ls hP hD hS hO hl)
theorem jr_dup2 (F : Fx G X own cc nL d ret) {u v : Value} (hd : decode cc pc = .ok (.dup2, 1)) (hu : u.category = 1) (hv : v.category = 1)
    (k : Jw G X post (pc + 1) lv (u :: v :: u :: v :: rest) w) : Jw G X post pc lv (u :: v :: rest) w := by
  intro H locs ls hP hD hS hO hl
  exact lv_dup2_11 F.1 F.2.1 hd hu hv (k H locs ls hP hD hS hO hl)
theorem jr_ifnull (F : Fx G X own cc nL d ret) {x : Nat} {off : Int} (hd : decode cc pc = .ok (.ifnull off, 3))
    (k : Jw G X post (pc + 3) lv rest w) : Jw G X post pc lv (.ref x :: rest) w := by
  intro H locs ls hP hD hS hO hl
  exact lv_ifnull F.1 F.2.1 hd (k H locs ls hP hD hS hO hl)
end JR
