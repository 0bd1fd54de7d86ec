/-! the worlds at the start -/
def w0X : Wd := fun k i => match k with
  | 4 => lasI i
  | 5 => if i = 2 then 8 else 0
  | 8 => if i = 2 then 6 else 0
  | 20 => if i = 15 ∨ i = 16 then -1 else 0
  | _ => 0
def w0M : Wd := fun _ _ => 0
def adr (a : Nat) (q : Nat → Nat) : Nat → Nat
  | 0 => a
  | k + 1 => q k
set_option maxRecDepth 20000 in
theorem cels_X0 (l : Launch) (D : va_G) (t : Nat → ClassId) (a : Nat) (q : Nat → Nat) : [(a, .inr (7, [.ref (q 0), .ref (q 4), .ref (q 7), .ref (q 10), .ref (q 13), .ref (q 16), .ref (q 17), .ref (q 19), iv 0])), ((q 0), .inr (3, [.ref (q 1), .ref (q 2), .ref (q 3), iv 0, iv 0])), ((q 1), aZ (t 0) 60), ((q 2), aZ (t 0) 10), ((q 3), .inl (t 0, (5, .inl (lasF)))), ((q 4), .inr (6, [.ref (q 5), .ref (q 6), iv 8, iv 0, iv 0])), ((q 5), aZ (t 0) 56), ((q 6), aZ (t 0) 24), ((q 7), .inr (6, [.ref (q 8), .ref (q 9), iv 6, iv 0, iv 0])), ((q 8), aZ (t 0) 42), ((q 9), aZ (t 0) 18), ((q 10), .inr (4, [.ref (q 11), .ref (q 12), iv 0])), ((q 11), aZ (t 0) 360), ((q 12), aZ (t 0) 6), ((q 13), .inr (4, [.ref (q 14), .ref (q 15), iv 0])), ((q 14), aZ (t 0) 360), ((q 15), aZ (t 0) 6), ((q 16), .inr (5, [.int 0, .int 0, .int 0, .int 0, .long 0, .long 0, .long 0])), ((q 17), .inr (2, [.ref (q 18), iv 0, iv 0, iv 0])), ((q 18), aZ (t 0) 60), ((q 19), .inr (1, [.ref (q 0), .ref (q 4), .ref (q 7), .ref (q 20), .ref (q 22), .ref (q 24), .ref (q 26), .ref (q 27), .ref (q 28), .ref (q 29), .ref (q 30), .ref (q 31), .ref (q 32), iv 0, iv 0, iv (-1), iv (-1), iv 0])), ((q 20), .inr (0, [.ref (q 21), iv 0])), ((q 21), aZ (t 0) 121), ((q 22), .inr (0, [.ref (q 23), iv 0])), ((q 23), aZ (t 0) 121), ((q 24), .inr (0, [.ref (q 25), iv 0])), ((q 25), aZ (t 0) 121), ((q 26), aZ (t 0) 3), ((q 27), aZ (t 0) 3), ((q 28), aZ (t 0) 3), ((q 29), aZ (t 0) 10), ((q 30), aZ (t 0) 10), ((q 31), aZ (t 0) 10), ((q 32), aZ (t 0) 10)] = cels (GX (l, adr a q, D, t)) w0X := rfl
set_option maxRecDepth 20000 in
theorem cels_M0 (l : Launch) (D : va_G) (t : Nat → ClassId) (a : Nat) (q : Nat → Nat) : [(a, .inr (8, [.int 0, .ref (q 0), .ref (q 1), .ref (q 2), .ref (q 3), .ref (q 4), .ref (q 5), .ref (q 6), .int 0, .ref (q 7), .ref (q 8), .int 0, .ref (q 9), .ref (q 10), .ref (q 11), .ref (q 12), .int 0, .ref (q 13), .int 0, .int 0, .int 0, .ref (q 14), .ref (q 15), .ref (q 16), .ref (q 17), .int 0, .ref (q 18), .ref (q 19), .ref (q 20), .ref (q 21), .int 0, .ref (q 22), .ref (q 23), .long 0])), ((q 0), aZ (t 0) 10), ((q 1), aZ (t 0) 10), ((q 2), aZ (t 0) 10), ((q 3), aZ (t 0) 10), ((q 4), aZ (t 0) 10), ((q 5), aZ (t 0) 10), ((q 6), aZ (t 0) 10), ((q 7), aZ (t 0) 56), ((q 8), aZ (t 0) 24), ((q 9), aZ (t 1) 60), ((q 10), aZ (t 0) 2), ((q 11), aZ (t 1) 720), ((q 12), aZ (t 0) 12), ((q 13), aZ (t 0) 30), ((q 14), aZ (t 0) 4), ((q 15), aZ (t 2) 61), ((q 16), aZ (t 2) 61), ((q 17), aZ (t 2) 61), ((q 18), aZ (t 0) 121), ((q 19), aZ (t 0) 10), ((q 20), aZ (t 0) 10), ((q 21), aZ (t 0) 10), ((q 22), aZ (t 0) 10), ((q 23), aZ (t 0) 10)] = cels (GM (l, adr a q, D, t)) w0M := rfl
theorem Kp.cast {l : Launch} {D : va_G} {t : Nat → ClassId} {d : Nat} {y : MethodName} {cc : ByteArray} {nL a : Nat} {As : List Value} {ws0 : va_W} {n1 n2 : Nat} {ws1 ws2 : (Nat → Nat) → va_W} (h : Kp l D t d y cc nL a As ws0 n1 n2 ws1) (e : ∀ q, ws1 q = ws2 q) : Kp l D t d y cc nL a As ws0 n1 n2 ws2 := by
  have : ws1 = ws2 := funext e
  subst this
  exact h
theorem k_X7 (l : Launch) (D : va_G) (t : Nat → ClassId) (a : Nat) : Kp l D t 3 yX7_init cX7_init 1 a [] [(a, .inr (7, [.null, .null, .null, .null, .null, .null, .null, .null, .int 0]))] 33 1475 (fun q => cels (GX (l, adr a q, D, t)) w0X) := (k_X7_init l D t a).cast (fun q => cels_X0 l D t a q)
theorem k_X8 (l : Launch) (D : va_G) (t : Nat → ClassId) (a : Nat) : Kp l D t 1 yX8_init cX8_init 1 a [] [(a, .inr (8, [.int 0, .null, .null, .null, .null, .null, .null, .null, .int 0, .null, .null, .int 0, .null, .null, .null, .null, .int 0, .null, .int 0, .int 0, .int 0, .null, .null, .null, .null, .int 0, .null, .null, .null, .null, .int 0, .null, .null, .long 0]))] 24 1332 (fun q => cels (GM (l, adr a q, D, t)) w0M) := (k_X8_init l D t a).cast (fun q => cels_M0 l D t a q)
theorem rT_0 (t : Nat) : rT t 0 := by
  match t with
  | 0 => show inR 0; omega
  | 1 => show (-128 : Int) ≤ 0 ∧ (0 : Int) ≤ 127; omega
  | t + 2 => show (0 : Int) ≤ 0 ∧ (0 : Int) ≤ 1; omega
theorem rF_0 (c : Nat) : rF c 0 := by
  match c with
  | 0 => show inR 0; omega
  | 1 => show inL 0; omega
  | 2 => show (0 : Int) ≤ 0 ∧ (0 : Int) ≤ 1; omega
  | c + 3 => trivial
theorem w0X_0 {k : Nat} (h4 : ¬ k = 4) (h5 : ¬ k = 5) (h8 : ¬ k = 8) (h20 : ¬ k = 20) (i : Int) : w0X k i = 0 := by
  unfold w0X
  split <;> first | rfl | (exfalso; omega)
theorem okX0 (B : Bs) : okW (GX B) w0X := by
  refine ⟨fun k t n hs i i0 i1 => ?_, fun k ci fs hs j c hc => ?_⟩
  · by_cases h4 : k = 4
    · subst h4
      cases hs
      show inR (lasI i)
      unfold lasI
      split <;> omega
    · by_cases h5 : k = 5
      · subst h5; cases hs
      · by_cases h8 : k = 8
        · subst h8; cases hs
        · by_cases h20 : k = 20
          · subst h20; cases hs
          · rw [w0X_0 h4 h5 h8 h20]; exact rT_0 t
  · by_cases h4 : k = 4
    · subst h4; cases hs
    · by_cases h5 : k = 5
      · subst h5
        cases hs
        show rF c (if ((j : Nat) : Int) = 2 then 8 else 0)
        split
        · have : j = 2 := by omega
          subst this
          cases hc
          show inR 8
          omega
        · exact rF_0 c
      · by_cases h8 : k = 8
        · subst h8
          cases hs
          show rF c (if ((j : Nat) : Int) = 2 then 6 else 0)
          split
          · have : j = 2 := by omega
            subst this
            cases hc
            show inR 6
            omega
          · exact rF_0 c
        · by_cases h20 : k = 20
          · subst h20
            cases hs
            show rF c (if ((j : Nat) : Int) = 15 ∨ ((j : Nat) : Int) = 16 then -1 else 0)
            split
            · rename_i h
              rcases (show j = 15 ∨ j = 16 by omega) with rfl | rfl <;> (cases hc; show inR (-1); omega)
            · exact rF_0 c
          · rw [w0X_0 h4 h5 h8 h20]; exact rF_0 c
theorem okM0 (B : Bs) : okW (GM B) w0M := ⟨fun k t n hs i i0 i1 => rT_0 t, fun k ci fs hs j c hc => rF_0 c⟩
theorem fa_w0 (r f : Int) : fa w0X r f = 0 ∨ ¬ (0 ≤ r ∧ r < 10) ∨ ¬ (0 ≤ f ∧ f < 6) := by
  by_cases h : 0 ≤ r ∧ r < 10
  · by_cases g : 0 ≤ f ∧ f < 6
    · left; unfold fa; rw [rd_in (by omega) (by omega)]; rfl
    · exact Or.inr (Or.inr g)
  · exact Or.inr (Or.inl h)
theorem IX_0 : IX w0X := by
  have lA : ∀ i : Int, 0 ≤ i → i < 5 → w0X 4 i = -1 := fun i a b => by show lasI i = -1; unfold lasI; rw [if_pos b]
  refine ⟨⟨⟨by decide, by decide⟩, ⟨rfl, by decide⟩, fun l a b => by rw [lA l a b]; rfl, fun r a b => ?_⟩, ⟨fun r a b => ⟨by show (-2000 : Int) ≤ 0; omega, by show (0 : Int) ≤ 2000; omega⟩, fun r a => rfl⟩, ⟨⟨⟨by decide, by decide⟩, rfl⟩, ⟨rfl, by decide⟩, fun i a b => ⟨by show (-1 : Int) ≤ 0; omega, by show (0 : Int) ≤ 99; omega⟩, fun i a b => ⟨by show (-2000 : Int) ≤ 0; omega, by show (0 : Int) ≤ 2000; omega⟩, fun t a b => ?_⟩, ⟨⟨⟨by decide, by decide⟩, rfl⟩, fun i a b => ⟨by show (-1 : Int) ≤ 0; omega, by show (0 : Int) ≤ 99; omega⟩, fun t a b => ?_⟩, ⟨by decide, by decide⟩, ⟨⟨by decide, by decide⟩, fun i a b => ⟨by show (0 : Int) ≤ 0; omega, by show (0 : Int) ≤ 126; omega⟩⟩, ⟨⟨⟨by decide, by decide⟩, ⟨by decide, by decide⟩⟩, fun i a b => ⟨⟨by show (0 : Int) ≤ 0; omega, by show (0 : Int) ≤ 126; omega⟩, ⟨by show (0 : Int) ≤ 0; omega, by show (0 : Int) ≤ 126; omega⟩⟩, fun i a b => ⟨⟨by show (0 : Int) ≤ 0; omega, by show (0 : Int) ≤ 60; omega⟩, ⟨by show (0 : Int) ≤ 0; omega, by show (0 : Int) ≤ 60; omega⟩⟩, ?_⟩⟩
  · exact absurd b (by show ¬ r < 0; omega)
  · exact absurd b (by show ¬ t < 0; omega)
  · exact absurd b (by show ¬ t < 0; omega)
  · exact ⟨fun k a b => absurd b (by show ¬ k < 0; omega), fun k a b => absurd b (by show ¬ k < 0; omega)⟩
theorem RM_0 : RM w0X w0M := by
  refine ⟨⟨rfl, rfl, rfl, rfl, rfl⟩, fun r => ⟨rfl, rfl, rfl, rfl, rfl, rfl⟩, ⟨rfl, rfl, rfl, rfl⟩, ⟨⟨rfl, rfl⟩, fun i a b => ⟨rfl, rfl⟩, fun i a b => ⟨rfl, rfl⟩⟩, fun t => ⟨rfl, rfl, rfl, rfl, rfl⟩⟩
theorem va_P_l {D : va_G} {a b : va_W} {H : Heap} (h : va_P D vwCl (a ++ b) H) : va_P D vwCl a H := fun k q e => h k q (by rw [List.getElem?_append_left (List.getElem?_eq_some_iff.mp e).1]; exact e)
theorem va_P_r {D : va_G} {a b : va_W} {H : Heap} (h : va_P D vwCl (a ++ b) H) : va_P D vwCl b H := fun k q e => h (a.length + k) q (by rw [List.getElem?_append_right (by omega), Nat.add_sub_cancel_left]; exact e)
theorem va_D_l {A : Nat → Prop} {a b : va_W} (h : va_D A (a ++ b)) : va_D A a := ⟨fun i j p q h1 h2 e => h.1 i j p q (by rw [List.getElem?_append_left (List.getElem?_eq_some_iff.mp h1).1]; exact h1) (by rw [List.getElem?_append_left (List.getElem?_eq_some_iff.mp h2).1]; exact h2) e, fun k q e => h.2 k q (by rw [List.getElem?_append_left (List.getElem?_eq_some_iff.mp e).1]; exact e)⟩
theorem va_D_r {A : Nat → Prop} {a b : va_W} (h : va_D A (a ++ b)) : va_D A b := ⟨fun i j p q h1 h2 e => by
    have := h.1 (a.length + i) (a.length + j) p q (by rw [List.getElem?_append_right (by omega), Nat.add_sub_cancel_left]; exact h1) (by rw [List.getElem?_append_right (by omega), Nat.add_sub_cancel_left]; exact h2) e
    omega, fun k q e => h.2 (a.length + k) q (by rw [List.getElem?_append_right (by omega), Nat.add_sub_cancel_left]; exact e)⟩
theorem ab_dis {A : Nat → Prop} {G G' : Gc} {w w' : Wd} (h : va_D A (cels G w ++ cels G' w')) {k j : Nat} (hk : k < gn G) (hj : j < gn G') : ¬ ga G k = ga G' j := by
  intro e
  have hl : (cels G w).length = gn G := by simp [cels]
  have := h.1 k (gn G + j) (ga G k, cel G w k) (ga G' j, cel G' w' j) (by rw [List.getElem?_append_left (by omega)]; exact cels_get hk) (by rw [List.getElem?_append_right (by omega), hl, Nat.add_sub_cancel_left]; exact cels_get hj) e
  omega
/-- the law from its entry to its loop -/
theorem law_new {l : Launch} {D : va_G} {t : Nat → ClassId} {X : Xc} {Q : State → Prop} {b : Nat} (F : KF D t X RL code 4 room_1)
    (k : ∀ (a a' : Nat) (z z' : Nat → Nat), KW l D X Q 18 [some (.ref b), some (.ref a), some (.ref a'), some (iv 0)] [] (cels (GX (l, adr a z, D, t)) w0X ++ cels (GM (l, adr a' z', D, t)) w0M) 59 2850) : KW l D X Q 0 [some (.ref b)] [] [] 0 0 := by
  refine kw_new F dL_law_0 nn_L_7 (Nat.le_of_ble_eq_true rfl) (Nat.le_of_ble_eq_true rfl) (fun q0 => ?_)
  refine kw_as (ws' := [(q0, .inr (7, [.null, .null, .null, .null, .null, .null, .null, .null, .int 0]))]) (m1 := 1) (m2 := 9) rfl rfl rfl ?_
  refine kw_dup F dL_law_3 rfl ?_
  refine kw_callI (rest := [.ref q0]) (As := []) (wr := []) F [0] [] dL_law_4 ci_L_9 (k_X7 l D t q0) rfl rfl rfl rfl rfl (by decide) (by decide) ⟨(Nat.le_of_ble_eq_true rfl), (Nat.le_of_ble_eq_true rfl)⟩ (Nat.le_of_ble_eq_true rfl) ⟨(Nat.le_of_ble_eq_true rfl), (Nat.le_of_ble_eq_true rfl)⟩ (fun z => ?_)
  refine kw_as (ws' := cels (GX (l, adr q0 z, D, t)) w0X) (m1 := 34) (m2 := 1484) rfl rfl rfl ?_
  refine kw_astore_n F dL_law_7 (by decide) rfl ?_
  refine kw_new F dL_law_8 nn_L_10 (Nat.le_of_ble_eq_true rfl) (Nat.le_of_ble_eq_true rfl) (fun q8 => ?_)
  refine kw_as (m1 := 35) (m2 := 1518) rfl rfl rfl ?_
  refine kw_dup F dL_law_11 rfl ?_
  refine kw_callI (rest := [.ref q8]) (As := []) (wr := cels (GX (l, adr q0 z, D, t)) w0X) F [34] [0, 1, 2, 3, 4, 5, 6, 7, 8, 9, 10, 11, 12, 13, 14, 15, 16, 17, 18, 19, 20, 21, 22, 23, 24, 25, 26, 27, 28, 29, 30, 31, 32, 33] dL_law_12 ci_L_12 (k_X8 l D t q8) rfl rfl rfl rfl rfl (by decide) (by decide) ⟨(Nat.le_of_ble_eq_true rfl), (Nat.le_of_ble_eq_true rfl)⟩ (Nat.le_of_ble_eq_true rfl) ⟨(Nat.le_of_ble_eq_true rfl), (Nat.le_of_ble_eq_true rfl)⟩ (fun z' => ?_)
  refine kw_as (m1 := 59) (m2 := 2850) rfl rfl rfl ?_
  refine kw_astore_n F dL_law_15 (by decide) rfl ?_
  refine kw_iconst F dL_law_16 ?_
  refine kw_istore_n F dL_law_17 (by decide) rfl ?_
  exact k q0 q8 z z'

