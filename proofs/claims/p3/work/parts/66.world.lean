/-! The cells of a new object of each side, as the tables have them -/
theorem mi_refs {D : va_G} {cl : List vw_C} {a n : Nat} {cA : ClassId} {f g : Nat → Option Nat} {H : Heap} (h : va_at D cl (a, .inl (cA, n, .inr (.inr (.inr (.inr f))))) H) (hfg : ∀ j, j < n → f j = g j) : va_at D cl (a, .inl (cA, n, .inr (.inr (.inr (.inr g))))) H := by
  have h1 : H[a]? = some (arrV cA n (fun j => va_rf (f j))) := h
  show H[a]? = some (arrV cA n (fun j => va_rf (g j)))
  rw [h1]
  congr 1
  unfold arrV
  congr 2
  funext j
  exact congrArg va_rf (hfg j.val j.isLt)
def mz_aC (b : Nat) (ad : Nat → Nat) : Nat → Nat := (mi_jn 9 (fun i => [b, ad 0, ad 2, ad 3, ad 4, ad 1, ad 8, ad 5, ad 11].getD i 0) (mi_jn 9 (fun i => [ad 12, ad 13, ad 14, ad 15, ad 7, ad 21, ad 22, ad 23, ad 24].getD i 0) (mi_jn 9 (fun i => [ad 9, ad 25, ad 26, ad 27, ad 28, ad 29, ad 30, ad 31, ad 32].getD i 0) (mi_jn 9 (fun i => [ad 33, ad 34, ad 35, ad 10, ad 37, ad 6, ad 16, ad 17, ad 18].getD i 0) (mi_jn 9 (fun i => [ad 19, ad 20, ad 38, ad 39, ad 40, ad 41, ad 42, ad 43, ad 44].getD i 0) (mi_jn 9 (fun i => [ad 45, ad 46, ad 47, ad 48, ad 49, ad 50, ad 36, ad 53, ad 55].getD i 0) (mi_jn 9 (fun i => [ad 57, ad 59, ad 61, ad 63, ad 65, ad 67, ad 69, ad 71, ad 73].getD i 0) (mi_jn 9 (fun i => [ad 75, ad 77, ad 51, ad 54, ad 56, ad 58, ad 60, ad 62, ad 64].getD i 0) (mi_jn 8 (fun i => [ad 66, ad 68, ad 70, ad 72, ad 74, ad 76, ad 78, ad 52].getD i 0) (fun _ => 0))))))))))
def mz_pC : Nat → Nat := (mi_jn 9 (fun i => [0, 2, 5, 4, 3, 1, 8, 11, 16].getD i 0) (mi_jn 9 (fun i => [15, 14, 13, 12, 9, 23, 22, 25, 24].getD i 0) (mi_jn 9 (fun i => [7, 34, 33, 32, 31, 30, 29, 28, 27].getD i 0) (mi_jn 9 (fun i => [26, 36, 35, 6, 50, 10, 21, 20, 19].getD i 0) (mi_jn 9 (fun i => [18, 17, 49, 48, 47, 46, 45, 44, 43].getD i 0) (mi_jn 9 (fun i => [42, 41, 40, 39, 38, 37, 51, 55, 57].getD i 0) (mi_jn 9 (fun i => [59, 61, 63, 65, 67, 69, 71, 73, 75].getD i 0) (mi_jn 9 (fun i => [77, 79, 53, 54, 56, 58, 60, 62, 64].getD i 0) (mi_jn 8 (fun i => [66, 68, 70, 72, 74, 76, 78, 52].getD i 0) (fun _ => 0))))))))))
def mz_lC (ca : Nat → ClassId) (en : Nat → Nat) (b : Nat) (ad : Nat → Nat) : va_W := [(b, .inr (0, [.ref (ad 0), .ref (ad 1)])), (ad 1, .inr (2, [.ref (ad 0), .ref (ad 8), .ref (ad 5), .ref (ad 7), .ref (ad 9), .ref (ad 10), .ref (ad 6), .int 0, .int (-1 : Int32), .int 0, .int 0, .int 0, .int 0, .int 0, .ref (en 0)])), (ad 0, .inr (1, [.ref (ad 2), .ref (ad 3), .ref (ad 4), .int 0, .int 0])), (ad 4, .inl (ca 0, 3001, .inl (fun _ => 0))), (ad 3, .inl (ca 0, 3001, .inl (fun _ => 0))), (ad 2, .inl (ca 1, 6600, .inl (fun _ => 0))), (ad 10, .inr (8, [.ref (ad 0), .ref (ad 9), .ref (ad 36), .ref (ad 37), .int 0, .int 0, .int 0, .int 0, .int 0, .int 0, .int 0])), (ad 9, .inr (7, [.ref (ad 0), .ref (ad 33), .ref (ad 25), .ref (ad 26), .ref (ad 27), .ref (ad 28), .ref (ad 29), .ref (ad 30), .ref (ad 31), .ref (ad 32), .int 0, .int 0])), (ad 8, .inr (3, [.ref (ad 0), .ref (ad 7), .int 0, .int 0, .int 0, .int 0, .int 0, .int 0])), (ad 7, .inr (5, [.ref (ad 22), .ref (ad 21)])), (ad 6, .inr (9, [.ref (ad 16), .ref (ad 17), .ref (ad 18), .ref (ad 19), .ref (ad 20), .int 0, .int 0])), (ad 5, .inr (4, [.ref (ad 11), .ref (ad 12), .ref (ad 13), .ref (ad 14), .ref (ad 15), .int 0])), (ad 15, .inl (ca 0, 8, .inl (fun _ => 0))), (ad 14, .inl (ca 2, 8, .inl (fun _ => 0))), (ad 13, .inl (ca 2, 8, .inl (fun _ => 0))), (ad 12, .inl (ca 2, 8, .inl (fun _ => 0))), (ad 11, .inl (ca 2, 8, .inl (fun _ => 0))), (ad 20, .inl (ca 0, 1000, .inl (fun _ => 0))), (ad 19, .inl (ca 0, 1000, .inl (fun _ => 0))), (ad 18, .inl (ca 0, 1000, .inl (fun _ => 0)))] ++ ([(ad 17, .inl (ca 0, 1000, .inl (fun _ => 0))), (ad 16, .inl (ca 1, 12000, .inl (fun _ => 0))), (ad 22, .inr (6, [.ref (ad 0), .int (64 : Int32), .ref (ad 23), .ref (ad 24), .int 0])), (ad 21, .inl (ca 0, 64, .inl (fun _ => 0))), (ad 24, .inl (ca 0, 64, .inl (fun _ => 0))), (ad 23, .inl (ca 1, 768, .inl (fun _ => 0))), (ad 33, .inr (6, [.ref (ad 0), .int (16 : Int32), .ref (ad 34), .ref (ad 35), .int 0])), (ad 32, .inl (ca 0, 102, .inl (fun _ => 0))), (ad 31, .inl (ca 0, 102, .inl (fun _ => 0))), (ad 30, .inl (ca 0, 102, .inl (fun _ => 0))), (ad 29, .inl (ca 0, 102, .inl (fun _ => 0))), (ad 28, .inl (ca 0, 17, .inl (fun _ => 0))), (ad 27, .inl (ca 0, 17, .inl (fun _ => 0))), (ad 26, .inl (ca 0, 17, .inl (fun _ => 0))), (ad 25, .inl (ca 0, 17, .inl (fun _ => 0))), (ad 35, .inl (ca 0, 16, .inl (fun _ => 0))), (ad 34, .inl (ca 1, 192, .inl (fun _ => 0))), (ad 50, .inr (10, [.ref (en 0), .int 0, .int 0, .int 0, .int 0, .int 0, .int 0, .int 0, .int 0, .int 0, .int 0, .int 0, .int 0, .ref (ad 77), .ref (ad 78)])), (ad 49, .inr (10, [.ref (en 0), .int 0, .int 0, .int 0, .int 0, .int 0, .int 0, .int 0, .int 0, .int 0, .int 0, .int 0, .int 0, .ref (ad 75), .ref (ad 76)])), (ad 48, .inr (10, [.ref (en 0), .int 0, .int 0, .int 0, .int 0, .int 0, .int 0, .int 0, .int 0, .int 0, .int 0, .int 0, .int 0, .ref (ad 73), .ref (ad 74)]))] ++ ([(ad 47, .inr (10, [.ref (en 0), .int 0, .int 0, .int 0, .int 0, .int 0, .int 0, .int 0, .int 0, .int 0, .int 0, .int 0, .int 0, .ref (ad 71), .ref (ad 72)])), (ad 46, .inr (10, [.ref (en 0), .int 0, .int 0, .int 0, .int 0, .int 0, .int 0, .int 0, .int 0, .int 0, .int 0, .int 0, .int 0, .ref (ad 69), .ref (ad 70)])), (ad 45, .inr (10, [.ref (en 0), .int 0, .int 0, .int 0, .int 0, .int 0, .int 0, .int 0, .int 0, .int 0, .int 0, .int 0, .int 0, .ref (ad 67), .ref (ad 68)])), (ad 44, .inr (10, [.ref (en 0), .int 0, .int 0, .int 0, .int 0, .int 0, .int 0, .int 0, .int 0, .int 0, .int 0, .int 0, .int 0, .ref (ad 65), .ref (ad 66)])), (ad 43, .inr (10, [.ref (en 0), .int 0, .int 0, .int 0, .int 0, .int 0, .int 0, .int 0, .int 0, .int 0, .int 0, .int 0, .int 0, .ref (ad 63), .ref (ad 64)])), (ad 42, .inr (10, [.ref (en 0), .int 0, .int 0, .int 0, .int 0, .int 0, .int 0, .int 0, .int 0, .int 0, .int 0, .int 0, .int 0, .ref (ad 61), .ref (ad 62)])), (ad 41, .inr (10, [.ref (en 0), .int 0, .int 0, .int 0, .int 0, .int 0, .int 0, .int 0, .int 0, .int 0, .int 0, .int 0, .int 0, .ref (ad 59), .ref (ad 60)])), (ad 40, .inr (10, [.ref (en 0), .int 0, .int 0, .int 0, .int 0, .int 0, .int 0, .int 0, .int 0, .int 0, .int 0, .int 0, .int 0, .ref (ad 57), .ref (ad 58)])), (ad 39, .inr (10, [.ref (en 0), .int 0, .int 0, .int 0, .int 0, .int 0, .int 0, .int 0, .int 0, .int 0, .int 0, .int 0, .int 0, .ref (ad 55), .ref (ad 56)])), (ad 38, .inr (10, [.ref (en 0), .int 0, .int 0, .int 0, .int 0, .int 0, .int 0, .int 0, .int 0, .int 0, .int 0, .int 0, .int 0, .ref (ad 53), .ref (ad 54)])), (ad 37, .inl (ca 4, 13, .inr (.inr (.inr (.inr (va_up (va_up (va_up (va_up (va_up (va_up (va_up (va_up (va_up (va_up (va_up (va_up (va_up (fun _ => none) 0 (some (ad 38))) 1 (some (ad 39))) 2 (some (ad 40))) 3 (some (ad 41))) 4 (some (ad 42))) 5 (some (ad 43))) 6 (some (ad 44))) 7 (some (ad 45))) 8 (some (ad 46))) 9 (some (ad 47))) 10 (some (ad 48))) 11 (some (ad 49))) 12 (some (ad 50)))))))), (ad 36, .inr (10, [.ref (en 0), .int 0, .int 0, .int 0, .int 0, .int 0, .int 0, .int 0, .int 0, .int 0, .int 0, .int 0, .int 0, .ref (ad 51), .ref (ad 52)])), (ad 52, .inl (ca 0, 6, .inl (fun _ => 0))), (ad 51, .inl (ca 0, 6, .inl (fun _ => 0))), (ad 54, .inl (ca 0, 6, .inl (fun _ => 0))), (ad 53, .inl (ca 0, 6, .inl (fun _ => 0))), (ad 56, .inl (ca 0, 6, .inl (fun _ => 0))), (ad 55, .inl (ca 0, 6, .inl (fun _ => 0))), (ad 58, .inl (ca 0, 6, .inl (fun _ => 0))), (ad 57, .inl (ca 0, 6, .inl (fun _ => 0)))] ++ ([(ad 60, .inl (ca 0, 6, .inl (fun _ => 0))), (ad 59, .inl (ca 0, 6, .inl (fun _ => 0))), (ad 62, .inl (ca 0, 6, .inl (fun _ => 0))), (ad 61, .inl (ca 0, 6, .inl (fun _ => 0))), (ad 64, .inl (ca 0, 6, .inl (fun _ => 0))), (ad 63, .inl (ca 0, 6, .inl (fun _ => 0))), (ad 66, .inl (ca 0, 6, .inl (fun _ => 0))), (ad 65, .inl (ca 0, 6, .inl (fun _ => 0))), (ad 68, .inl (ca 0, 6, .inl (fun _ => 0))), (ad 67, .inl (ca 0, 6, .inl (fun _ => 0))), (ad 70, .inl (ca 0, 6, .inl (fun _ => 0))), (ad 69, .inl (ca 0, 6, .inl (fun _ => 0))), (ad 72, .inl (ca 0, 6, .inl (fun _ => 0))), (ad 71, .inl (ca 0, 6, .inl (fun _ => 0))), (ad 74, .inl (ca 0, 6, .inl (fun _ => 0))), (ad 73, .inl (ca 0, 6, .inl (fun _ => 0))), (ad 76, .inl (ca 0, 6, .inl (fun _ => 0))), (ad 75, .inl (ca 0, 6, .inl (fun _ => 0))), (ad 78, .inl (ca 0, 6, .inl (fun _ => 0))), (ad 77, .inl (ca 0, 6, .inl (fun _ => 0)))])))
set_option maxRecDepth 100000 in
set_option maxHeartbeats 4000000 in
theorem mz_fC (ca : Nat → ClassId) (en : Nat → Nat) (b : Nat) (ad : Nat → Nat) : (b, .inr (0, g_MH ca en ad)) :: n_MH ca en ad = mz_lC ca en b ad := rfl
def mz_zC : mz_St := mz_pI (mz_pI (mz_pI ((fun _ _ => 0, fun _ _ => 0)) 5 8 (-1 : Int32)) 15 1 (64 : Int32)) 27 1 (16 : Int32)
def mz_aM (b : Nat) (ad : Nat → Nat) : Nat → Nat := (mi_jn 9 (fun i => [b, ad 0, ad 1, ad 2, ad 3, ad 4, ad 5, ad 6, ad 7].getD i 0) (mi_jn 9 (fun i => [ad 8, ad 9, ad 10, ad 11, ad 12, ad 13, ad 14, ad 15, ad 16].getD i 0) (mi_jn 9 (fun i => [ad 17, ad 18, ad 19, ad 20, ad 21, ad 22, ad 23, ad 24, ad 25].getD i 0) (mi_jn 9 (fun i => [ad 26, ad 27, ad 28, ad 29, ad 30, ad 31, ad 32, ad 33, ad 34].getD i 0) (mi_jn 9 (fun i => [ad 35, ad 36, ad 37, ad 38, ad 39, ad 40, ad 41, ad 42, ad 43].getD i 0) (mi_jn 9 (fun i => [ad 44, ad 45, ad 46, ad 47, ad 48, ad 49, ad 50, ad 51, ad 52].getD i 0) (mi_jn 1 (fun i => [ad 53].getD i 0) (fun _ => 0))))))))
def mz_pM : Nat → Nat := (mi_jn 9 (fun i => [0, 54, 53, 52, 51, 50, 49, 48, 47].getD i 0) (mi_jn 9 (fun i => [46, 45, 44, 43, 42, 41, 40, 39, 38].getD i 0) (mi_jn 9 (fun i => [37, 36, 35, 34, 33, 32, 31, 30, 29].getD i 0) (mi_jn 9 (fun i => [28, 27, 26, 25, 24, 23, 22, 21, 20].getD i 0) (mi_jn 9 (fun i => [19, 18, 17, 16, 15, 14, 13, 12, 11].getD i 0) (mi_jn 9 (fun i => [10, 9, 8, 7, 6, 5, 4, 3, 2].getD i 0) (mi_jn 1 (fun i => [1].getD i 0) (fun _ => 0))))))))
def mz_lM (ca : Nat → ClassId) (en : Nat → Nat) (b : Nat) (ad : Nat → Nat) : va_W := [(b, .inr (11, [.int 0, .ref (ad 0), .int 0, .int 0, .ref (ad 1), .ref (ad 2), .int 0, .int (-1 : Int32), .int 0, .int 0, .int 0, .int 0, .int 0, .ref (ad 3), .ref (ad 4), .ref (ad 5), .ref (ad 6), .ref (ad 7), .ref (ad 8), .ref (ad 9), .ref (ad 10), .ref (ad 11), .ref (ad 12), .ref (ad 13), .int 0, .ref (ad 14), .ref (ad 15), .ref (ad 16), .int 0, .int 0, .ref (ad 17), .ref (ad 18), .ref (ad 19), .ref (ad 20), .int 0, .ref (ad 21), .ref (ad 22), .ref (ad 23), .ref (ad 24), .ref (ad 25), .ref (ad 26), .ref (ad 27), .ref (ad 28), .ref (ad 29), .ref (ad 30), .ref (ad 31), .ref (ad 32), .ref (ad 33), .int 0, .ref (ad 34), .ref (ad 35), .int 0, .ref (ad 36), .int 0, .ref (ad 37), .ref (ad 38), .ref (ad 39), .ref (ad 40), .ref (ad 41), .ref (ad 42), .int 0, .int 0, .int 0, .int 0, .int 0, .long 0, .long 0, .int 0, .ref (ad 43), .ref (ad 44), .ref (ad 45), .ref (ad 46), .ref (ad 47), .ref (ad 48), .ref (ad 49), .int 0, .ref (ad 50), .ref (ad 51), .ref (ad 52), .ref (ad 53)])), (ad 53, .inl (ca 0, 8, .inl (fun _ => 0))), (ad 52, .inl (ca 0, 8, .inl (fun _ => 0))), (ad 51, .inl (ca 3, 8, .inr (.inl (fun _ => 0)))), (ad 50, .inl (ca 3, 8, .inr (.inl (fun _ => 0)))), (ad 49, .inl (ca 0, 12, .inl (fun _ => 0))), (ad 48, .inl (ca 0, 12, .inl (fun _ => 0))), (ad 47, .inl (ca 0, 12, .inl (fun _ => 0))), (ad 46, .inl (ca 0, 12, .inl (fun _ => 0))), (ad 45, .inl (ca 0, 12, .inl (fun _ => 0))), (ad 44, .inl (ca 0, 12, .inl (fun _ => 0))), (ad 43, .inl (ca 0, 12, .inl (fun _ => 0))), (ad 42, .inl (ca 0, 6000, .inl (fun _ => 0))), (ad 41, .inl (ca 0, 9, .inl (fun _ => 0))), (ad 40, .inl (ca 2, 9, .inl (fun _ => 0))), (ad 39, .inl (ca 2, 9, .inl (fun _ => 0))), (ad 38, .inl (ca 2, 9, .inl (fun _ => 0))), (ad 37, .inl (ca 2, 9, .inl (fun _ => 0))), (ad 36, .inl (ca 0, 48000, .inl (fun _ => 0))), (ad 35, .inl (ca 0, 24000, .inl (fun _ => 0)))] ++ ([(ad 34, .inl (ca 0, 24000, .inl (fun _ => 0))), (ad 33, .inl (ca 3, 14, .inr (.inl (fun _ => 0)))), (ad 32, .inl (ca 3, 14, .inr (.inl (fun _ => 0)))), (ad 31, .inl (ca 0, 14, .inl (fun _ => 0))), (ad 30, .inl (ca 0, 14, .inl (fun _ => 0))), (ad 29, .inl (ca 0, 14, .inl (fun _ => 0))), (ad 28, .inl (ca 0, 14, .inl (fun _ => 0))), (ad 27, .inl (ca 0, 14, .inl (fun _ => 0))), (ad 26, .inl (ca 0, 14, .inl (fun _ => 0))), (ad 25, .inl (ca 0, 14, .inl (fun _ => 0))), (ad 24, .inl (ca 0, 14, .inl (fun _ => 0))), (ad 23, .inl (ca 0, 14, .inl (fun _ => 0))), (ad 22, .inl (ca 0, 14, .inl (fun _ => 0))), (ad 21, .inl (ca 0, 14, .inl (fun _ => 0))), (ad 20, .inl (ca 0, 12000, .inl (fun _ => 0))), (ad 19, .inl (ca 0, 1000, .inl (fun _ => 0))), (ad 18, .inl (ca 0, 1000, .inl (fun _ => 0))), (ad 17, .inl (ca 0, 1001, .inl (fun _ => 0))), (ad 16, .inl (ca 0, 64, .inl (fun _ => 0))), (ad 15, .inl (ca 3, 64, .inr (.inl (fun _ => 0))))] ++ ([(ad 14, .inl (ca 3, 64, .inr (.inl (fun _ => 0)))), (ad 13, .inl (ca 0, 96, .inl (fun _ => 0))), (ad 12, .inl (ca 0, 96, .inl (fun _ => 0))), (ad 11, .inl (ca 3, 96, .inr (.inl (fun _ => 0)))), (ad 10, .inl (ca 3, 96, .inr (.inl (fun _ => 0)))), (ad 9, .inl (ca 0, 16, .inl (fun _ => 0))), (ad 8, .inl (ca 0, 16, .inl (fun _ => 0))), (ad 7, .inl (ca 0, 16, .inl (fun _ => 0))), (ad 6, .inl (ca 0, 16, .inl (fun _ => 0))), (ad 5, .inl (ca 0, 16, .inl (fun _ => 0))), (ad 4, .inl (ca 3, 16, .inr (.inl (fun _ => 0)))), (ad 3, .inl (ca 3, 16, .inr (.inl (fun _ => 0)))), (ad 2, .inl (ca 0, 3001, .inl (fun _ => 0))), (ad 1, .inl (ca 0, 3001, .inl (fun _ => 0))), (ad 0, .inl (ca 0, 3000, .inl (fun _ => 0)))]))
set_option maxRecDepth 100000 in
set_option maxHeartbeats 4000000 in
theorem mz_fM (ca : Nat → ClassId) (en : Nat → Nat) (b : Nat) (ad : Nat → Nat) : (b, .inr (11, g_MO ca en ad)) :: n_MO ca en ad = mz_lM ca en b ad := rfl
def mz_zM : mz_St := mz_pI ((fun _ _ => 0, fun _ _ => 0)) 0 7 (-1 : Int32)
theorem mz_qC : ∀ i, i < 80 → ∀ j, j < 80 → mz_pC i = mz_pC j → i = j := by decide +kernel
set_option maxRecDepth 100000 in
set_option maxHeartbeats 4000000 in
theorem mz_wC {dC : Nat → ClassId} {dI : Nat → Nat → Nat} {ca : Nat → ClassId} {en : Nat → Nat} {b : Nat} {ad : Nat → Nat} {H : Heap} (hP : va_P (dC, dI) mz_cl ((b, .inr (0, g_MH ca en ad)) :: n_MH ca en ad) H) : va_P (dC, dI) mz_cl (mz_w mz_tC 80 (mz_aC b ad) en ca mz_zC) H := by
  rw [mz_fC] at hP
  intro k q hk
  obtain ⟨hk, rfl⟩ := mz_w_get hk
  match k, hk with
  | 0, _ => exact hP 0 _ rfl
  | 1, _ => exact hP 2 _ rfl
  | 2, _ => exact hP 5 _ rfl
  | 3, _ => exact hP 4 _ rfl
  | 4, _ => exact hP 3 _ rfl
  | 5, _ => exact hP 1 _ rfl
  | 6, _ => exact hP 8 _ rfl
  | 7, _ => exact hP 11 _ rfl
  | 8, _ => exact hP 16 _ rfl
  | 9, _ => exact hP 15 _ rfl
  | 10, _ => exact hP 14 _ rfl
  | 11, _ => exact hP 13 _ rfl
  | 12, _ => exact hP 12 _ rfl
  | 13, _ => exact hP 9 _ rfl
  | 14, _ => exact hP 23 _ rfl
  | 15, _ => exact hP 22 _ rfl
  | 16, _ => exact hP 25 _ rfl
  | 17, _ => exact hP 24 _ rfl
  | 18, _ => exact hP 7 _ rfl
  | 19, _ => exact hP 34 _ rfl
  | 20, _ => exact hP 33 _ rfl
  | 21, _ => exact hP 32 _ rfl
  | 22, _ => exact hP 31 _ rfl
  | 23, _ => exact hP 30 _ rfl
  | 24, _ => exact hP 29 _ rfl
  | 25, _ => exact hP 28 _ rfl
  | 26, _ => exact hP 27 _ rfl
  | 27, _ => exact hP 26 _ rfl
  | 28, _ => exact hP 36 _ rfl
  | 29, _ => exact hP 35 _ rfl
  | 30, _ => exact hP 6 _ rfl
  | 31, _ =>
    refine mi_refs (n := 13) (hP 50 _ rfl) (fun j hj => ?_)
    have hj : j < 13 := hj
    match j, hj with
    | 0, _ => rfl
    | 1, _ => rfl
    | 2, _ => rfl
    | 3, _ => rfl
    | 4, _ => rfl
    | 5, _ => rfl
    | 6, _ => rfl
    | 7, _ => rfl
    | 8, _ => rfl
    | 9, _ => rfl
    | 10, _ => rfl
    | 11, _ => rfl
    | 12, _ => rfl
    | j + 13, hj => exact absurd hj (by omega)
  | 32, _ => exact hP 10 _ rfl
  | 33, _ => exact hP 21 _ rfl
  | 34, _ => exact hP 20 _ rfl
  | 35, _ => exact hP 19 _ rfl
  | 36, _ => exact hP 18 _ rfl
  | 37, _ => exact hP 17 _ rfl
  | 38, _ => exact hP 49 _ rfl
  | 39, _ => exact hP 48 _ rfl
  | 40, _ => exact hP 47 _ rfl
  | 41, _ => exact hP 46 _ rfl
  | 42, _ => exact hP 45 _ rfl
  | 43, _ => exact hP 44 _ rfl
  | 44, _ => exact hP 43 _ rfl
  | 45, _ => exact hP 42 _ rfl
  | 46, _ => exact hP 41 _ rfl
  | 47, _ => exact hP 40 _ rfl
  | 48, _ => exact hP 39 _ rfl
  | 49, _ => exact hP 38 _ rfl
  | 50, _ => exact hP 37 _ rfl
  | 51, _ => exact hP 51 _ rfl
  | 52, _ => exact hP 55 _ rfl
  | 53, _ => exact hP 57 _ rfl
  | 54, _ => exact hP 59 _ rfl
  | 55, _ => exact hP 61 _ rfl
  | 56, _ => exact hP 63 _ rfl
  | 57, _ => exact hP 65 _ rfl
  | 58, _ => exact hP 67 _ rfl
  | 59, _ => exact hP 69 _ rfl
  | 60, _ => exact hP 71 _ rfl
  | 61, _ => exact hP 73 _ rfl
  | 62, _ => exact hP 75 _ rfl
  | 63, _ => exact hP 77 _ rfl
  | 64, _ => exact hP 79 _ rfl
  | 65, _ => exact hP 53 _ rfl
  | 66, _ => exact hP 54 _ rfl
  | 67, _ => exact hP 56 _ rfl
  | 68, _ => exact hP 58 _ rfl
  | 69, _ => exact hP 60 _ rfl
  | 70, _ => exact hP 62 _ rfl
  | 71, _ => exact hP 64 _ rfl
  | 72, _ => exact hP 66 _ rfl
  | 73, _ => exact hP 68 _ rfl
  | 74, _ => exact hP 70 _ rfl
  | 75, _ => exact hP 72 _ rfl
  | 76, _ => exact hP 74 _ rfl
  | 77, _ => exact hP 76 _ rfl
  | 78, _ => exact hP 78 _ rfl
  | 79, _ => exact hP 52 _ rfl
  | k + 80, hk => exact absurd hk (by omega)
set_option maxRecDepth 100000 in
set_option maxHeartbeats 4000000 in
theorem mz_jC {ca : Nat → ClassId} {en : Nat → Nat} {A : Nat → Prop} {b : Nat} {ad : Nat → Nat} (hD : va_D A ((b, .inr (0, g_MH ca en ad)) :: n_MH ca en ad)) : mz_J (mz_aC b ad) 80 ∧ ∀ k, k < 80 → A (mz_aC b ad k) := by
  rw [mz_fC] at hD
  have key : ∀ k, k < 80 → ∃ e, (mz_lC ca en b ad)[mz_pC k]? = some (mz_aC b ad k, e) := by
    intro k hk
    match k, hk with
    | 0, _ => exact ⟨_, rfl⟩
    | 1, _ => exact ⟨_, rfl⟩
    | 2, _ => exact ⟨_, rfl⟩
    | 3, _ => exact ⟨_, rfl⟩
    | 4, _ => exact ⟨_, rfl⟩
    | 5, _ => exact ⟨_, rfl⟩
    | 6, _ => exact ⟨_, rfl⟩
    | 7, _ => exact ⟨_, rfl⟩
    | 8, _ => exact ⟨_, rfl⟩
    | 9, _ => exact ⟨_, rfl⟩
    | 10, _ => exact ⟨_, rfl⟩
    | 11, _ => exact ⟨_, rfl⟩
    | 12, _ => exact ⟨_, rfl⟩
    | 13, _ => exact ⟨_, rfl⟩
    | 14, _ => exact ⟨_, rfl⟩
    | 15, _ => exact ⟨_, rfl⟩
    | 16, _ => exact ⟨_, rfl⟩
    | 17, _ => exact ⟨_, rfl⟩
    | 18, _ => exact ⟨_, rfl⟩
    | 19, _ => exact ⟨_, rfl⟩
    | 20, _ => exact ⟨_, rfl⟩
    | 21, _ => exact ⟨_, rfl⟩
    | 22, _ => exact ⟨_, rfl⟩
    | 23, _ => exact ⟨_, rfl⟩
    | 24, _ => exact ⟨_, rfl⟩
    | 25, _ => exact ⟨_, rfl⟩
    | 26, _ => exact ⟨_, rfl⟩
    | 27, _ => exact ⟨_, rfl⟩
    | 28, _ => exact ⟨_, rfl⟩
    | 29, _ => exact ⟨_, rfl⟩
    | 30, _ => exact ⟨_, rfl⟩
    | 31, _ => exact ⟨_, rfl⟩
    | 32, _ => exact ⟨_, rfl⟩
    | 33, _ => exact ⟨_, rfl⟩
    | 34, _ => exact ⟨_, rfl⟩
    | 35, _ => exact ⟨_, rfl⟩
    | 36, _ => exact ⟨_, rfl⟩
    | 37, _ => exact ⟨_, rfl⟩
    | 38, _ => exact ⟨_, rfl⟩
    | 39, _ => exact ⟨_, rfl⟩
    | 40, _ => exact ⟨_, rfl⟩
    | 41, _ => exact ⟨_, rfl⟩
    | 42, _ => exact ⟨_, rfl⟩
    | 43, _ => exact ⟨_, rfl⟩
    | 44, _ => exact ⟨_, rfl⟩
    | 45, _ => exact ⟨_, rfl⟩
    | 46, _ => exact ⟨_, rfl⟩
    | 47, _ => exact ⟨_, rfl⟩
    | 48, _ => exact ⟨_, rfl⟩
    | 49, _ => exact ⟨_, rfl⟩
    | 50, _ => exact ⟨_, rfl⟩
    | 51, _ => exact ⟨_, rfl⟩
    | 52, _ => exact ⟨_, rfl⟩
    | 53, _ => exact ⟨_, rfl⟩
    | 54, _ => exact ⟨_, rfl⟩
    | 55, _ => exact ⟨_, rfl⟩
    | 56, _ => exact ⟨_, rfl⟩
    | 57, _ => exact ⟨_, rfl⟩
    | 58, _ => exact ⟨_, rfl⟩
    | 59, _ => exact ⟨_, rfl⟩
    | 60, _ => exact ⟨_, rfl⟩
    | 61, _ => exact ⟨_, rfl⟩
    | 62, _ => exact ⟨_, rfl⟩
    | 63, _ => exact ⟨_, rfl⟩
    | 64, _ => exact ⟨_, rfl⟩
    | 65, _ => exact ⟨_, rfl⟩
    | 66, _ => exact ⟨_, rfl⟩
    | 67, _ => exact ⟨_, rfl⟩
    | 68, _ => exact ⟨_, rfl⟩
    | 69, _ => exact ⟨_, rfl⟩
    | 70, _ => exact ⟨_, rfl⟩
    | 71, _ => exact ⟨_, rfl⟩
    | 72, _ => exact ⟨_, rfl⟩
    | 73, _ => exact ⟨_, rfl⟩
    | 74, _ => exact ⟨_, rfl⟩
    | 75, _ => exact ⟨_, rfl⟩
    | 76, _ => exact ⟨_, rfl⟩
    | 77, _ => exact ⟨_, rfl⟩
    | 78, _ => exact ⟨_, rfl⟩
    | 79, _ => exact ⟨_, rfl⟩
    | k + 80, hk => exact absurd hk (by omega)
  refine ⟨fun i j hi hj h => ?_, fun k hk => ?_⟩
  · obtain ⟨e1, h1⟩ := key i hi
    obtain ⟨e2, h2⟩ := key j hj
    exact mz_qC i hi j hj (hD.1 _ _ _ _ h1 h2 h)
  · obtain ⟨e, h1⟩ := key k hk
    exact hD.2 _ _ h1
theorem mz_qM : ∀ i, i < 55 → ∀ j, j < 55 → mz_pM i = mz_pM j → i = j := by decide +kernel
set_option maxRecDepth 100000 in
set_option maxHeartbeats 4000000 in
theorem mz_wM {dC : Nat → ClassId} {dI : Nat → Nat → Nat} {ca : Nat → ClassId} {en : Nat → Nat} {b : Nat} {ad : Nat → Nat} {H : Heap} (hP : va_P (dC, dI) mz_cl ((b, .inr (11, g_MO ca en ad)) :: n_MO ca en ad) H) : va_P (dC, dI) mz_cl (mz_w mz_tM 55 (mz_aM b ad) en ca mz_zM) H := by
  rw [mz_fM] at hP
  intro k q hk
  obtain ⟨hk, rfl⟩ := mz_w_get hk
  match k, hk with
  | 0, _ => exact hP 0 _ rfl
  | 1, _ => exact hP 54 _ rfl
  | 2, _ => exact hP 53 _ rfl
  | 3, _ => exact hP 52 _ rfl
  | 4, _ => exact hP 51 _ rfl
  | 5, _ => exact hP 50 _ rfl
  | 6, _ => exact hP 49 _ rfl
  | 7, _ => exact hP 48 _ rfl
  | 8, _ => exact hP 47 _ rfl
  | 9, _ => exact hP 46 _ rfl
  | 10, _ => exact hP 45 _ rfl
  | 11, _ => exact hP 44 _ rfl
  | 12, _ => exact hP 43 _ rfl
  | 13, _ => exact hP 42 _ rfl
  | 14, _ => exact hP 41 _ rfl
  | 15, _ => exact hP 40 _ rfl
  | 16, _ => exact hP 39 _ rfl
  | 17, _ => exact hP 38 _ rfl
  | 18, _ => exact hP 37 _ rfl
  | 19, _ => exact hP 36 _ rfl
  | 20, _ => exact hP 35 _ rfl
  | 21, _ => exact hP 34 _ rfl
  | 22, _ => exact hP 33 _ rfl
  | 23, _ => exact hP 32 _ rfl
  | 24, _ => exact hP 31 _ rfl
  | 25, _ => exact hP 30 _ rfl
  | 26, _ => exact hP 29 _ rfl
  | 27, _ => exact hP 28 _ rfl
  | 28, _ => exact hP 27 _ rfl
  | 29, _ => exact hP 26 _ rfl
  | 30, _ => exact hP 25 _ rfl
  | 31, _ => exact hP 24 _ rfl
  | 32, _ => exact hP 23 _ rfl
  | 33, _ => exact hP 22 _ rfl
  | 34, _ => exact hP 21 _ rfl
  | 35, _ => exact hP 20 _ rfl
  | 36, _ => exact hP 19 _ rfl
  | 37, _ => exact hP 18 _ rfl
  | 38, _ => exact hP 17 _ rfl
  | 39, _ => exact hP 16 _ rfl
  | 40, _ => exact hP 15 _ rfl
  | 41, _ => exact hP 14 _ rfl
  | 42, _ => exact hP 13 _ rfl
  | 43, _ => exact hP 12 _ rfl
  | 44, _ => exact hP 11 _ rfl
  | 45, _ => exact hP 10 _ rfl
  | 46, _ => exact hP 9 _ rfl
  | 47, _ => exact hP 8 _ rfl
  | 48, _ => exact hP 7 _ rfl
  | 49, _ => exact hP 6 _ rfl
  | 50, _ => exact hP 5 _ rfl
  | 51, _ => exact hP 4 _ rfl
  | 52, _ => exact hP 3 _ rfl
  | 53, _ => exact hP 2 _ rfl
  | 54, _ => exact hP 1 _ rfl
  | k + 55, hk => exact absurd hk (by omega)
set_option maxRecDepth 100000 in
set_option maxHeartbeats 4000000 in
theorem mz_jM {ca : Nat → ClassId} {en : Nat → Nat} {A : Nat → Prop} {b : Nat} {ad : Nat → Nat} (hD : va_D A ((b, .inr (11, g_MO ca en ad)) :: n_MO ca en ad)) : mz_J (mz_aM b ad) 55 ∧ ∀ k, k < 55 → A (mz_aM b ad k) := by
  rw [mz_fM] at hD
  have key : ∀ k, k < 55 → ∃ e, (mz_lM ca en b ad)[mz_pM k]? = some (mz_aM b ad k, e) := by
    intro k hk
    match k, hk with
    | 0, _ => exact ⟨_, rfl⟩
    | 1, _ => exact ⟨_, rfl⟩
    | 2, _ => exact ⟨_, rfl⟩
    | 3, _ => exact ⟨_, rfl⟩
    | 4, _ => exact ⟨_, rfl⟩
    | 5, _ => exact ⟨_, rfl⟩
    | 6, _ => exact ⟨_, rfl⟩
    | 7, _ => exact ⟨_, rfl⟩
    | 8, _ => exact ⟨_, rfl⟩
    | 9, _ => exact ⟨_, rfl⟩
    | 10, _ => exact ⟨_, rfl⟩
    | 11, _ => exact ⟨_, rfl⟩
    | 12, _ => exact ⟨_, rfl⟩
    | 13, _ => exact ⟨_, rfl⟩
    | 14, _ => exact ⟨_, rfl⟩
    | 15, _ => exact ⟨_, rfl⟩
    | 16, _ => exact ⟨_, rfl⟩
    | 17, _ => exact ⟨_, rfl⟩
    | 18, _ => exact ⟨_, rfl⟩
    | 19, _ => exact ⟨_, rfl⟩
    | 20, _ => exact ⟨_, rfl⟩
    | 21, _ => exact ⟨_, rfl⟩
    | 22, _ => exact ⟨_, rfl⟩
    | 23, _ => exact ⟨_, rfl⟩
    | 24, _ => exact ⟨_, rfl⟩
    | 25, _ => exact ⟨_, rfl⟩
    | 26, _ => exact ⟨_, rfl⟩
    | 27, _ => exact ⟨_, rfl⟩
    | 28, _ => exact ⟨_, rfl⟩
    | 29, _ => exact ⟨_, rfl⟩
    | 30, _ => exact ⟨_, rfl⟩
    | 31, _ => exact ⟨_, rfl⟩
    | 32, _ => exact ⟨_, rfl⟩
    | 33, _ => exact ⟨_, rfl⟩
    | 34, _ => exact ⟨_, rfl⟩
    | 35, _ => exact ⟨_, rfl⟩
    | 36, _ => exact ⟨_, rfl⟩
    | 37, _ => exact ⟨_, rfl⟩
    | 38, _ => exact ⟨_, rfl⟩
    | 39, _ => exact ⟨_, rfl⟩
    | 40, _ => exact ⟨_, rfl⟩
    | 41, _ => exact ⟨_, rfl⟩
    | 42, _ => exact ⟨_, rfl⟩
    | 43, _ => exact ⟨_, rfl⟩
    | 44, _ => exact ⟨_, rfl⟩
    | 45, _ => exact ⟨_, rfl⟩
    | 46, _ => exact ⟨_, rfl⟩
    | 47, _ => exact ⟨_, rfl⟩
    | 48, _ => exact ⟨_, rfl⟩
    | 49, _ => exact ⟨_, rfl⟩
    | 50, _ => exact ⟨_, rfl⟩
    | 51, _ => exact ⟨_, rfl⟩
    | 52, _ => exact ⟨_, rfl⟩
    | 53, _ => exact ⟨_, rfl⟩
    | 54, _ => exact ⟨_, rfl⟩
    | k + 55, hk => exact absurd hk (by omega)
  refine ⟨fun i j hi hj h => ?_, fun k hk => ?_⟩
  · obtain ⟨e1, h1⟩ := key i hi
    obtain ⟨e2, h2⟩ := key j hj
    exact mz_qM i hi j hj (hD.1 _ _ _ _ h1 h2 h)
  · obtain ⟨e, h1⟩ := key k hk
    exact hD.2 _ _ h1
