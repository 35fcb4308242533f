/-! PURE: the reference's value: what is open is read to its end -/
def mv_rc (L : Nat → Int32) (e : Nat) (fac : Int32 → Nat → sp_A) (cmp : Nat) (first : Int32) (r : Int32 × Int32 × Nat) : sp_A :=
  if cmp = 0 then (if sp_cm L e (sp_nb L r.2.2 e) = 0 then some (r.1, r.2.1, sp_nb L r.2.2 e)
    else (sp_su L e fac r.2.1 (sp_nb L r.2.2 e + (if sp_cm L e (sp_nb L r.2.2 e) = 3 then 1 else 2))).bind fun z => some (sp_bi (sp_is (sp_cm L e (sp_nb L r.2.2 e)) r.1 z.1), z.2.1, z.2.2))
  else some (sp_bi (sp_is cmp first r.1), r.2.1, r.2.2)
def mv_rs (L : Nat → Int32) (e : Nat) (fac : Int32 → Nat → sp_A) (K2 cmp : Nat) (first plus sum : Int32) (r : Int32 × Int32 × Nat) : sp_A := (sp_suT L e (sp_pr L e fac) K2 (mv_sv plus sum r.1) r.2.1 r.2.2).bind (mv_rc L e fac cmp first)
def mv_rest (L : Nat → Int32) (e : Nat) (fac : Int32 → Nat → sp_A) (K K2 cmp : Nat) (first plus sum times prod v m : Int32) (q : Nat) : sp_A := (sp_prT L e fac K (mv_tv times prod v m).1 (mv_tv times prod v m).2 q).bind (mv_rs L e fac K2 cmp first plus sum)
theorem mv_bb {α β γ : Type} (x : Option α) (f : α → Option β) (g : β → Option γ) : (x.bind f).bind g = x.bind fun a => (f a).bind g := by
  cases x <;> rfl
theorem sp_prT_op {L : Nat → Int32} {e K q : Nat} {fac : Int32 → Nat → sp_A} {v m d : Int32} (hd : sp_at L e (sp_nb L q e) = d) (h : d = 42 ∨ d = 47 ∨ d = 37) : sp_prT L e fac (K + 1) v m q = (fac m (sp_nb L q e + 1)).bind fun r => sp_prT L e fac K (mv_tv d v r.1 r.2.1).1 (mv_tv d v r.1 r.2.1).2 r.2.2 := by
  rcases h with h | h | h
  · subst h
    simp only [sp_prT, hd, if_true]
    rfl
  · subst h
    simp only [sp_prT, hd, if_true]
    rw [if_neg (show ¬ (47 : Int32) = 42 by decide)]
    congr 1
    funext r
    unfold mv_tv
    rw [if_neg (show ¬ (47 : Int32) = 42 by decide), if_pos rfl]
    by_cases h0 : r.1 = 0
    · simp only [h0, if_true]
    · simp only [h0, if_false]
  · subst h
    simp only [sp_prT, hd, if_true]
    rw [if_neg (show ¬ (37 : Int32) = 42 by decide), if_neg (show ¬ (37 : Int32) = 47 by decide)]
    congr 1
    funext r
    unfold mv_tv
    rw [if_neg (show ¬ (37 : Int32) = 42 by decide), if_neg (show ¬ (37 : Int32) = 47 by decide), if_pos rfl]
    by_cases h0 : r.1 = 0
    · simp only [h0, if_true]
    · simp only [h0, if_false]
theorem sp_prT_no {L : Nat → Int32} {e K q : Nat} {fac : Int32 → Nat → sp_A} {v m d : Int32} (hd : sp_at L e (sp_nb L q e) = d) (h : ¬ (d = 42 ∨ d = 47 ∨ d = 37)) : sp_prT L e fac K v m q = some (v, m, sp_nb L q e) := by
  cases K with
  | zero => rfl
  | succ K =>
    simp only [sp_prT, hd]
    rw [if_neg (fun z => h (Or.inl z)), if_neg (fun z => h (Or.inr (Or.inl z))), if_neg (fun z => h (Or.inr (Or.inr z)))]
theorem sp_suT_op {L : Nat → Int32} {e K q : Nat} {pr : Int32 → Nat → sp_A} {v m d : Int32} (hd : sp_at L e (sp_nb L q e) = d) (h : d = 43 ∨ d = 45) : sp_suT L e pr (K + 1) v m q = (pr m (sp_nb L q e + 1)).bind fun r => sp_suT L e pr K (mv_sv d v r.1) r.2.1 r.2.2 := by
  rcases h with h | h
  · subst h
    simp only [sp_suT, hd, if_true]
    rfl
  · subst h
    simp only [sp_suT, hd, if_true]
    rw [if_neg (show ¬ (45 : Int32) = 43 by decide)]
    rfl
theorem sp_suT_no {L : Nat → Int32} {e K q : Nat} {pr : Int32 → Nat → sp_A} {v m d : Int32} (hd : sp_at L e (sp_nb L q e) = d) (h : ¬ (d = 43 ∨ d = 45)) : sp_suT L e pr K v m q = some (v, m, sp_nb L q e) := by
  cases K with
  | zero => rfl
  | succ K =>
    simp only [sp_suT, hd]
    rw [if_neg (fun z => h (Or.inl z)), if_neg (fun z => h (Or.inr z))]
theorem mv_tv0 (prod v m : Int32) : mv_tv 0 prod v m = (v, m) := by
  unfold mv_tv
  rw [if_neg (by decide), if_neg (by decide), if_neg (by decide)]
theorem mv_sv0 (sum v : Int32) : mv_sv 0 sum v = v := by
  unfold mv_sv
  rw [if_neg (by decide), if_neg (by decide)]
def mv_fok (n : Nat) (L : Nat → Int32) (e : Nat) (C : mz_St → Prop) (c : Nat) (fac : Int32 → Nat → sp_A) : Prop :=
  ∀ k x2 t q m, mv_at L e C t c q m → 2 * (e - q) + c + 2 ≤ k → match fac m q with
    | none => mv_bad e t (f_MO_value_19 n k 0 x2 t)
    | some z => ∃ k' t', f_MO_value_19 n k 0 x2 t = f_MO_value_19 n k' 1 z.1 t' ∧ mv_at L e C t' c z.2.2 z.2.1 ∧ 2 * (e - z.2.2) + c + 2 ≤ k' ∧ mv_F t t' ∧ mv_S (c + 1) t t'
def mv_end (n : Nat) (L : Nat → Int32) (e : Nat) (C : mz_St → Prop) (c : Nat) (t : mz_St) (X : Option (Int32 × mz_St)) (A : sp_A) : Prop := match A with
  | none => mv_bad e t X
  | some z => ∃ k' t', X = f_MO_value_496 n (f_MO_value_19 n k') 1 z.1 t' ∧ mv_at L e C t' c z.2.2 z.2.1 ∧ 2 * (e - z.2.2) + c + 1 ≤ k' ∧ mv_F t t' ∧ mv_S c t t'
theorem mv_bad.mono {e : Nat} {t t' : mz_St} {X : Option (Int32 × mz_St)} (F : mv_F t t') (h : mv_bad e t' X) : mv_bad e t X := by
  obtain ⟨a, p, h1, h2, h3, h4, h5⟩ := h
  exact ⟨a, p, h1, h2, h3, h4, F.tr h5⟩
theorem mv_end.mono {n : Nat} {L : Nat → Int32} {e : Nat} {C : mz_St → Prop} {c : Nat} {t t' : mz_St} {X : Option (Int32 × mz_St)} {A : sp_A} (F : mv_F t t') (S : mv_S c t t') (h : mv_end n L e C c t' X A) : mv_end n L e C c t X A := by
  cases A with
  | none => exact mv_bad.mono F h
  | some z =>
    obtain ⟨k', a, h1, h2, h3, h4, h5⟩ := h
    exact ⟨k', a, h1, h2, h3, F.tr h4, S.tr h5⟩
theorem mv_at_mk {L : Nat → Int32} {e : Nat} {C : mz_St → Prop} {t t1 : mz_St} {c q q1 : Nat} {m m1 : Int32} (hK : mv_K C) (h : mv_at L e C t c q m) (F : mv_F t t1) (hq1 : q1 ≤ e) (g61 : mz_gI t1 0 61 = nI q1) (g62 : mz_gI t1 0 62 = 1) (g64 : mz_gI t1 0 64 = m1) (g67 : mz_gI t1 0 67 = nI (c + 1)) : mv_at L e C t1 c q1 m1 := by
  obtain ⟨⟨p, hR, -, -⟩, hq, hL, -, -, -, hc, hC⟩ := h
  have he := hR.2.2.1
  refine ⟨⟨q1, ⟨?_, g61, he, by omega⟩, Nat.le_refl _, (sp_nb_le L hq1).1⟩, hq1, ?_, g62, g64, g67, hc, hK _ _ F hC⟩
  · rw [F.1 0 60 (by omega) (by omega)]; exact hR.1
  · rw [F.row (by decide) (by omega)]; exact hL
set_option maxHeartbeats 1000000 in
theorem mv_frame {n : Nat} {L : Nat → Int32} {e : Nat} {C : mz_St → Prop} {c : Nat} {fac : Int32 → Nat → sp_A} (hn : 10000 ≤ n) (hK : mv_K C) (hfac : mv_fok n L e C c fac) (hgo : sp_go e fac 1) :
    ∀ N K K2 k t q cmp (m v times prod plus sum first : Int32), e - q = N → mv_at L e C t c q m → mz_gI t 44 c ≠ 2 → mz_gI t 45 c = nI cmp → cmp ≤ 4 → mz_gI t 46 c = plus → mz_gI t 47 c = times → mz_gI t 48 c = first → mz_gI t 49 c = sum → mz_gI t 50 c = prod → e - q < K → e - q < K2 → 2 * (e - q) + c + 2 ≤ k →
      mv_end n L e C c t (f_MO_value_19 n k 1 v t) (mv_rest L e fac K K2 cmp first plus sum times prod v m q) := by
  intro N
  induction N using Nat.strongRecOn with
  | ind N ih =>
    intro K K2 k t q cmp m v times prod plus sum first hN hat h44 h45 hcmp h46 h47 h48 h49 h50 hKK hK2 hk
    obtain ⟨k0, rfl⟩ : ∃ k0, k = k0 + 1 := ⟨k - 1, by omega⟩
    obtain ⟨K', rfl⟩ : ∃ K', K = K' + 1 := ⟨K - 1, by omega⟩
    obtain ⟨K2', rfl⟩ : ∃ K2', K2 = K2' + 1 := ⟨K2 - 1, by omega⟩
    have hq := hat.2.1
    have hle := sp_nb_le L hq
    have hid := sp_nb_id L hq
    have h62 := hat.2.2.2.1
    have h67 := hat.2.2.2.2.2.1
    rw [mv_step1 hn hat h44 h45 hcmp h46 h47 h48 h49 h50 rfl rfl rfl rfl rfl rfl]
    generalize hv1 : (mv_tv times prod v m).1 = v1
    generalize hm1 : (mv_tv times prod v m).2 = m1
    generalize hv2 : mv_sv plus sum v1 = v2
    generalize hu : sp_nb L q e = u at *
    generalize hd : sp_at L e u = d at *
    generalize hcm : sp_cm L e u = cm at *
    -- a next factor
    have next : ∀ K K2 t1 q1 cmp (x times prod plus sum first : Int32), mv_at L e C t1 c q1 m1 → q < q1 → mv_F t t1 → mv_S c t t1 → mz_gI t1 44 c ≠ 2 → mz_gI t1 45 c = nI cmp → cmp ≤ 4 → mz_gI t1 46 c = plus → mz_gI t1 47 c = times → mz_gI t1 48 c = first → mz_gI t1 49 c = sum → mz_gI t1 50 c = prod → e - q1 < K → e - q1 < K2 →
        mv_end n L e C c t (f_MO_value_19 n k0 0 x t1) ((fac m1 q1).bind fun r => mv_rest L e fac K K2 cmp first plus sum times prod r.1 r.2.1 r.2.2) := by
      intro K K2 t1 q1 cmp x times prod plus sum first hat1 hq1 F1 S1 g44 g45 gcmp g46 g47 g48 g49 g50 hKK1 hKK2
      have hq1e := hat1.2.1
      have := hfac k0 x t1 q1 m1 hat1 (by omega)
      cases hz : fac m1 q1 with
      | none =>
        rw [hz] at this
        exact mv_bad.mono F1 this
      | some z =>
        rw [hz] at this
        obtain ⟨k', t', e1, at', f', F', S'⟩ := this
        have hg := hgo _ _ z hq1e hz
        rw [e1]
        have sc : ∀ a, 44 ≤ a → a ≤ 50 → mz_gI t' a c = mz_gI t1 a c := fun a h1 h2 => S' a c h1 h2 (by omega)
        exact mv_end.mono (F1.tr F') (S1.tr (S'.lo (by omega))) (ih (e - z.2.2) (by omega) K K2 k' t' z.2.2 cmp z.2.1 z.1 times prod plus sum first rfl at' (by rw [sc 44 (by omega) (by omega)]; exact g44) (by rw [sc 45 (by omega) (by omega)]; exact g45) gcmp (by rw [sc 46 (by omega) (by omega)]; exact g46) (by rw [sc 47 (by omega) (by omega)]; exact g47) (by rw [sc 48 (by omega) (by omega)]; exact g48) (by rw [sc 49 (by omega) (by omega)]; exact g49) (by rw [sc 50 (by omega) (by omega)]; exact g50) (by omega) (by omega) (by omega))
    have F1 : mv_F t (mv_t1 t c u m1) := (((mv_F.rf t).put _ (by omega)).put _ (by omega)).cell _ (by omega)
    have S1 : mv_S c t (mv_t1 t c u m1) := (((mv_S.rf c t).put _).put _).cell _ (by omega)
    have F2 : mv_F t (mv_t2 t c u m1) := F1.cell _ (by omega)
    have S2 : mv_S c t (mv_t2 t c u m1) := S1.cell _ (by omega)
    have hlt : ∀ x : Int32, x ≠ -1 → d = x → u < e := fun x hx h => sp_at_lt (hd.trans h) hx
    by_cases d1 : d = 42 ∨ d = 47 ∨ d = 37
    · rw [if_pos d1]
      have hul : u < e := by
        rcases d1 with d1 | d1 | d1
        · exact hlt 42 (by decide) d1
        · exact hlt 47 (by decide) d1
        · exact hlt 37 (by decide) d1
      unfold mv_rest
      rw [hv1, hm1, sp_prT_op (d := d) (by rw [hu]; exact hd) d1, hu, mv_bb]
      have F3 : mv_F t (mv_tm t c u m1 v1 d) := ((F1.cell _ (by omega)).cell _ (by omega)).put _ (by omega)
      have S3 : mv_S c t (mv_tm t c u m1 v1 d) := ((S1.cell _ (by omega)).cell _ (by omega)).put _
      refine next K' (K2' + 1) (mv_tm t c u m1 v1 d) (u + 1) cmp v1 d v1 plus sum first ?_ (by omega) F3 S3 ?_ ?_ hcmp ?_ ?_ ?_ ?_ ?_ (by omega) (by omega)
      · exact mv_at_mk hK hat F3 (by omega) rfl h62 rfl h67
      · exact h44
      · exact h45
      · exact h46
      · simp [mv_tm, gI_pI]
      · exact h48
      · exact h49
      · simp [mv_tm, gI_pI]
    · rw [if_neg d1]
      unfold mv_rest
      rw [hv1, hm1, sp_prT_no (d := d) (by rw [hu]; exact hd) d1, hu, Option.bind_some]
      unfold mv_rs
      simp only
      rw [hv2]
      by_cases d2 : d = 43 ∨ d = 45
      · rw [if_pos d2]
        have hul : u < e := by
          rcases d2 with d2 | d2
          · exact hlt 43 (by decide) d2
          · exact hlt 45 (by decide) d2
        rw [sp_suT_op (d := d) (by rw [hid]; exact hd) d2, hid, mv_bb]
        unfold sp_pr
        rw [mv_bb]
        have F3 : mv_F t (mv_tp t c u m1 v2 d) := ((F2.cell _ (by omega)).cell _ (by omega)).put _ (by omega)
        have S3 : mv_S c t (mv_tp t c u m1 v2 d) := ((S2.cell _ (by omega)).cell _ (by omega)).put _
        have nx := next (e + 1) K2' (mv_tp t c u m1 v2 d) (u + 1) cmp v2 0 prod d v2 first (mv_at_mk hK hat F3 (by omega) rfl h62 rfl h67) (by omega) F3 S3 h44 h45 hcmp (by simp [mv_tp, gI_pI]) (by simp [mv_tp, mv_t2, mv_t1, gI_pI]) h48 (by simp [mv_tp, gI_pI]) h50 (by omega) (by omega)
        unfold mv_rest at nx
        simp only [mv_tv0] at nx
        exact nx
      · rw [if_neg d2]
        rw [sp_suT_no (d := d) (by rw [hid]; exact hd) d2, hid, Option.bind_some]
        unfold mv_rc
        simp only
        rw [hid, hcm]
        have at2 : mv_at L e C (mv_t2 t c u m1) c u m1 := mv_at_mk hK hat F2 hle.2 rfl h62 rfl h67
        by_cases c0 : cmp = 0
        · rw [if_pos c0, if_pos c0]
          by_cases cm0 : cm = 0
          · rw [if_pos cm0, if_pos cm0]
            exact ⟨k0, _, rfl, at2, by show 2 * (e - u) + c + 1 ≤ k0; omega, F2, S2⟩
          · rw [if_neg cm0, if_neg cm0]
            have hcl := sp_cm_lt (L := L) (e := e) (q := u) (by rw [hcm]; exact cm0)
            rw [hcm] at hcl
            have h4 : cm ≤ 4 := by rw [← hcm]; exact sp_cm_le _ _ _
            have hdl : 1 ≤ (if cm = 3 then 1 else 2) := by split <;> omega
            generalize hdd : (if cm = 3 then 1 else 2) = dl at *
            unfold sp_su
            rw [mv_bb]
            unfold sp_pr
            rw [mv_bb]
            have F3 : mv_F t (mv_tc t c u dl m1 v2 (nI cm)) := ((F2.put _ (by omega)).cell _ (by omega)).cell _ (by omega)
            have S3 : mv_S c t (mv_tc t c u dl m1 v2 (nI cm)) := ((S2.put _).cell _ (by omega)).cell _ (by omega)
            have nx := next (e + 1) (e + 1) (mv_tc t c u dl m1 v2 (nI cm)) (u + dl) cm v2 0 prod 0 sum v2 (mv_at_mk hK hat F3 hcl rfl h62 rfl h67) (by omega) F3 S3 h44 (by simp [mv_tc, gI_pI]) h4 (by simp [mv_tc, mv_t2, gI_pI]) (by simp [mv_tc, mv_t2, mv_t1, gI_pI]) (by simp [mv_tc, gI_pI]) h49 h50 (by omega) (by omega)
            unfold mv_rest mv_rs mv_rc at nx
            simp only [mv_tv0, mv_sv0, cm0, if_false] at nx
            exact nx
        · rw [if_neg c0, if_neg c0]
          exact ⟨k0, _, rfl, at2, by show 2 * (e - u) + c + 1 ≤ k0; omega, F2, S2⟩
