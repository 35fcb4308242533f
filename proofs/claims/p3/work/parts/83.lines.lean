/-! PURE: the text's lines on both sides -/
def fl_s (f : Nat → Int32) (a b : Nat) : Nat := sp_find f 35 (b - a) a
def fl_p (f : Nat → Int32) (a b : Nat) : Nat := sp_bl f (fl_s f a b - a) a
def fl_e (f : Nat → Int32) (a b : Nat) : Nat := sp_tr f (fl_s f a b - fl_p f a b) (fl_s f a b)
theorem fl_in (f : Nat → Int32) {a b : Nat} (h : a ≤ b) : a ≤ fl_p f a b ∧ fl_p f a b ≤ fl_e f a b ∧ fl_e f a b ≤ fl_s f a b ∧ fl_s f a b ≤ b := by
  have h1 := sp_find_le f 35 (b - a) a
  have h2 := sp_bl_le f (fl_s f a b - a) a
  have h3 := sp_tr_le f (fl_s f a b - fl_p f a b) (fl_s f a b) (by omega)
  have e1 : sp_find f 35 (b - a) a = fl_s f a b := rfl
  have e2 : sp_bl f (fl_s f a b - a) a = fl_p f a b := rfl
  have e3 : sp_tr f (fl_s f a b - fl_p f a b) (fl_s f a b) = fl_e f a b := rfl
  rw [e1] at h1
  rw [e2] at h2
  rw [e3] at h3
  omega
/-- a line is kept: rows k1 (begin), k2 (end), counter (kc, jc) -/
def fl_w (k1 k2 kc jc c p e : Nat) (t : mz_St) : mz_St := mz_pI (mz_pI (mz_pI t k1 c (nI p)) k2 c (nI e)) kc jc (nI (c + 1))
def fl_go (k1 k2 kc jc : Nat) (f : Nat → Int32) (len : Nat) : Nat → Nat → Nat → Nat → mz_St → mz_St
  | 0, _, _, _, t => t
  | m + 1, a, x, c, t => if x = len ∨ f x = 10 then fl_go k1 k2 kc jc f len m (x + 1) (x + 1) (c + 1) (fl_w k1 k2 kc jc c (fl_p f a x) (fl_e f a x) t) else fl_go k1 k2 kc jc f len m a (x + 1) c t
theorem fl_keep {n a b c : Nat} {t : mz_St} (hn : 10000 ≤ n) (hc : mz_gI t 1 4 = nI c) (hc3 : c < 3001) (ha : a ≤ b) (hb : b ≤ 3000) :
    f_SI_keepRange n (nI a) (nI b) t = some (fl_w 3 4 1 4 c (fl_p (mz_gI t 2) a b) (fl_e (mz_gI t 2) a b) t) := by
  obtain ⟨h1, h2, h3, h4⟩ := fl_in (mz_gI t 2) ha
  unfold f_SI_keepRange
  rw [hc, if_neg (show ¬ (3001 : Int32) ≤ nI c from nI_ge (b := 3001) hc3 (by decide)), if_pos (show nI c < (3001 : Int32) from nI_lt (b := 3001) hc3 (by decide)), ev_find hn (by omega) ha]
  simp only [Option.bind_some]
  rw [show sp_find (mz_gI t 2) 35 (b - a) a = fl_s (mz_gI t 2) a b from rfl, ev_behind hn (by omega) (by omega)]
  simp only [Option.bind_some]
  rw [show sp_bl (mz_gI t 2) (fl_s (mz_gI t 2) a b - a) a = fl_p (mz_gI t 2) a b from rfl, hc, if_pos (pz_in hc3 (by decide)), nI_clamp (by omega)]
  simp only [mz_let]
  rw [ev_ahead hn (by omega) (by omega)]
  simp only [Option.bind_some]
  rw [show mz_gI (mz_pI t 3 c (nI (fl_p (mz_gI t 2) a b))) 1 4 = nI c from hc, if_pos (pz_in hc3 (by decide)), nI_clamp (by omega), show mz_gI (mz_pI t 3 c (nI (fl_p (mz_gI t 2) a b))) 2 = mz_gI t 2 from rfl,
    show sp_tr (mz_gI t 2) (fl_s (mz_gI t 2) a b - fl_p (mz_gI t 2) a b) (fl_s (mz_gI t 2) a b) = fl_e (mz_gI t 2) a b from rfl]
  rw [show mz_gI (mz_pI (mz_pI t 3 c (nI (fl_p (mz_gI t 2) a b))) 4 c (nI (fl_e (mz_gI t 2) a b))) 1 4 = nI c from hc, nI_1]
  rfl
theorem fl_part {n len : Nat} (hn : 10000 ≤ n) (hl : len ≤ 3000) : ∀ m k a x c t, m = len + 1 - x → x ≤ len + 1 → a ≤ x → c ≤ a → m < k → mz_gI t 1 3 = nI len → mz_gI t 1 4 = nI c →
    f_SI_partIntoLines_9 n k (nI a) (nI x) t = some (fl_go 3 4 1 4 (mz_gI t 2) len m a x c t) := by
  intro m
  induction m with
  | zero =>
    intro k a x c t hm hx _ _ hk h3 _
    obtain ⟨k, rfl⟩ : ∃ j, k = j + 1 := ⟨k - 1, by omega⟩
    unfold f_SI_partIntoLines_9
    rw [h3, if_pos (nI_lt (by omega) (by omega))]
    rfl
  | succ m ih =>
    intro k a x c t hm hx ha hca hk h3 h4
    obtain ⟨k, rfl⟩ : ∃ j, k = j + 1 := ⟨k - 1, by omega⟩
    unfold f_SI_partIntoLines_9
    rw [h3, if_neg (nI_nlt (by omega) (by omega))]
    unfold f_SI_partIntoLines_35 f_SI_partIntoLines_45
    have hw := fl_keep (t := t) hn h4 (by omega) ha (show x ≤ 3000 by omega)
    have hA := ih k (x + 1) (x + 1) (c + 1) (fl_w 3 4 1 4 c (fl_p (mz_gI t 2) a x) (fl_e (mz_gI t 2) a x) t) (by omega) (by omega) (by omega) (by omega) (by omega) h3 rfl
    have hB := ih k a (x + 1) c t (by omega) (by omega) (by omega) hca (by omega) h3 h4
    rw [show mz_gI (fl_w 3 4 1 4 c (fl_p (mz_gI t 2) a x) (fl_e (mz_gI t 2) a x) t) 2 = mz_gI t 2 from rfl] at hA
    by_cases he : x = len
    · rw [if_pos (by rw [he]), hw]
      simp only [Option.bind_some]
      rw [nI_1, hA]
      simp only [fl_go, he, true_or, if_true]
    · rw [if_neg (fun q => he ((nI_eq (by omega) (by omega)).mp q)), ev_at (by omega)]
      simp only [Option.bind_some]
      by_cases h10 : mz_gI t 2 x = 10
      · rw [if_pos h10, hw]
        simp only [Option.bind_some]
        rw [nI_1, hA]
        simp only [fl_go, h10, or_true, if_true]
      · rw [if_neg h10, nI_1, hB]
        simp only [fl_go, he, h10, or_self, if_false]
theorem fl_class {n len : Nat} {t : mz_St} (hn : 10000 ≤ n) (hl : len ≤ 3000) (h3 : mz_gI t 1 3 = nI len) :
    f_SI_partIntoLines n t = some (fl_go 3 4 1 4 (mz_gI t 2) len (len + 1) 0 0 0 (mz_pI t 1 4 0)) := by
  exact fl_part (t := mz_pI t 1 4 0) hn hl (len + 1) n 0 0 0 (by omega) (by omega) (by omega) (by omega) (by omega) h3 rfl
theorem fl_91 {n b : Nat} {K : Int32 → Int32 → mz_St → Option mz_St} {t : mz_St} {p : Nat} : ∀ k s, p ≤ s → s ≤ 3000 → s - p < k →
    f_MO_findLines_91 n K k (nI b) (nI p) (nI s) t = f_MO_findLines_117 n K (nI b) (nI p) (nI (sp_tr (mz_gI t 1) (s - p) s)) t := by
  intro k
  induction k with
  | zero => intro s _ _ h; omega
  | succ k ih =>
    intro s hp hs hk
    unfold f_MO_findLines_91
    by_cases h : s ≤ p
    · rw [if_pos (nI_le h (by omega)), show s - p = 0 by omega]
      rfl
    · obtain ⟨s, rfl⟩ : ∃ j, s = j + 1 := ⟨s - 1, by omega⟩
      rw [if_neg (nI_ge (by omega) (by omega)), nI_pred, if_pos (pz_in (by omega) (by decide)), nI_clamp (by omega), show s + 1 - p = (s - p) + 1 by omega]
      unfold sp_tr
      rw [show s + 1 - 1 = s by omega]
      by_cases h32 : mz_gI t 1 s = 32
      · rw [if_pos h32, if_pos h32, show nI (s + 1) + (-1 : Int32) = nI s from sb_m1 (p := s + 1) (by omega), ih s (by omega) (by omega) (by omega)]
      · rw [if_neg h32, if_neg h32]
theorem fl_68 {n b : Nat} (hn : 10000 ≤ n) {K : Int32 → Int32 → mz_St → Option mz_St} {t : mz_St} {s : Nat} (hs : s ≤ 3000) : ∀ k p, p ≤ s → s - p < k →
    f_MO_findLines_68 n K k (nI b) (nI p) (nI s) t = f_MO_findLines_91 n K n (nI b) (nI (sp_bl (mz_gI t 1) (s - p) p)) (nI s) t := by
  intro k
  induction k with
  | zero => intro p _ h; omega
  | succ k ih =>
    intro p hp hk
    unfold f_MO_findLines_68
    by_cases h : s ≤ p
    · rw [if_pos (nI_le h (by omega)), show s - p = 0 by omega]
      rfl
    · obtain ⟨d, hd⟩ : ∃ d, s - p = d + 1 := ⟨s - p - 1, by omega⟩
      rw [if_neg (nI_ge (by omega) (by omega)), if_pos (pz_in (by omega) (by decide)), nI_clamp (by omega), hd]
      unfold sp_bl
      by_cases h32 : mz_gI t 1 p = 32
      · rw [if_pos h32, if_pos h32, nI_1, ih (p + 1) (by omega) (by omega), show s - (p + 1) = d by omega]
      · rw [if_neg h32, if_neg h32]
theorem fl_44 {n b a : Nat} {K : Int32 → Int32 → mz_St → Option mz_St} {t : mz_St} (hb : b ≤ 3000) : ∀ k x, x ≤ b → b - x < k →
    f_MO_findLines_44 n K k (nI b) (nI a) (nI x) t = f_MO_findLines_68 n K n (nI b) (nI a) (nI (sp_find (mz_gI t 1) 35 (b - x) x)) t := by
  intro k
  induction k with
  | zero => intro x _ h; omega
  | succ k ih =>
    intro x hx hk
    unfold f_MO_findLines_44
    by_cases h : b ≤ x
    · rw [if_pos (nI_le h (by omega)), show b - x = 0 by omega]
      rfl
    · obtain ⟨d, hd⟩ : ∃ d, b - x = d + 1 := ⟨b - x - 1, by omega⟩
      rw [if_neg (nI_ge (by omega) (by omega)), if_pos (pz_in (by omega) (by decide)), nI_clamp (by omega), hd]
      unfold sp_find
      by_cases h35 : mz_gI t 1 x = 35
      · rw [if_pos h35, if_pos h35]
      · rw [if_neg h35, if_neg h35, nI_1, ih (x + 1) (by omega) (by omega), show b - (x + 1) = d by omega]
theorem fl_39 {n a b c : Nat} {K : Int32 → Int32 → mz_St → Option mz_St} {t : mz_St} (hn : 10000 ≤ n) (hc : mz_gI t 0 3 = nI c) (hc3 : c < 3001) (ha : a ≤ b) (hb : b ≤ 3000) :
    f_MO_findLines_39 n K (nI a) (nI b) t = K (nI (b + 1)) (nI (b + 1)) (fl_w 2 3 0 3 c (fl_p (mz_gI t 1) a b) (fl_e (mz_gI t 1) a b) t) := by
  obtain ⟨h1, h2, h3, h4⟩ := fl_in (mz_gI t 1) ha
  unfold f_MO_findLines_39
  rw [fl_44 hb n a ha (by omega), show sp_find (mz_gI t 1) 35 (b - a) a = fl_s (mz_gI t 1) a b from rfl, fl_68 hn (by omega) n a (by omega) (by omega),
    show sp_bl (mz_gI t 1) (fl_s (mz_gI t 1) a b - a) a = fl_p (mz_gI t 1) a b from rfl, fl_91 n _ (by omega) (by omega) (by omega),
    show sp_tr (mz_gI t 1) (fl_s (mz_gI t 1) a b - fl_p (mz_gI t 1) a b) (fl_s (mz_gI t 1) a b) = fl_e (mz_gI t 1) a b from rfl]
  unfold f_MO_findLines_117 f_MO_findLines_152
  simp only [mz_let]
  rw [hc, if_pos (pz_in hc3 (by decide)), nI_clamp (by omega), show mz_gI (mz_pI t 2 c (nI (fl_p (mz_gI t 1) a b))) 0 3 = nI c from hc, if_pos (pz_in hc3 (by decide)), nI_clamp (by omega),
    show mz_gI (mz_pI (mz_pI t 2 c (nI (fl_p (mz_gI t 1) a b))) 3 c (nI (fl_e (mz_gI t 1) a b))) 0 3 = nI c from hc, nI_1, nI_1]
  rfl
theorem fl_9 {n len : Nat} (hn : 10000 ≤ n) (hl : len ≤ 3000) : ∀ m k a x c t, m = len + 1 - x → x ≤ len + 1 → a ≤ x → c ≤ a → m < k → mz_gI t 0 2 = nI len → mz_gI t 0 3 = nI c →
    f_MO_findLines_9 n k (nI a) (nI x) t = some (fl_go 2 3 0 3 (mz_gI t 1) len m a x c t) := by
  intro m
  induction m with
  | zero =>
    intro k a x c t hm hx _ _ hk h3 _
    obtain ⟨k, rfl⟩ : ∃ j, k = j + 1 := ⟨k - 1, by omega⟩
    unfold f_MO_findLines_9
    rw [h3, if_pos (nI_lt (by omega) (by omega))]
    rfl
  | succ m ih =>
    intro k a x c t hm hx ha hca hk h3 h4
    obtain ⟨k, rfl⟩ : ∃ j, k = j + 1 := ⟨k - 1, by omega⟩
    unfold f_MO_findLines_9
    rw [h3, if_neg (nI_nlt (by omega) (by omega)), fl_39 hn h4 (by omega) ha (by omega)]
    unfold f_MO_findLines_152
    have hA := ih k (x + 1) (x + 1) (c + 1) (fl_w 2 3 0 3 c (fl_p (mz_gI t 1) a x) (fl_e (mz_gI t 1) a x) t) (by omega) (by omega) (by omega) (by omega) (by omega) h3 rfl
    have hB := ih k a (x + 1) c t (by omega) (by omega) (by omega) hca (by omega) h3 h4
    rw [show mz_gI (fl_w 2 3 0 3 c (fl_p (mz_gI t 1) a x) (fl_e (mz_gI t 1) a x) t) 1 = mz_gI t 1 from rfl] at hA
    by_cases he : x = len
    · rw [if_pos (nI_le (by omega) (by omega)), hA]
      simp only [fl_go, he, true_or, if_true]
    · rw [if_neg (nI_ge (by omega) (by omega)), if_pos (pz_in (by omega) (by decide)), nI_clamp (by omega)]
      by_cases h10 : mz_gI t 1 x = 10
      · rw [if_pos h10, hA]
        simp only [fl_go, h10, or_true, if_true]
      · rw [if_neg h10, nI_1, hB]
        simp only [fl_go, he, h10, or_self, if_false]
theorem fl_ref {n len : Nat} {t : mz_St} (hn : 10000 ≤ n) (hl : len ≤ 3000) (h3 : mz_gI t 0 2 = nI len) :
    f_MO_findLines n t = some (fl_go 2 3 0 3 (mz_gI t 1) len (len + 1) 0 0 0 (mz_pI t 0 3 0)) := by
  exact fl_9 (t := mz_pI t 0 3 0) hn hl (len + 1) n 0 0 0 (by omega) (by omega) (by omega) (by omega) (by omega) h3 rfl
