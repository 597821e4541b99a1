/-! the least hours: crossing one cell, hour by hour or month by month -/
def csumF (sp : Int → Int) (b : Int) : Nat → Int
  | 0 => 0
  | n + 1 => csumF sp b n + sp (b + (n : Int))
theorem csum_mono {sp : Int → Int} {b : Int} (h : ∀ x, 0 ≤ sp x) {i j : Nat} (hij : i ≤ j) : csumF sp b i ≤ csumF sp b j := by
  induction j with
  | zero =>
    rw [show i = 0 by omega]
    exact Int.le_refl _
  | succ j ih =>
    by_cases e : i = j + 1
    · rw [e]
      exact Int.le_refl _
    · have h1 := ih (by omega)
      have h2 := h (b + (j : Int))
      show csumF sp b i ≤ csumF sp b j + sp (b + (j : Int))
      omega
theorem csum_same {sp : Int → Int} {b x : Int} {k n : Nat} (h : ∀ i : Nat, i < n → sp (b + ((k + i : Nat) : Int)) = x) : csumF sp b (k + n) = csumF sp b k + x * (n : Int) := by
  induction n with
  | zero =>
    rw [show ((0 : Nat) : Int) = 0 from rfl, Int.mul_zero, Int.add_zero]
    rfl
  | succ n ih =>
    have h1 := ih (fun i hi => h i (by omega))
    show csumF sp b (k + n) + sp (b + ((k + n : Nat) : Int)) = csumF sp b k + x * ((n + 1 : Nat) : Int)
    rw [h1, h n (by omega), show ((n + 1 : Nat) : Int) = (n : Int) + 1 from rfl, Int.mul_add, Int.mul_one]
    omega
def crossG (S : Nat → Int) (nd : Int) : Nat → Nat → Nat
  | 0, n => n
  | f + 1, n => if nd ≤ S n then n else crossG S nd f (n + 1)
/-- how many hours until enough is gone; one more than the most: it is not -/
def crossF (S : Nat → Int) (nd : Int) (most : Nat) : Nat := crossG S nd (most + 1) 0
theorem crossG_eq {S : Nat → Int} {nd : Int} {f n k : Nat} (hn : n ≤ k) (hk : k ≤ n + f) (h1 : ∀ i : Nat, n ≤ i → i < k → S i < nd) (h2 : nd ≤ S k ∨ k = n + f) : crossG S nd f n = k := by
  induction f generalizing n with
  | zero =>
    show n = k
    omega
  | succ f ih =>
    show (if nd ≤ S n then n else crossG S nd f (n + 1)) = k
    by_cases e : n = k
    · subst e
      rcases h2 with h2 | h2
      · exact if_pos h2
      · omega
    · rw [if_neg (by have := h1 n (Nat.le_refl _) (by omega); omega)]
      exact ih (by omega) (by omega) (fun i a b => h1 i (by omega) b) (by rcases h2 with h2 | h2; exact Or.inl h2; exact Or.inr (by omega))
theorem crossF_eq {S : Nat → Int} {nd : Int} {most k : Nat} (hk : k ≤ most + 1) (h1 : ∀ i : Nat, i < k → S i < nd) (h2 : nd ≤ S k ∨ k = most + 1) : crossF S nd most = k :=
  crossG_eq (Nat.zero_le _) (by omega) (fun i _ b => h1 i b) (by rcases h2 with h2 | h2; exact Or.inl h2; exact Or.inr (by omega))
theorem crossG_rng {S : Nat → Int} {nd : Int} {f n : Nat} : n ≤ crossG S nd f n ∧ crossG S nd f n ≤ n + f := by
  induction f generalizing n with
  | zero => exact ⟨Nat.le_refl _, Nat.le_refl _⟩
  | succ f ih =>
    show n ≤ (if nd ≤ S n then n else crossG S nd f (n + 1)) ∧ (if nd ≤ S n then n else crossG S nd f (n + 1)) ≤ n + (f + 1)
    have := @ih (n + 1)
    split <;> omega
theorem crossF_rng {S : Nat → Int} {nd : Int} {most : Nat} (h0 : S 0 < nd) : 1 ≤ crossF S nd most ∧ crossF S nd most ≤ most + 1 := by
  have h : crossF S nd most = crossG S nd most 1 := by
    show (if nd ≤ S 0 then 0 else crossG S nd most (0 + 1)) = _
    rw [if_neg (by omega)]
  have := @crossG_rng S nd most 1
  rw [h]
  omega
/-- the hour at whose begin a ship is in the next cell, or one beyond the last -/
def ComeP (sp : Int → Int) (nd lv la r : Int) : Prop := lv ≤ r ∧ (if r ≤ la then r - lv else la - lv + 1) = (crossF (csumF sp lv) nd (la - lv).toNat : Int)
/-- at a month's begin: what is left -/
def CmI (sp : Int → Int) (nd lv mo lf : Int) : Prop := lv / 720 ≤ mo ∧ ∃ k : Nat, max lv (mo * 720) = lv + (k : Int) ∧ lf = nd - csumF sp lv k ∧ 0 < lf
theorem CmI.start {sp : Int → Int} {nd lv : Int} (h : 0 < nd) : CmI sp nd lv (lv / 720) nd := ⟨Int.le_refl _, 0, by omega, by show nd = nd - 0; omega, h⟩
theorem CmI.step {sp : Int → Int} {nd lv mo lf at_ H s lf2 mo2 : Int} (I : CmI sp nd lv mo lf) (ha : at_ = max lv (mo * 720)) (hH : H = (mo + 1) * 720 - at_) (hs : s = sp at_) (hm : ∀ x y : Int, x / 720 = y / 720 → sp x = sp y) (hlt : s * H < lf) (e1 : lf2 = lf - s * H) (e2 : mo2 = mo + 1) : CmI sp nd lv mo2 lf2 := by
  obtain ⟨i1, k, i2, i3, i4⟩ := I
  have h5 : csumF sp lv (k + H.toNat) = csumF sp lv k + s * ((H.toNat : Nat) : Int) := csum_same (fun i hi => by
    rw [hs]
    exact hm _ _ (by omega))
  rw [show ((H.toNat : Nat) : Int) = H by omega] at h5
  exact ⟨by omega, k + H.toNat, by omega, by rw [h5]; omega, by omega⟩
theorem pos_of {lf s H : Int} (h0 : 0 < lf) (hs : 0 ≤ s) (hle : lf ≤ s * H) : 0 < s := by
  by_cases e : s = 0
  · rw [e, Int.zero_mul] at hle
    omega
  · omega
theorem ceil_of {lf s H q : Int} (h0 : 0 < lf) (hs : 0 < s) (hle : lf ≤ s * H) (hq : q = (lf + s - 1) / s) : 1 ≤ q ∧ q ≤ H ∧ lf ≤ s * q ∧ s * q - s < lf := by
  have h1 : s * ((lf + s - 1) / s) ≤ lf + s - 1 := Int.mul_ediv_self_le (by omega)
  have h2 : lf + s - 1 < s * ((lf + s - 1) / s) + s := Int.lt_mul_ediv_self_add hs
  rw [← hq] at h1 h2
  refine ⟨?_, ?_, by omega, by omega⟩
  · refine Decidable.byContradiction fun z => ?_
    have h3 : s * q ≤ s * 0 := Int.mul_le_mul_of_nonneg_left (by omega) (by omega)
    rw [Int.mul_zero] at h3
    omega
  · refine Decidable.byContradiction fun z => ?_
    have h3 : s * (H + 1) ≤ s * q := Int.mul_le_mul_of_nonneg_left (by omega) (by omega)
    rw [Int.mul_add, Int.mul_one] at h3
    omega
theorem CmI.hit {sp : Int → Int} {nd lv la mo lf at_ H s q r : Int} (I : CmI sp nd lv mo lf) (ha : at_ = max lv (mo * 720)) (hH : H = (mo + 1) * 720 - at_) (hs : s = sp at_) (hm : ∀ x y : Int, x / 720 = y / 720 → sp x = sp y) (hp : ∀ x, 0 ≤ sp x) (hla : lv ≤ la) (hle : lf ≤ s * H) (hq : q = (lf + s - 1) / s) (hr : r = at_ + q) : ComeP sp nd lv la r := by
  obtain ⟨i1, k, i2, i3, i4⟩ := I
  have s0 : 0 < s := pos_of i4 (by rw [hs]; exact hp _) hle
  obtain ⟨q1, q2, q3, q4⟩ := ceil_of i4 s0 hle hq
  have h5 : ∀ n : Nat, (n : Int) ≤ H → csumF sp lv (k + n) = csumF sp lv k + s * (n : Int) := fun n hn => csum_same (fun i hi => by
    rw [hs]
    exact hm _ _ (by omega))
  have h6 := h5 q.toNat (by omega)
  have h7 := h5 (q.toNat - 1) (by omega)
  rw [show ((q.toNat : Nat) : Int) = q by omega] at h6
  rw [show ((q.toNat - 1 : Nat) : Int) = q - 1 by omega, Int.mul_sub, Int.mul_one] at h7
  have h8 : ∀ i : Nat, i < k + q.toNat → csumF sp lv i < nd := fun i hi => by
    have := csum_mono (sp := sp) (b := lv) hp (show i ≤ k + (q.toNat - 1) by omega)
    omega
  refine ⟨by omega, ?_⟩
  by_cases c : r ≤ la
  · rw [if_pos c, crossF_eq (k := k + q.toNat) (by omega) h8 (Or.inl (by omega))]
    omega
  · rw [if_neg c, crossF_eq (k := (la - lv).toNat + 1) (Nat.le_refl _) (fun i hi => h8 i (by omega)) (Or.inr rfl)]
    omega
theorem CmI.fin {sp : Int → Int} {nd lv la mo lf r : Int} (I : CmI sp nd lv mo lf) (hp : ∀ x, 0 ≤ sp x) (hla : lv ≤ la) (hmo : la / 720 < mo) (hr : r = la + 1) : ComeP sp nd lv la r := by
  obtain ⟨i1, k, i2, i3, i4⟩ := I
  refine ⟨by omega, ?_⟩
  rw [if_neg (by omega), crossF_eq (k := (la - lv).toNat + 1) (Nat.le_refl _) (fun i hi => by
    have := csum_mono (sp := sp) (b := lv) hp (show i ≤ k by omega)
    omega) (Or.inr rfl)]
  omega
/-! the search: which cell next, what is come to from it -/
def hI (w : Nat → Int32) : Nat → Int := fun j => if j < 160 then (w j).toInt else 2001
def sI (w : Nat → Int32) : Nat → Int32 := fun j => if j < 160 then w j else 0
theorem hI_at {w : Nat → Int32} {j : Nat} (h : j < 160) : hI w j = (w j).toInt := if_pos h
theorem sI_at {w : Nat → Int32} {j : Nat} (h : j < 160) : sI w j = w j := if_pos h
theorem sI_upd {w : Nat → Int32} {k : Nat} {v : Int32} (h : k < 160) : sI (upd w k v) = upd (sI w) k v := by
  funext j
  by_cases e : j = k
  · subst e
    rw [sI_at h, upd_at, upd_at]
  · rw [upd_off _ _ e]
    unfold sI
    rw [upd_off _ _ e]
def pickF (h : Nat → Int) (s : Nat → Int32) : Nat → Int
  | 0 => -9
  | n + 1 => if s n = 0 ∧ h n ≤ 2000 ∧ (pickF h s n < 0 ∨ h n < h (pickF h s n).toNat) then (n : Int) else pickF h s n
theorem pick_rng {h : Nat → Int} {s : Nat → Int32} {n : Nat} : pickF h s n = -9 ∨ (0 ≤ pickF h s n ∧ pickF h s n < (n : Int)) := by
  induction n with
  | zero => exact Or.inl rfl
  | succ n ih =>
    show (if s n = 0 ∧ h n ≤ 2000 ∧ (pickF h s n < 0 ∨ h n < h (pickF h s n).toNat) then (n : Int) else pickF h s n) = -9 ∨ (0 ≤ (if s n = 0 ∧ h n ≤ 2000 ∧ (pickF h s n < 0 ∨ h n < h (pickF h s n).toNat) then (n : Int) else pickF h s n) ∧ (if s n = 0 ∧ h n ≤ 2000 ∧ (pickF h s n < 0 ∨ h n < h (pickF h s n).toNat) then (n : Int) else pickF h s n) < ((n + 1 : Nat) : Int))
    by_cases c : s n = 0 ∧ h n ≤ 2000 ∧ (pickF h s n < 0 ∨ h n < h (pickF h s n).toNat)
    · rw [if_pos c]
      exact Or.inr ⟨by omega, by omega⟩
    · rw [if_neg c]
      omega
theorem pick_yes {h : Nat → Int} {s : Nat → Int32} {n : Nat} (c : s n = 0 ∧ h n ≤ 2000 ∧ (pickF h s n < 0 ∨ h n < h (pickF h s n).toNat)) : pickF h s (n + 1) = (n : Int) := if_pos c
theorem pick_no {h : Nat → Int} {s : Nat → Int32} {n : Nat} (c : ¬ (s n = 0 ∧ h n ≤ 2000 ∧ (pickF h s n < 0 ∨ h n < h (pickF h s n).toNat))) : pickF h s (n + 1) = pickF h s n := if_neg c
theorem pick_spec {h : Nat → Int} {s : Nat → Int32} {n : Nat} (hp : 0 ≤ pickF h s n) : s (pickF h s n).toNat = 0 ∧ h (pickF h s n).toNat ≤ 2000 ∧ ∀ j : Nat, j < n → s j = 0 → h (pickF h s n).toNat ≤ h j := by
  induction n with
  | zero => exact absurd hp (by show ¬ (0 : Int) ≤ -9; omega)
  | succ n ih =>
    by_cases c : s n = 0 ∧ h n ≤ 2000 ∧ (pickF h s n < 0 ∨ h n < h (pickF h s n).toNat)
    · rw [pick_yes c, show ((n : Int)).toNat = n by omega]
      refine ⟨c.1, c.2.1, fun j hj hs => ?_⟩
      by_cases e : j = n
      · rw [e]
        exact Int.le_refl _
      · by_cases z : 0 ≤ pickF h s n
        · have h1 := (ih z).2.2 j (by omega) hs
          have h2 := c.2.2
          omega
        · refine Decidable.byContradiction fun y => ?_
          -- nothing unsettled below n has so few
          have key : ∀ m : Nat, m ≤ n → pickF h s m < 0 → ∀ i : Nat, i < m → s i = 0 → 2000 < h i := by
            intro m
            induction m with
            | zero => intro _ _ i hi; omega
            | succ m im =>
              intro hm hq i hi hsi
              by_cases c2 : s m = 0 ∧ h m ≤ 2000 ∧ (pickF h s m < 0 ∨ h m < h (pickF h s m).toNat)
              · rw [pick_yes c2] at hq
                omega
              · rw [pick_no c2] at hq
                by_cases e2 : i = m
                · subst e2
                  refine Decidable.byContradiction fun y2 => c2 ⟨hsi, by omega, Or.inl hq⟩
                · exact im (by omega) hq i (by omega) hsi
          have := key n (Nat.le_refl _) (by omega) j (by omega) hs
          have := c.2.1
          omega
    · rw [pick_no c] at hp ⊢
      obtain ⟨h1, h2, h3⟩ := ih hp
      refine ⟨h1, h2, fun j hj hs => ?_⟩
      by_cases e : j = n
      · subst e
        refine Decidable.byContradiction fun y => c ⟨hs, by omega, Or.inr (by omega)⟩
      · exact h3 j (by omega) hs
theorem pick_none {h : Nat → Int} {s : Nat → Int32} {n : Nat} (hp : pickF h s n < 0) : ∀ i : Nat, i < n → s i = 0 → 2000 < h i := by
  induction n with
  | zero => intro i hi; omega
  | succ n ih =>
    intro i hi hsi
    by_cases c : s n = 0 ∧ h n ≤ 2000 ∧ (pickF h s n < 0 ∨ h n < h (pickF h s n).toNat)
    · rw [pick_yes c] at hp
      omega
    · rw [pick_no c] at hp
      by_cases e : i = n
      · subst e
        refine Decidable.byContradiction fun y => c ⟨hsi, by omega, Or.inl hp⟩
      · exact ih hp i (by omega) hsi
/-- all ways from a cell: the class looks at every cell, the reference at those that are not settled -/
def rlxC (nx : Int → Int) (F : Int → Int → Int) (c : Nat) (h : Nat → Int) : Nat → (Nat → Int)
  | 0 => h
  | w + 1 => if nx (w : Int) = -9 then rlxC nx F c h w else fun j => if (j : Int) = nx (w : Int) ∧ F (w : Int) (rlxC nx F c h w c) < rlxC nx F c h w j then F (w : Int) (rlxC nx F c h w c) else rlxC nx F c h w j
def rlxR (nx : Int → Int) (F : Int → Int → Int) (s : Nat → Int32) (c : Nat) (h : Nat → Int) : Nat → (Nat → Int)
  | 0 => h
  | w + 1 => if nx (w : Int) = -9 ∨ ¬ s (nx (w : Int)).toNat = 0 then rlxR nx F s c h w else fun j => if (j : Int) = nx (w : Int) ∧ F (w : Int) (rlxR nx F s c h w c) < rlxR nx F s c h w j then F (w : Int) (rlxR nx F s c h w c) else rlxR nx F s c h w j
theorem rlxC_none {nx : Int → Int} {F : Int → Int → Int} {c : Nat} {h : Nat → Int} {w : Nat} (e : nx (w : Int) = -9) : rlxC nx F c h (w + 1) = rlxC nx F c h w := if_pos e
theorem rlxC_some {nx : Int → Int} {F : Int → Int → Int} {c : Nat} {h : Nat → Int} {w : Nat} (e : nx (w : Int) ≠ -9) : rlxC nx F c h (w + 1) = fun j : Nat => if (j : Int) = nx (w : Int) ∧ F (w : Int) (rlxC nx F c h w c) < rlxC nx F c h w j then F (w : Int) (rlxC nx F c h w c) else rlxC nx F c h w j := if_neg e
theorem rlxR_none {nx : Int → Int} {F : Int → Int → Int} {s : Nat → Int32} {c : Nat} {h : Nat → Int} {w : Nat} (e : nx (w : Int) = -9 ∨ ¬ s (nx (w : Int)).toNat = 0) : rlxR nx F s c h (w + 1) = rlxR nx F s c h w := if_pos e
theorem rlxR_some {nx : Int → Int} {F : Int → Int → Int} {s : Nat → Int32} {c : Nat} {h : Nat → Int} {w : Nat} (e : ¬ (nx (w : Int) = -9 ∨ ¬ s (nx (w : Int)).toNat = 0)) : rlxR nx F s c h (w + 1) = fun j : Nat => if (j : Int) = nx (w : Int) ∧ F (w : Int) (rlxR nx F s c h w c) < rlxR nx F s c h w j then F (w : Int) (rlxR nx F s c h w c) else rlxR nx F s c h w j := if_neg e
theorem rlxC_le {nx : Int → Int} {F : Int → Int → Int} {c : Nat} {h : Nat → Int} (w j : Nat) : rlxC nx F c h w j ≤ h j := by
  induction w with
  | zero => exact Int.le_refl _
  | succ w ih =>
    by_cases e : nx (w : Int) = -9
    · rw [rlxC_none e]
      exact ih
    · rw [rlxC_some e]
      show (if (j : Int) = nx (w : Int) ∧ F (w : Int) (rlxC nx F c h w c) < rlxC nx F c h w j then F (w : Int) (rlxC nx F c h w c) else rlxC nx F c h w j) ≤ h j
      split <;> omega
theorem rlxR_le {nx : Int → Int} {F : Int → Int → Int} {s : Nat → Int32} {c : Nat} {h : Nat → Int} (w j : Nat) : rlxR nx F s c h w j ≤ h j := by
  induction w with
  | zero => exact Int.le_refl _
  | succ w ih =>
    by_cases e : nx (w : Int) = -9 ∨ ¬ s (nx (w : Int)).toNat = 0
    · rw [rlxR_none e]
      exact ih
    · rw [rlxR_some e]
      show (if (j : Int) = nx (w : Int) ∧ F (w : Int) (rlxR nx F s c h w c) < rlxR nx F s c h w j then F (w : Int) (rlxR nx F s c h w c) else rlxR nx F s c h w j) ≤ h j
      split <;> omega
theorem rlx_same {nx : Int → Int} {F : Int → Int → Int} {c : Nat} {h : Nat → Int} {s : Nat → Int32} (hc : c < 160) (hs : ¬ s c = 0) (hmax : ∀ d : Nat, d < 160 → ¬ s d = 0 → h d ≤ h c) (hF : ∀ w t : Int, 0 ≤ t → t ≤ 2000 → t + 1 ≤ F w t ∧ F w t ≤ 2001) (hnx : ∀ w : Int, nx w = -9 ∨ (0 ≤ nx w ∧ nx w ≤ 159)) (h0 : 0 ≤ h c ∧ h c ≤ 2000) (n : Nat) : rlxC nx F c h n = rlxR nx F s c h n ∧ (∀ d : Nat, d < 160 → ¬ s d = 0 → rlxC nx F c h n d = h d) ∧ (∀ u : Nat, u < 160 → s u = 0 → rlxC nx F c h n u = h u ∨ (h c + 1 ≤ rlxC nx F c h n u ∧ rlxC nx F c h n u ≤ 2001)) := by
  induction n with
  | zero => exact ⟨rfl, fun _ _ _ => rfl, fun _ _ _ => Or.inl rfl⟩
  | succ n ih =>
    obtain ⟨i1, i2, i3⟩ := ih
    by_cases e : nx (n : Int) = -9
    · rw [rlxC_none e, rlxR_none (Or.inl e)]
      exact ⟨i1, i2, i3⟩
    · have hr : 0 ≤ nx (n : Int) ∧ nx (n : Int) ≤ 159 := by
        rcases hnx (n : Int) with z | z
        · exact absurd z e
        · exact z
      have gc := i2 c hc hs
      have f1 := hF (n : Int) (h c) h0.1 h0.2
      by_cases sk : s (nx (n : Int)).toNat = 0
      · have hR := rlxR_some (F := F) (c := c) (h := h) (fun z => by rcases z with z | z; exact e z; exact z sk)
        rw [rlxC_some e, hR, ← i1]
        refine ⟨rfl, fun d hd hsd => ?_, fun u hu hsu => ?_⟩
        · show (if (d : Int) = nx (n : Int) ∧ F (n : Int) (rlxC nx F c h n c) < rlxC nx F c h n d then F (n : Int) (rlxC nx F c h n c) else rlxC nx F c h n d) = h d
          rw [if_neg (fun z => hsd (by rw [show d = (nx (n : Int)).toNat by omega]; exact sk))]
          exact i2 d hd hsd
        · show (if (u : Int) = nx (n : Int) ∧ F (n : Int) (rlxC nx F c h n c) < rlxC nx F c h n u then F (n : Int) (rlxC nx F c h n c) else rlxC nx F c h n u) = h u ∨ (h c + 1 ≤ (if (u : Int) = nx (n : Int) ∧ F (n : Int) (rlxC nx F c h n c) < rlxC nx F c h n u then F (n : Int) (rlxC nx F c h n c) else rlxC nx F c h n u) ∧ (if (u : Int) = nx (n : Int) ∧ F (n : Int) (rlxC nx F c h n c) < rlxC nx F c h n u then F (n : Int) (rlxC nx F c h n c) else rlxC nx F c h n u) ≤ 2001)
          by_cases q : (u : Int) = nx (n : Int) ∧ F (n : Int) (rlxC nx F c h n c) < rlxC nx F c h n u
          · rw [if_pos q, gc]
            exact Or.inr f1
          · rw [if_neg q]
            exact i3 u hu hsu
      · have hk : (nx (n : Int)).toNat < 160 := by omega
        have hg : rlxC nx F c h (n + 1) = rlxC nx F c h n := by
          rw [rlxC_some e]
          funext j
          refine if_neg (fun z => ?_)
          have hj : j = (nx (n : Int)).toNat := by omega
          have h1 := i2 (nx (n : Int)).toNat hk sk
          have h2 := hmax (nx (n : Int)).toNat hk sk
          have h3 := z.2
          rw [gc, hj, h1] at h3
          omega
        rw [hg, rlxR_none (Or.inr sk)]
        exact ⟨i1, i2, i3⟩
def runC (NX : Int → Int → Int) (FF : Int → Int → Int → Int) (to : Int) : Nat → (Nat → Int) → (Nat → Int32) → (Nat → Int)
  | 0, h, _ => h
  | f + 1, h, s => if pickF h s 160 < 0 ∨ pickF h s 160 = to then h else runC NX FF to f (rlxC (NX (pickF h s 160)) (FF (pickF h s 160)) (pickF h s 160).toNat h 8) (upd s (pickF h s 160).toNat 1)
def runR (NX : Int → Int → Int) (FF : Int → Int → Int → Int) (to : Int) : Nat → (Nat → Int) → (Nat → Int32) → (Nat → Int)
  | 0, h, _ => h
  | f + 1, h, s => if pickF h s 160 < 0 ∨ pickF h s 160 = to then h else runR NX FF to f (rlxR (NX (pickF h s 160)) (FF (pickF h s 160)) (upd s (pickF h s 160).toNat 1) (pickF h s 160).toNat h 8) (upd s (pickF h s 160).toNat 1)
theorem runC_stop {NX : Int → Int → Int} {FF : Int → Int → Int → Int} {to : Int} {f : Nat} {h : Nat → Int} {s : Nat → Int32} (e : pickF h s 160 < 0 ∨ pickF h s 160 = to) : runC NX FF to f h s = h := by
  cases f with
  | zero => rfl
  | succ f => exact if_pos e
theorem runC_go {NX : Int → Int → Int} {FF : Int → Int → Int → Int} {to : Int} {f : Nat} {h : Nat → Int} {s : Nat → Int32} (e : ¬ (pickF h s 160 < 0 ∨ pickF h s 160 = to)) : runC NX FF to (f + 1) h s = runC NX FF to f (rlxC (NX (pickF h s 160)) (FF (pickF h s 160)) (pickF h s 160).toNat h 8) (upd s (pickF h s 160).toNat 1) := if_neg e
theorem runR_stop {NX : Int → Int → Int} {FF : Int → Int → Int → Int} {to : Int} {f : Nat} {h : Nat → Int} {s : Nat → Int32} (e : pickF h s 160 < 0 ∨ pickF h s 160 = to) : runR NX FF to f h s = h := by
  cases f with
  | zero => rfl
  | succ f => exact if_pos e
theorem runR_go {NX : Int → Int → Int} {FF : Int → Int → Int → Int} {to : Int} {f : Nat} {h : Nat → Int} {s : Nat → Int32} (e : ¬ (pickF h s 160 < 0 ∨ pickF h s 160 = to)) : runR NX FF to (f + 1) h s = runR NX FF to f (rlxR (NX (pickF h s 160)) (FF (pickF h s 160)) (upd s (pickF h s 160).toNat 1) (pickF h s 160).toNat h 8) (upd s (pickF h s 160).toNat 1) := if_neg e
/-- settled ones have the fewest hours -/
def DI (h : Nat → Int) (s : Nat → Int32) : Prop := (∀ j : Nat, j < 160 → 0 ≤ h j ∧ h j ≤ 2001) ∧ ∀ d u : Nat, d < 160 → u < 160 → ¬ s d = 0 → s u = 0 → h d ≤ h u
theorem run_same {NX : Int → Int → Int} {FF : Int → Int → Int → Int} {to : Int} (hNX : ∀ c w : Int, NX c w = -9 ∨ (0 ≤ NX c w ∧ NX c w ≤ 159)) (hFF : ∀ c w t : Int, 0 ≤ t → t ≤ 2000 → t + 1 ≤ FF c w t ∧ FF c w t ≤ 2001) (f : Nat) (h : Nat → Int) (s : Nat → Int32) (D : DI h s) : runC NX FF to f h s = runR NX FF to f h s := by
  induction f generalizing h s with
  | zero => rfl
  | succ f ih =>
    by_cases e : pickF h s 160 < 0 ∨ pickF h s 160 = to
    · rw [runC_stop e, runR_stop e]
    · rw [runC_go e, runR_go e]
      have hr : 0 ≤ pickF h s 160 ∧ pickF h s 160 < 160 := by
        rcases (pick_rng : pickF h s 160 = -9 ∨ (0 ≤ pickF h s 160 ∧ pickF h s 160 < ((160 : Nat) : Int))) with z | z
        · exact absurd (Or.inl (by omega)) e
        · omega
      obtain ⟨p1, p2, p3⟩ := pick_spec hr.1
      have hc : (pickF h s 160).toNat < 160 := by omega
      obtain ⟨D1, D2⟩ := D
      have hmax : ∀ d : Nat, d < 160 → ¬ upd s (pickF h s 160).toNat 1 d = 0 → h d ≤ h (pickF h s 160).toNat := fun d hd hs => by
        by_cases z : d = (pickF h s 160).toNat
        · rw [z]
          exact Int.le_refl _
        · rw [upd_off _ _ z] at hs
          exact D2 d _ hd hc hs p1
      obtain ⟨r1, r2, r3⟩ := rlx_same (nx := NX (pickF h s 160)) (F := FF (pickF h s 160)) (s := upd s (pickF h s 160).toNat 1) hc (by rw [upd_at]; decide) hmax (fun w t a b => hFF _ w t a b) (fun w => hNX _ w) ⟨(D1 _ hc).1, p2⟩ 8
      rw [← r1]
      refine ih _ _ ⟨fun j hj => ?_, fun d u hd hu hsd hsu => ?_⟩
      · by_cases z : upd s (pickF h s 160).toNat 1 j = 0
        · have h0 := (D1 _ hc).1
          have h1 := D1 j hj
          rcases r3 j hj z with y | y
          · rw [y]
            exact h1
          · omega
        · rw [r2 j hj z]
          exact D1 j hj
      · have h1 := hmax d hd hsd
        rw [r2 d hd hsd]
        have hsu2 : s u = 0 := by
          by_cases z : u = (pickF h s 160).toNat
          · rw [z]
            exact p1
          · rw [upd_off _ _ z] at hsu
            exact hsu
        have h2 := p3 u hu hsu2
        rcases r3 u hu hsu with y | y
        · rw [y]
          omega
        · omega
theorem runC_congr {NX : Int → Int → Int} {FF FF2 : Int → Int → Int → Int} {to : Int} (hFF : ∀ c w t : Int, 0 ≤ c ∧ c ≤ 159 → FF c w t = FF2 c w t) (f : Nat) (h : Nat → Int) (s : Nat → Int32) : runC NX FF to f h s = runC NX FF2 to f h s := by
  induction f generalizing h s with
  | zero => rfl
  | succ f ih =>
    by_cases e : pickF h s 160 < 0 ∨ pickF h s 160 = to
    · rw [runC_stop e, runC_stop e]
    · rw [runC_go e, runC_go e]
      have hr : 0 ≤ pickF h s 160 ∧ pickF h s 160 ≤ 159 := by
        rcases (pick_rng : pickF h s 160 = -9 ∨ (0 ≤ pickF h s 160 ∧ pickF h s 160 < ((160 : Nat) : Int))) with z | z
        · exact absurd (Or.inl (by omega)) e
        · omega
      rw [show FF (pickF h s 160) = FF2 (pickF h s 160) from funext fun w => funext fun t => hFF _ w t hr]
      exact ih _ _
/-- the hours to the next cell, by the hours to this one -/
def FFo (sp : Int → Int → Int → Int) (st c w t : Int) : Int := t + (crossF (csumF (fun h => sp h c w) (st + t)) (needF w) (2000 - t).toNat : Int)
theorem FFo_rng {sp : Int → Int → Int → Int} {st c w t : Int} (h0 : 0 ≤ t) (h1 : t ≤ 2000) : t + 1 ≤ FFo sp st c w t ∧ FFo sp st c w t ≤ 2001 := by
  have hn := needF_rng w
  have h2 := crossF_rng (S := csumF (fun h => sp h c w) (st + t)) (nd := needF w) (most := (2000 - t).toNat) (by show (0 : Int) < needF w; omega)
  unfold FFo
  omega
def h00 (fr : Int) : Nat → Int := fun j => if (j : Int) = fr then 0 else 2001
theorem h00_of {w : Nat → Int32} {fr : Int} (hf : 0 ≤ fr ∧ fr ≤ 159) (h : ∀ j : Nat, j < 160 → (w j).toInt = if (j : Int) = fr then 0 else 2001) : hI w = h00 fr := by
  funext j
  by_cases c : j < 160
  · rw [hI_at c]
    exact h j c
  · unfold hI h00
    rw [if_neg c, if_neg (by omega)]
theorem s00_of {w : Nat → Int32} (h : ∀ j : Nat, j < 160 → w j = 0) : sI w = fun _ => 0 := by
  funext j
  by_cases c : j < 160
  · rw [sI_at c]
    exact h j c
  · unfold sI
    rw [if_neg c]
theorem DI_start {fr : Int} : DI (h00 fr) (fun _ => 0) := ⟨fun j _ => by unfold h00; split <;> omega, fun _ _ _ _ h => absurd rfl h⟩
theorem pick_start {fr : Int} (hf : 0 ≤ fr ∧ fr ≤ 159) : pickF (h00 fr) (fun _ => 0) 160 = fr := by
  have h1 : h00 fr fr.toNat = 0 := if_pos (by omega)
  by_cases z : 0 ≤ pickF (h00 fr) (fun _ => 0) 160
  · obtain ⟨-, p2, p3⟩ := pick_spec z
    have p4 := p3 fr.toNat (by omega) rfl
    unfold h00 at p2
    by_cases y : (((pickF (h00 fr) (fun _ => 0) 160).toNat : Nat) : Int) = fr
    · omega
    · have y2 : ¬ (((pickF (fun j : Nat => if (j : Int) = fr then (0 : Int) else 2001) (fun _ => 0) 160).toNat : Nat) : Int) = fr := y
      rw [if_neg y2] at p2
      omega
  · have := pick_none (show pickF (h00 fr) (fun _ => 0) 160 < 0 by omega) fr.toNat (by omega) rfl
    omega
theorem unset_all {f : Nat → Int32} {n : Nat} (h : ∀ j : Nat, j < n → f j = 0) : unset f n = n := by
  induction n with
  | zero => rfl
  | succ n ih =>
    unfold unset
    rw [ih (fun j hj => h j (by omega)), if_pos (h n (by omega))]
/-- what is told: none, or the hours -/
def lstF (R : Nat → Int) (to : Int) : Int := if R to.toNat = 2001 then -9 else R to.toNat
/-! the search, as the machines' rows show it -/
theorem pick_step {Kh Kd : Nat → Int32} {i j be bn : Int32} (h : be.toInt = pickF (hI Kh) (sI Kd) i.toNatClampNeg) (hi : 0 ≤ i.toInt ∧ i.toInt < 160) (hb : be.toInt ≤ 159) (hj : j.toInt = i.toInt + 1) (hn : bn.toInt = if ((Kd i.toNatClampNeg).toInt = 0 ∧ (Kh i.toNatClampNeg).toInt ≤ 2000 ∧ (be.toInt < 0 ∨ (Kh i.toNatClampNeg).toInt < (Kh be.toNatClampNeg).toInt)) then i.toInt else be.toInt) : bn.toInt = pickF (hI Kh) (sI Kd) j.toNatClampNeg := by
  have hk : (i.toNatClampNeg : Int) = i.toInt := Int.toNat_of_nonneg hi.1
  have hlt : i.toNatClampNeg < 160 := by omega
  have hbe : be.toNatClampNeg < 160 := by
    show be.toInt.toNat < 160
    omega
  have e1 : hI Kh i.toNatClampNeg = (Kh i.toNatClampNeg).toInt := hI_at hlt
  have e2 : sI Kd i.toNatClampNeg = Kd i.toNatClampNeg := sI_at hlt
  have e3 : hI Kh be.toInt.toNat = (Kh be.toNatClampNeg).toInt := hI_at hbe
  rw [tn_next hi.1 hj]
  by_cases c : (Kd i.toNatClampNeg).toInt = 0 ∧ (Kh i.toNatClampNeg).toInt ≤ 2000 ∧ (be.toInt < 0 ∨ (Kh i.toNatClampNeg).toInt < (Kh be.toNatClampNeg).toInt)
  · rw [if_pos c] at hn
    rw [pick_yes (by rw [← h, e1, e2, e3]; exact ⟨Int32.toInt_inj.mp c.1, c.2.1, c.2.2⟩), hn]
    exact hk.symm
  · rw [if_neg c] at hn
    rewrite [pick_no (fun z => c (by rw [← h, e1, e2, e3] at z; exact ⟨by rw [z.1]; rfl, z.2.1, z.2.2⟩)), hn]
    exact h
theorem come_FF {sp : Int → Int → Int → Int} {st c w t r x : Int} (h : ComeP (fun h => sp h c w) (needF w) (st + t) (st + 2000) r) (h0 : 0 ≤ t) (h1 : t ≤ 2000) (hx : x = r - st) : x = FFo sp st c w t ∨ (2000 < x ∧ 2000 < FFo sp st c w t) := by
  obtain ⟨c1, c2⟩ := h
  rw [show (st + 2000 - (st + t)).toNat = (2000 - t).toNat by omega] at c2
  unfold FFo
  by_cases z : r ≤ st + 2000
  · rw [if_pos z] at c2
    omega
  · rw [if_neg z] at c2
    omega
theorem nat_int {i : Int32} (h0 : 0 ≤ i.toInt) : ((i.toNatClampNeg : Nat) : Int) = i.toInt := Int.toNat_of_nonneg h0
theorem rlxC_skip {nx : Int → Int} {F : Int → Int → Int} {c : Nat} {h : Nat → Int} {wh : Nat → Int32} {iw jw nr : Int32} (hx : hI wh = rlxC nx F c h iw.toNatClampNeg) (h0 : 0 ≤ iw.toInt) (hj : jw.toInt = iw.toInt + 1) (hn : nr.toInt = nx iw.toInt) (h9 : nr.toInt = -9) : hI wh = rlxC nx F c h jw.toNatClampNeg := by
  rw [tn_next h0 hj, rlxC_none (by rw [nat_int h0, ← hn]; exact h9)]
  exact hx
theorem rlxC_step {nx : Int → Int} {F : Int → Int → Int} {c : Nat} {h : Nat → Int} {wh uh : Nat → Int32} {iw jw nr x : Int32} (hx : hI wh = rlxC nx F c h iw.toNatClampNeg) (h0 : 0 ≤ iw.toInt) (hj : jw.toInt = iw.toInt + 1) (hn : nr.toInt = nx iw.toInt) (hr : 0 ≤ nr.toInt ∧ nr.toInt ≤ 159) (hc : c < 160) (hu : uh = if x.toInt < (wh nr.toNatClampNeg).toInt then upd wh nr.toNatClampNeg x else wh) (hw : (wh nr.toNatClampNeg).toInt ≤ 2001) (hF : x.toInt = F iw.toInt (wh c).toInt ∨ (2000 < x.toInt ∧ 2000 < F iw.toInt (wh c).toInt)) : hI uh = rlxC nx F c h jw.toNatClampNeg := by
  have hnn : ((nr.toNatClampNeg : Nat) : Int) = nr.toInt := Int.toNat_of_nonneg hr.1
  have hk : nr.toNatClampNeg < 160 := by omega
  rw [tn_next h0 hj, rlxC_some (by rw [nat_int h0, ← hn]; omega), nat_int h0, ← hx, ← hn, hI_at hc]
  funext j
  by_cases q : j = nr.toNatClampNeg
  · rw [q, hI_at hk, hI_at hk]
    by_cases z : x.toInt < (wh nr.toNatClampNeg).toInt
    · rw [if_pos z] at hu
      rw [hu, upd_at, if_pos ⟨hnn, by omega⟩]
      omega
    · rw [if_neg z] at hu
      rw [hu, if_neg (fun y => z (by have := y.2; omega))]
  · rw [if_neg (fun y => q (by have := y.1; omega))]
    unfold hI
    by_cases z : x.toInt < (wh nr.toNatClampNeg).toInt
    · rw [if_pos z] at hu
      rw [hu, upd_off _ _ q]
    · rw [if_neg z] at hu
      rw [hu]
theorem rlxR_skip {nx : Int → Int} {F : Int → Int → Int} {s : Nat → Int32} {c : Nat} {h : Nat → Int} {wh : Nat → Int32} {iw jw nr : Int32} (hx : hI wh = rlxR nx F (sI s) c h iw.toNatClampNeg) (h0 : 0 ≤ iw.toInt) (hj : jw.toInt = iw.toInt + 1) (hn : nr.toInt = nx iw.toInt) (h9 : nr.toInt = -9 ∨ (0 ≤ nr.toInt ∧ nr.toInt ≤ 159 ∧ (s nr.toNatClampNeg).toInt ≠ 0)) : hI wh = rlxR nx F (sI s) c h jw.toNatClampNeg := by
  rw [tn_next h0 hj, rlxR_none (by
    rw [nat_int h0, ← hn]
    rcases h9 with z | ⟨z1, z2, z3⟩
    · exact Or.inl z
    · refine Or.inr (fun y => z3 ?_)
      have hk : nr.toInt.toNat < 160 := by omega
      rw [sI_at hk] at y
      have y : s nr.toNatClampNeg = 0 := y
      rw [y]
      rfl)]
  exact hx
theorem rlxR_step {nx : Int → Int} {F : Int → Int → Int} {s : Nat → Int32} {c : Nat} {h : Nat → Int} {wh : Nat → Int32} {iw jw nr y : Int32} (hx : hI wh = rlxR nx F (sI s) c h iw.toNatClampNeg) (h0 : 0 ≤ iw.toInt) (hj : jw.toInt = iw.toInt + 1) (hn : nr.toInt = nx iw.toInt) (hr : 0 ≤ nr.toInt ∧ nr.toInt ≤ 159) (hs : (s nr.toNatClampNeg).toInt = 0) (hc : c < 160) (hy : y.toInt = if F iw.toInt (wh c).toInt < (wh nr.toNatClampNeg).toInt then F iw.toInt (wh c).toInt else (wh nr.toNatClampNeg).toInt) : hI (upd wh nr.toNatClampNeg y) = rlxR nx F (sI s) c h jw.toNatClampNeg := by
  have hnn : ((nr.toNatClampNeg : Nat) : Int) = nr.toInt := Int.toNat_of_nonneg hr.1
  have hk : nr.toNatClampNeg < 160 := by omega
  have hs2 : sI s nr.toInt.toNat = 0 := (sI_at hk).trans (Int32.toInt_inj.mp hs)
  rw [tn_next h0 hj, rlxR_some (by rw [nat_int h0, ← hn]; intro z; rcases z with z | z; omega; exact z hs2), nat_int h0, ← hx, ← hn, hI_at hc]
  funext j
  by_cases q : j = nr.toNatClampNeg
  · rw [q, hI_at hk, hI_at hk, upd_at]
    by_cases z : F iw.toInt (wh c).toInt < (wh nr.toNatClampNeg).toInt
    · rw [if_pos z] at hy
      rw [if_pos ⟨hnn, z⟩]
      exact hy
    · rw [if_neg z] at hy
      rw [if_neg (fun y => z y.2)]
      exact hy
  · rw [if_neg (fun y => q (by have := y.1; omega))]
    unfold hI
    rw [upd_off _ _ q]
theorem runC_next {NX : Int → Int → Int} {FF : Int → Int → Int → Int} {to : Int} {h h2 R : Nat → Int} {wd : Nat → Int32} {tk x p v : Int32} (hR : runC NX FF to (160 - tk.toInt.toNat) h (sI wd) = R) (h0 : 0 ≤ tk.toInt ∧ tk.toInt < 160) (hx : x.toInt = tk.toInt + 1) (hp : p.toInt = pickF h (sI wd) 160) (h1 : 0 ≤ p.toInt) (hto : p.toInt ≠ to) (hv : v = 1) (hh : h2 = rlxC (NX p.toInt) (FF p.toInt) p.toNatClampNeg h 8) : runC NX FF to (160 - x.toInt.toNat) h2 (sI (upd wd p.toNatClampNeg v)) = R := by
  have hq : p.toNatClampNeg < 160 := by
    rcases (pick_rng : pickF h (sI wd) 160 = -9 ∨ (0 ≤ pickF h (sI wd) 160 ∧ pickF h (sI wd) 160 < ((160 : Nat) : Int))) with z | z
    · omega
    · show p.toInt.toNat < 160
      omega
  rw [← hR, show 160 - tk.toInt.toNat = (160 - x.toInt.toNat) + 1 by omega, runC_go (by rw [← hp]; omega), ← hp, hh, hv, sI_upd hq]
  rfl
theorem runR_next {NX : Int → Int → Int} {FF : Int → Int → Int → Int} {to : Int} {h h2 R : Nat → Int} {wd : Nat → Int32} {p v : Int32} (hR : runR NX FF to (unset wd 160) h (sI wd) = R) (hp : p.toInt = pickF h (sI wd) 160) (h1 : 0 ≤ p.toInt) (hto : p.toInt ≠ to) (hv : v = 1) (hh : h2 = rlxR (NX p.toInt) (FF p.toInt) (sI (upd wd p.toNatClampNeg v)) p.toNatClampNeg h 8) : runR NX FF to (unset (upd wd p.toNatClampNeg v) 160) h2 (sI (upd wd p.toNatClampNeg v)) = R := by
  have hq : p.toNatClampNeg < 160 := by
    rcases (pick_rng : pickF h (sI wd) 160 = -9 ∨ (0 ≤ pickF h (sI wd) 160 ∧ pickF h (sI wd) 160 < ((160 : Nat) : Int))) with z | z
    · omega
    · show p.toInt.toNat < 160
      omega
  have hsp := (pick_spec (h := h) (s := sI wd) (n := 160) (by omega)).1
  rw [← hp] at hsp
  have hsp : wd p.toNatClampNeg = 0 := (sI_at hq).symm.trans hsp
  have hun := unset_upd (f := wd) (v := v) hq hsp (by rw [hv]; decide)
  rw [← hR, ← hun, runR_go (by rw [← hp]; omega), ← hp, hh, hv, sI_upd hq]
  rfl
theorem least_end {R : Nat → Int} {wh : Nat → Int32} {to x r : Int32} (hfin : hI wh = R) (ht : 0 ≤ to.toInt ∧ to.toInt ≤ 159) (hx : x.toInt = (wh to.toNatClampNeg).toInt) (hr : r.toInt = if x.toInt = 2001 then -9 else x.toInt) : r.toInt = lstF R to.toInt := by
  have hk : to.toNatClampNeg < 160 := by
    show to.toInt.toNat < 160
    omega
  have e : hI wh to.toInt.toNat = x.toInt := (hI_at hk).trans hx.symm
  unfold lstF
  rw [← hfin, e]
  exact hr
